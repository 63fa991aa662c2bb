def kp_P (n : Nat) : Prop := 2 ≤ n ∧ ∀ t, 2 ≤ t → t < n → ¬ n % t = 0
noncomputable def kp_prime (x : Int32) : Int32 := @ite Int32 (kp_P x.toInt.toNat) (Classical.propDecidable _) (nI 1) (nI 0)
theorem kp_prime_t {N : Nat} (hN : N < 2 ^ 31) (h : kp_P N) : nI 1 = kp_prime (nI N) := by
  unfold kp_prime
  rw [nI_toInt hN, Int.toNat_natCast, if_pos h]
theorem kp_prime_f {N : Nat} (hN : N < 2 ^ 31) (h : ¬ kp_P N) : nI 0 = kp_prime (nI N) := by
  unfold kp_prime
  rw [nI_toInt hN, Int.toNat_natCast, if_neg h]
theorem kp_prime_lo {x : Int32} (h : ¬ nI 5 ≤ x) (h2 : ¬ x = nI 2) (h3 : ¬ x = nI 3) : nI 0 = kp_prime x := by
  unfold kp_prime
  rw [if_neg]
  rintro ⟨q1, q2⟩
  rw [Int32.le_iff_toInt_le, nI_toInt (by decide)] at h
  have a2 : x.toInt ≠ 2 := fun q => h2 (Int32.toInt_inj.mp (by rw [nI_toInt (by decide)]; exact q))
  have a3 : x.toInt ≠ 3 := fun q => h3 (Int32.toInt_inj.mp (by rw [nI_toInt (by decide)]; exact q))
  have a4 : x.toInt = 4 := by omega
  rw [a4] at q2
  exact q2 2 (by decide) (by decide) (by decide)
theorem kp_P2 : kp_P 2 := ⟨by decide, fun t h1 h2 => by omega⟩
theorem kp_P3 : kp_P 3 := ⟨by decide, fun t h1 h2 => by
  have : t = 2 := by omega
  subst this
  decide⟩
theorem kp_P_div {N t : Nat} (h1 : 2 ≤ t) (h2 : t < N) (h : N % t = 0) : ¬ kp_P N := fun q => q.2 t h1 h2 h
/-- no divisor below d, and N < d * d -/
theorem kp_P_of {N d : Nat} (h2 : 2 ≤ N) (hd : ∀ t, 2 ≤ t → t < d → ¬ N % t = 0) (h : N < d * d) : kp_P N := by
  refine ⟨h2, fun t h1 h3 h4 => ?_⟩
  by_cases ht : t < d
  · exact hd t h1 ht h4
  · have e : t * (N / t) = N := by
      have := Nat.div_add_mod N t
      omega
    have hk : N / t < d := by
      apply Nat.lt_of_not_le
      intro q
      have := Nat.mul_le_mul (Nat.le_of_not_lt ht) q
      omega
    have hk2 : 2 ≤ N / t := by
      apply Nat.le_of_not_lt
      intro q
      rcases Nat.le_one_iff_eq_zero_or_eq_one.mp (Nat.le_of_lt_succ q) with z | z
      · rw [z] at e; omega
      · rw [z] at e; omega
    refine hd (N / t) hk2 hk ?_
    exact Nat.mod_eq_zero_of_dvd ⟨t, by rw [Nat.mul_comm]; exact e.symm⟩
theorem kp_nI0 {a : Nat} (ha : a < 2 ^ 31) (h : nI a = 0) : a = 0 := by
  rw [← nI_0] at h
  exact (nI_eq ha (by decide)).mp h
theorem kp_nI0' {a : Nat} (h : ¬ nI a = 0) : ¬ a = 0 := fun q => h (by rw [q, nI_0])
theorem kp_remN {a b : Nat} (ha : a < 2 ^ 31) (h0 : 0 < b) (hb : b < 2 ^ 31) : kc_rem (nI a) (nI b) = nI (a % b) := pk_rem ha h0 hb
theorem kp_step6 {N d : Nat} (h6 : d % 6 = 5) (h2 : ¬ N % 2 = 0) (h3 : ¬ N % 3 = 0) (hd : ∀ t, 2 ≤ t → t < d → ¬ N % t = 0) (a : ¬ N % d = 0) (b : ¬ N % (d + 2) = 0) : ∀ t, 2 ≤ t → t < d + 6 → ¬ N % t = 0 := by
  intro t h1 h7 h8
  by_cases ht : t < d
  · exact hd t h1 ht h8
  · have dv : t ∣ N := Nat.dvd_of_mod_eq_zero h8
    have even : t % 2 = 0 → False := fun q => h2 (Nat.mod_eq_zero_of_dvd (Nat.dvd_trans (Nat.dvd_of_mod_eq_zero q) dv))
    have three : t % 3 = 0 → False := fun q => h3 (Nat.mod_eq_zero_of_dvd (Nat.dvd_trans (Nat.dvd_of_mod_eq_zero q) dv))
    rcases (show t = d ∨ t = d + 2 ∨ t % 2 = 0 ∨ t % 3 = 0 by omega) with q | q | q | q
    · subst q; exact a h8
    · subst q; exact b h8
    · exact even q
    · exact three q
theorem kp_ge5 {x : Int32} (h : nI 5 ≤ x) : ∃ N : Nat, 5 ≤ N ∧ N < 2 ^ 31 ∧ x = nI N := by
  rw [Int32.le_iff_toInt_le, nI_toInt (by decide)] at h
  obtain ⟨N, h1, h2⟩ := nI_of (x := x) (by rw [Int32.lt_iff_toInt_lt, Int32.toInt_zero]; omega)
  subst h2
  rw [nI_toInt h1] at h
  exact ⟨N, by omega, h1, rfl⟩
theorem kp_sq {N d : Nat} (h0 : 0 < d) (h : N / d < d) : N < d * d := by
  have := Nat.div_add_mod N d
  have := Nat.mod_lt N h0
  have h3 : d * (N / d) ≤ d * (d - 1) := Nat.mul_le_mul (Nat.le_refl _) (by omega)
  have h4 : d * (d - 1) + d = d * d := by
    obtain ⟨k, rfl⟩ : ∃ k, d = k + 1 := ⟨d - 1, by omega⟩
    simp only [Nat.add_sub_cancel]
    rw [Nat.mul_succ]
  omega
theorem kp_sqle {N d : Nat} (h : d ≤ N / d) : d * d ≤ N := by
  have := Nat.div_mul_le_self N d
  have := Nat.mul_le_mul h (Nat.le_refl d)
  omega
theorem kp_small {N d : Nat} (hN : N < 2 ^ 31) (h : d * d ≤ N) : d < 46341 := by
  apply Nat.lt_of_not_le
  intro q
  have := Nat.mul_le_mul q q
  omega
set_option maxHeartbeats 4000000 in
set_option maxRecDepth 100000 in
theorem kk_G_isPrime_lo (l : Launch) {V : kc_V} (hV : kc_G V) (σ : kc_Sg) (n : Int32) (h5 : ¬ nI 5 ≤ n) : kc_Met l y_G_isPrime b_G_isPrime 2 (some .boolean) (kc_rm 1) V [.int n] σ (some (.int (kp_prime n))) σ := by
  refine kc_of (by decide) (Nat.le_of_ble_eq_true rfl) hV.ok (fun C _ hC => ?_)
  show kc_Go C V 2 (0, 0) (kc_E C V (some (.int (kp_prime n))) σ) σ 0 [(0, .int n)] []
  refine kg_iload_n hC d_G_isPrime_0 0 rfl ?_
  refine kg_iconst hC d_G_isPrime_1 kn_i_5 ?_
  refine kg_icmp_ge hC d_G_isPrime_2 (tgt := 21) rfl (fun q => absurd q (h5)) (fun _ => ?_)
  refine kg_iload_n hC d_G_isPrime_5 0 rfl ?_
  refine kg_iconst hC d_G_isPrime_6 kn_i_2 ?_
  refine kg_icmp_eq hC d_G_isPrime_7 (tgt := 15) rfl (fun h7 => ?_) (fun h7 => ?_)
  · refine kg_iconst hC d_G_isPrime_15 kn_i_1 ?_
    refine kg_goto hC d_G_isPrime_16 (tgt := 20) rfl ?_
    exact kg_zret hC d_G_isPrime_20 kn_z1 (by rw [h7]; exact kp_prime_t (by decide) kp_P2) rfl
  · refine kg_iload_n hC d_G_isPrime_10 0 rfl ?_
    refine kg_iconst hC d_G_isPrime_11 kn_i_3 ?_
    refine kg_icmp_ne hC d_G_isPrime_12 (tgt := 19) rfl (fun h12 => ?_) (fun h12 => ?_)
    · refine kg_iconst hC d_G_isPrime_19 kn_i_0 ?_
      exact kg_zret hC d_G_isPrime_20 kn_z0 (kp_prime_lo h5 h7 h12) rfl
    · refine kg_iconst hC d_G_isPrime_15 kn_i_1 ?_
      refine kg_goto hC d_G_isPrime_16 (tgt := 20) rfl ?_
      exact kg_zret hC d_G_isPrime_20 kn_z1 (by rw [h12]; exact kp_prime_t (by decide) kp_P3) rfl
set_option maxHeartbeats 4000000 in
set_option maxRecDepth 100000 in
theorem kk_G_isPrime_hi (l : Launch) {V : kc_V} (hV : kc_G V) (σ : kc_Sg) (N : Nat) (h5 : 5 ≤ N) (hN : N < 2 ^ 31) : kc_Met l y_G_isPrime b_G_isPrime 2 (some .boolean) (kc_rm 1) V [.int (nI N)] σ (some (.int (kp_prime (nI N)))) σ := by
  refine kc_of (by decide) (Nat.le_of_ble_eq_true rfl) hV.ok (fun C _ hC => ?_)
  have key : N % 2 ≠ 0 → N % 3 ≠ 0 → ∀ (f d : Nat), N + 6 < d + 6 * f → d % 6 = 5 → d < 46347 → (∀ t, 2 ≤ t → t < d → ¬ N % t = 0) → kc_Go C V 2 (0, 0) (kc_E C V (some (.int (kp_prime (nI N)))) σ) σ 37 [(1, .int (nI d)), (0, .int (nI N))] [] := by
    intro e2 e3 f
    induction f with
    | zero =>
      intro d hf h6 hd hi
      refine kg_iload_n hC d_G_isPrime_37 0 rfl ?_
      refine kg_iload_n hC d_G_isPrime_38 1 rfl ?_
      refine kg_iload_n hC d_G_isPrime_39 0 rfl ?_
      refine kg_idiv hC d_G_isPrime_40 (nI_ne0 (by omega) (by omega)) ?_
      refine kg_top (x' := (nI (N / d))) (pk_div hN (by omega) (by omega)) ?_
      refine kg_icmp_gt hC d_G_isPrime_41 (tgt := 66) rfl (fun _ => ?_) (fun q => absurd (nI_lt (show N / d < d by have h9 := Nat.div_le_self N d; omega) (by omega)) q)
      refine kg_iconst hC d_G_isPrime_66 kn_i_1 ?_
      exact kg_zret hC d_G_isPrime_67 kn_z1 (kp_prime_t hN (kp_P_of (by omega) hi (kp_sq (by omega) (by have h9 := Nat.div_le_self N d; omega)))) rfl
    | succ f ih =>
      intro d hf h6 hd hi
      refine kg_iload_n hC d_G_isPrime_37 0 rfl ?_
      refine kg_iload_n hC d_G_isPrime_38 1 rfl ?_
      refine kg_iload_n hC d_G_isPrime_39 0 rfl ?_
      refine kg_idiv hC d_G_isPrime_40 (nI_ne0 (by omega) (by omega)) ?_
      refine kg_top (x' := (nI (N / d))) (pk_div hN (by omega) (by omega)) ?_
      refine kg_icmp_gt hC d_G_isPrime_41 (tgt := 66) rfl (fun h41 => ?_) (fun h41 => ?_)
      · have g9 : N / d < d := (nI_ltI (by have h9 := Nat.div_le_self N d; omega) (by omega)).mp h41
        refine kg_iconst hC d_G_isPrime_66 kn_i_1 ?_
        exact kg_zret hC d_G_isPrime_67 kn_z1 (kp_prime_t hN (kp_P_of (by omega) hi (kp_sq (by omega) g9))) rfl
      · have g9 : d ≤ N / d := Nat.le_of_not_lt (fun q => h41 (nI_lt q (by omega)))
        have g8 := kp_sqle g9
        have g7 := kp_small hN g8
        have g6 : d < N := by have g5 : 5 * d ≤ d * d := Nat.mul_le_mul (by omega) (Nat.le_refl _); omega
        have g4 : d + 2 < N := by have g5 : 5 * d ≤ d * d := Nat.mul_le_mul (by omega) (Nat.le_refl _); omega
        refine kg_iload_n hC d_G_isPrime_44 1 rfl ?_
        refine kg_iload_n hC d_G_isPrime_45 0 rfl ?_
        refine kg_irem hC d_G_isPrime_46 (nI_ne0 (by omega) (by omega)) ?_
        refine kg_top (x' := (nI (N % d))) (kp_remN hN (by omega) (by omega)) ?_
        refine kg_if_eq hC d_G_isPrime_47 (tgt := 58) rfl (fun h47 => ?_) (fun h47 => ?_)
        · refine kg_iconst hC d_G_isPrime_58 kn_i_0 ?_
          exact kg_zret hC d_G_isPrime_59 kn_z0 (kp_prime_f hN (kp_P_div (t := d) (by omega) (by omega) (kp_nI0 (by have g3 := Nat.mod_le N d; omega) h47))) rfl
        · refine kg_iload_n hC d_G_isPrime_50 1 rfl ?_
          refine kg_iload_n hC d_G_isPrime_51 0 rfl ?_
          refine kg_iconst hC d_G_isPrime_52 kn_i_2 ?_
          refine kg_iadd hC d_G_isPrime_53 ?_
          refine kg_top (x' := (nI (d + 2))) (nI_add d 2) ?_
          refine kg_irem hC d_G_isPrime_54 (nI_ne0 (by omega) (by omega)) ?_
          refine kg_top (x' := (nI (N % (d + 2)))) (kp_remN hN (by omega) (by omega)) ?_
          refine kg_if_ne hC d_G_isPrime_55 (tgt := 60) rfl (fun h55 => ?_) (fun h55 => ?_)
          · refine kg_iinc hC d_G_isPrime_60 0 rfl (kn_inc6 d) [(1, .int (nI (d + 6))), (0, .int (nI N))] rfl (by decide) ?_
            refine kg_goto hC d_G_isPrime_63 (tgt := 37) rfl ?_
            exact ih (d + 6) (by omega) (by omega) (by omega) (kp_step6 h6 e2 e3 hi (kp_nI0' h47) (kp_nI0' h55))
          · refine kg_iconst hC d_G_isPrime_58 kn_i_0 ?_
            exact kg_zret hC d_G_isPrime_59 kn_z0 (kp_prime_f hN (kp_P_div (t := d + 2) (by omega) (by omega) (kp_nI0 (by have g3 := Nat.mod_le N (d + 2); omega) h55))) rfl
  show kc_Go C V 2 (0, 0) (kc_E C V (some (.int (kp_prime (nI N)))) σ) σ 0 [(0, .int (nI N))] []
  refine kg_iload_n hC d_G_isPrime_0 0 rfl ?_
  refine kg_iconst hC d_G_isPrime_1 kn_i_5 ?_
  refine kg_icmp_ge hC d_G_isPrime_2 (tgt := 21) rfl (fun _ => ?_) (fun q => absurd (nI_le h5 hN) q)
  refine kg_iload_n hC d_G_isPrime_21 0 rfl ?_
  refine kg_iconst hC d_G_isPrime_22 kn_i_2 ?_
  refine kg_irem hC d_G_isPrime_23 (by decide) ?_
  refine kg_top (x' := (nI (N % 2))) (kp_remN hN (by omega) (by decide)) ?_
  refine kg_if_eq hC d_G_isPrime_24 (tgt := 33) rfl (fun h24 => ?_) (fun h24 => ?_)
  · refine kg_iconst hC d_G_isPrime_33 kn_i_0 ?_
    exact kg_zret hC d_G_isPrime_34 kn_z0 (kp_prime_f hN (kp_P_div (t := 2) (by omega) (by omega) (kp_nI0 (by have g3 := Nat.mod_le N 2; omega) h24))) rfl
  · refine kg_iload_n hC d_G_isPrime_27 0 rfl ?_
    refine kg_iconst hC d_G_isPrime_28 kn_i_3 ?_
    refine kg_irem hC d_G_isPrime_29 (by decide) ?_
    refine kg_top (x' := (nI (N % 3))) (kp_remN hN (by omega) (by decide)) ?_
    refine kg_if_ne hC d_G_isPrime_30 (tgt := 35) rfl (fun h30 => ?_) (fun h30 => ?_)
    · refine kg_iconst hC d_G_isPrime_35 kn_i_5 ?_
      refine kg_istore_n hC d_G_isPrime_36 [(1, .int (nI 5)), (0, .int (nI N))] rfl (by decide) ?_
      exact key (kp_nI0' h24) (kp_nI0' h30) (N + 7) 5 (by omega) (by decide) (by decide) (fun t h1 h2 h3 => by
        rcases (show t = 2 ∨ t = 3 ∨ t = 4 by omega) with q | q | q
        · subst q; exact kp_nI0' h24 h3
        · subst q; exact kp_nI0' h30 h3
        · subst q; exact kp_nI0' h24 (by omega))
    · refine kg_iconst hC d_G_isPrime_33 kn_i_0 ?_
      exact kg_zret hC d_G_isPrime_34 kn_z0 (kp_prime_f hN (kp_P_div (t := 3) (by omega) (by omega) (kp_nI0 (by have g3 := Nat.mod_le N 3; omega) h30))) rfl
theorem kk_G_isPrime (l : Launch) {V : kc_V} (hV : kc_G V) (σ : kc_Sg) (n : Int32) : kc_Met l y_G_isPrime b_G_isPrime 2 (some .boolean) (kc_rm 1) V [.int n] σ (some (.int (kp_prime n))) σ := by
  by_cases h : nI 5 ≤ n
  · obtain ⟨N, h5, hN, rfl⟩ := kp_ge5 h
    exact kk_G_isPrime_hi l hV σ N h5 hN
  · exact kk_G_isPrime_lo l hV σ n h
theorem kz_prime (n : Int32) : kp_prime n = nI 0 ∨ kp_prime n = nI 1 := by
  unfold kp_prime
  by_cases h : kp_P n.toInt.toNat
  · rw [if_pos h]
    exact Or.inr rfl
  · rw [if_neg h]
    exact Or.inl rfl
