theorem kn_and1 {x : Int32} : x &&& nI 1 = 0 ↔ ¬ x &&& nI 1 = nI 1 := by
  rw [show nI 1 = (1 : Int32) by decide +kernel]
  obtain ⟨j, h1, h2⟩ := pk_andE x (m := 1) 1 (by decide +kernel)
  rw [h2]
  rcases (show j = 0 ∨ j = 1 by omega) with rfl | rfl <;> decide +kernel
theorem kp_prime_lt2 {x : Int32} (h : ¬ nI 2 ≤ x) : nI 0 = kp_prime x := by
  unfold kp_prime
  rw [if_neg]
  rintro ⟨q1, q2⟩
  rw [Int32.le_iff_toInt_le, nI_toInt (by decide)] at h
  omega
theorem kp_ge2 {x : Int32} (h : nI 2 ≤ x) : ∃ N : Nat, 2 ≤ N ∧ N < 2 ^ 31 ∧ x = nI N := by
  rw [Int32.le_iff_toInt_le, nI_toInt (by decide)] at h
  obtain ⟨N, h1, h2⟩ := nI_of (x := x) (by rw [Int32.lt_iff_toInt_lt, Int32.toInt_zero]; omega)
  subst h2
  rw [nI_toInt h1] at h
  exact ⟨N, by omega, h1, rfl⟩
theorem kp_ltsq {N t : Nat} (h : N < t) (ht : 2 ≤ t) : N < t * t := by
  have := Nat.mul_le_mul ht (Nat.le_refl t)
  omega
theorem kp_sq31 {t : Nat} (h : t < 46341) : t * t < 2 ^ 31 := by
  have := Nat.mul_le_mul (Nat.le_of_lt_succ h) (Nat.le_of_lt_succ h)
  omega
theorem kp_sqlt {N t : Nat} (ht : 2 ≤ t) (h : t * t ≤ N) : t < N := by
  have := Nat.mul_le_mul ht (Nat.le_refl t)
  omega
theorem kp_big {N : Nat} (hN : N < 2 ^ 31) {t : Nat} (h : 46341 ≤ t) : N < t * t := by
  have := Nat.mul_le_mul h h
  omega
def mb (σ : kc_Sg) : Nat := (σ 38 16).toNatClampNeg
def kc_mbd (σ : kc_Sg) : Prop := σ 38 16 = nI (mb σ) ∧ mb σ < 250
set_option maxHeartbeats 4000000 in
set_option maxRecDepth 100000 in
theorem kk_M_prime_lo (l : Launch) {V : kc_V} (hV : kc_G V) (σ : kc_Sg) (n : Int32) (h9 : ¬ nI 2 ≤ n) : kc_Met l y_M_prime b_M_prime 2 (some .boolean) (kc_rm 1) V [.int n] σ (some (.int (kp_prime n))) σ := by
  refine kc_of (by decide) (Nat.le_of_ble_eq_true rfl) hV.ok (fun C _ hC => ?_)
  show kc_Go C V 2 (0, 0) (kc_E C V (some (.int (kp_prime n))) σ) σ 0 [(0, .int n)] []
  refine kg_iload_n hC d_M_prime_0 0 rfl ?_
  refine kg_iconst hC d_M_prime_1 kn_i_2 ?_
  refine kg_icmp_ge hC d_M_prime_2 (tgt := 7) rfl (fun q => absurd q (h9)) (fun _ => ?_)
  refine kg_iconst hC d_M_prime_5 kn_i_0 ?_
  exact kg_zret hC d_M_prime_6 kn_z0 (kp_prime_lt2 h9) rfl
set_option maxHeartbeats 4000000 in
set_option maxRecDepth 100000 in
theorem kk_M_prime_hi (l : Launch) {V : kc_V} (hV : kc_G V) (σ : kc_Sg) (N : Nat) (h9 : 2 ≤ N) (hN : N < 2 ^ 31) : kc_Met l y_M_prime b_M_prime 2 (some .boolean) (kc_rm 1) V [.int (nI N)] σ (some (.int (kp_prime (nI N)))) σ := by
  refine kc_of (by decide) (Nat.le_of_ble_eq_true rfl) hV.ok (fun C _ hC => ?_)
  have key : ∀ (f t : Nat), N < t + f → 2 ≤ t → t ≤ 46341 → (∀ u, 2 ≤ u → u < t → ¬ N % u = 0) → kc_Go C V 2 (0, 0) (kc_E C V (some (.int (kp_prime (nI N)))) σ) σ 9 [(1, .int (nI t)), (0, .int (nI N))] [] := by
    intro f
    induction f with
    | zero =>
      intro t hf h2 ht hi
      refine kg_iload_n hC d_M_prime_9 0 rfl ?_
      refine kg_ldc hC d_M_prime_10 tw_671 ?_
      refine kg_top (x' := (nI 46341)) rfl ?_
      refine kg_icmp_ge hC d_M_prime_12 (tgt := 36) rfl (fun h12 => ?_) (fun h12 => ?_)
      · refine kg_iconst hC d_M_prime_36 kn_i_1 ?_
        exact kg_zret hC d_M_prime_37 kn_z1 (kp_prime_t hN (kp_P_of h9 hi (kp_ltsq (by omega) h2))) rfl
      · have g1 : t < 46341 := Nat.lt_of_not_le (fun q => h12 (nI_le q (by omega)))
        have g2 := kp_sq31 g1
        refine kg_iload_n hC d_M_prime_15 0 rfl ?_
        refine kg_iload_n hC d_M_prime_16 0 rfl ?_
        refine kg_imul hC d_M_prime_17 ?_
        refine kg_top (x' := (nI (t * t))) (pk_mul t t) ?_
        refine kg_iload_n hC d_M_prime_18 1 rfl ?_
        refine kg_icmp_gt hC d_M_prime_19 (tgt := 36) rfl (fun _ => ?_) (fun q => absurd (nI_lt (kp_ltsq (by omega) h2) g2) q)
        refine kg_iconst hC d_M_prime_36 kn_i_1 ?_
        exact kg_zret hC d_M_prime_37 kn_z1 (kp_prime_t hN (kp_P_of h9 hi (kp_ltsq (by omega) h2))) rfl
    | succ f ih =>
      intro t hf h2 ht hi
      refine kg_iload_n hC d_M_prime_9 0 rfl ?_
      refine kg_ldc hC d_M_prime_10 tw_671 ?_
      refine kg_top (x' := (nI 46341)) rfl ?_
      refine kg_icmp_ge hC d_M_prime_12 (tgt := 36) rfl (fun h12 => ?_) (fun h12 => ?_)
      · refine kg_iconst hC d_M_prime_36 kn_i_1 ?_
        exact kg_zret hC d_M_prime_37 kn_z1 (kp_prime_t hN (kp_P_of h9 hi (kp_big hN ((nI_leI (by decide) (by omega)).mp h12)))) rfl
      · have g1 : t < 46341 := Nat.lt_of_not_le (fun q => h12 (nI_le q (by omega)))
        have g2 := kp_sq31 g1
        refine kg_iload_n hC d_M_prime_15 0 rfl ?_
        refine kg_iload_n hC d_M_prime_16 0 rfl ?_
        refine kg_imul hC d_M_prime_17 ?_
        refine kg_top (x' := (nI (t * t))) (pk_mul t t) ?_
        refine kg_iload_n hC d_M_prime_18 1 rfl ?_
        refine kg_icmp_gt hC d_M_prime_19 (tgt := 36) rfl (fun h19 => ?_) (fun h19 => ?_)
        · refine kg_iconst hC d_M_prime_36 kn_i_1 ?_
          exact kg_zret hC d_M_prime_37 kn_z1 (kp_prime_t hN (kp_P_of h9 hi ((nI_ltI hN g2).mp h19))) rfl
        · have g3 : t * t ≤ N := Nat.le_of_not_lt (fun q => h19 (nI_lt q g2))
          refine kg_iload_n hC d_M_prime_22 1 rfl ?_
          refine kg_iload_n hC d_M_prime_23 0 rfl ?_
          refine kg_irem hC d_M_prime_24 (nI_ne0 (by omega) (by omega)) ?_
          refine kg_top (x' := (nI (N % t))) (kp_remN hN (by omega) (by omega)) ?_
          refine kg_if_ne hC d_M_prime_25 (tgt := 30) rfl (fun h25 => ?_) (fun h25 => ?_)
          · refine kg_iinc hC d_M_prime_30 0 rfl (kn_inc1 t) [(1, .int (nI (t + 1))), (0, .int (nI N))] rfl (by decide) ?_
            refine kg_goto hC d_M_prime_33 (tgt := 9) rfl ?_
            exact ih (t + 1) (by omega) (by omega) (by omega) (fun u h1 h3 h4 => by
              by_cases hu : u < t
              · exact hi u h1 hu h4
              · have : u = t := by omega
                subst this
                exact kp_nI0' h25 h4)
          · refine kg_iconst hC d_M_prime_28 kn_i_0 ?_
            exact kg_zret hC d_M_prime_29 kn_z0 (kp_prime_f hN (kp_P_div (t := t) h2 (kp_sqlt h2 g3) (kp_nI0 (by have g4 := Nat.mod_le N t; omega) h25))) rfl
  show kc_Go C V 2 (0, 0) (kc_E C V (some (.int (kp_prime (nI N)))) σ) σ 0 [(0, .int (nI N))] []
  refine kg_iload_n hC d_M_prime_0 0 rfl ?_
  refine kg_iconst hC d_M_prime_1 kn_i_2 ?_
  refine kg_icmp_ge hC d_M_prime_2 (tgt := 7) rfl (fun _ => ?_) (fun q => absurd (nI_le h9 hN) q)
  refine kg_iconst hC d_M_prime_7 kn_i_2 ?_
  refine kg_istore_n hC d_M_prime_8 [(1, .int (nI 2)), (0, .int (nI N))] rfl (by decide) ?_
  exact key N 2 (by omega) (by decide) (by decide) (fun u h1 h3 => by omega)
theorem kk_M_prime (l : Launch) {V : kc_V} (hV : kc_G V) (σ : kc_Sg) (n : Int32) : kc_Met l y_M_prime b_M_prime 2 (some .boolean) (kc_rm 1) V [.int n] σ (some (.int (kp_prime n))) σ := by
  by_cases h : nI 2 ≤ n
  · obtain ⟨N, h9, hN, rfl⟩ := kp_ge2 h
    exact kk_M_prime_hi l hV σ N h9 hN
  · exact kk_M_prime_lo l hV σ n h
def kp_M_power (σ : kc_Sg) (b e : Int32) : Int32 := Int64.toInt32 (kp_pow (Int32.toInt64 (σ 38 1)) 32 e (lN 1) (Int32.toInt64 (kc_rem b (σ 38 1))))
set_option maxHeartbeats 4000000 in
set_option maxRecDepth 100000 in
theorem kk_M_power (l : Launch) {V : kc_V} (hV : kc_G V) (σ : kc_Sg) (b : Int32) (e : Int32) (mp : ¬ σ 38 1 = 0) : kc_Met l y_M_power b_M_power 8 (some .int) (kc_rm 1) V [.ref (kc_ad V 38), .int b, .int e] σ (some (.int (kp_M_power σ b e))) σ := by
  refine kc_of (by decide) (Nat.le_of_ble_eq_true rfl) hV.ok (fun C _ hC => ?_)
  have key : ∀ (n : Nat) (k : Int32) (r q : Int64), k.toInt < 2 ^ n → Int64.toInt32 (kp_pow (Int32.toInt64 (σ 38 1)) n k r q) = kp_M_power σ b e → kc_Go C V 8 (0, 0) (kc_E C V (some (.int (kp_M_power σ b e))) σ) σ 14 [(7, .int k), (5, .long q), (3, .long r), (0, .ref (kc_ad V 38)), (1, .int b), (2, .int e)] [] := by
    intro n
    induction n with
    | zero =>
      intro k r q hk hr
      refine kg_iload hC d_M_power_14 0 rfl ?_
      refine kg_if_le hC d_M_power_16 (tgt := 60) rfl (fun _ => ?_) (fun q => absurd (kn_le0 hk) q)
      refine kg_lload_n hC d_M_power_60 2 rfl ?_
      refine kg_l2i hC d_M_power_61 ?_
      exact kg_iret hC d_M_power_62 hr rfl
    | succ n ih =>
      intro k r q hk hr
      refine kg_iload hC d_M_power_14 0 rfl ?_
      refine kg_if_le hC d_M_power_16 (tgt := 60) rfl (fun h16 => ?_) (fun h16 => ?_)
      · refine kg_lload_n hC d_M_power_60 2 rfl ?_
        refine kg_l2i hC d_M_power_61 ?_
        exact kg_iret hC d_M_power_62 (by rw [kp_pow, if_pos h16] at hr; exact hr) rfl
      · refine kg_iload hC d_M_power_19 0 rfl ?_
        refine kg_iconst hC d_M_power_21 kn_i_1 ?_
        refine kg_iand hC d_M_power_22 ?_
        refine kg_iconst hC d_M_power_23 kn_i_1 ?_
        refine kg_icmp_ne hC d_M_power_24 (tgt := 38) rfl (fun h24 => ?_) (fun h24 => ?_)
        · refine kg_lload hC d_M_power_38 1 rfl ?_
          refine kg_lload hC d_M_power_40 1 rfl ?_
          refine kg_lmul hC d_M_power_42 ?_
          refine kg_aload_n hC d_M_power_43 3 rfl ?_
          refine kg_geti hC (ko_38 hV) rfl ui_M (j := 1) (by decide) tw_605 rfl d_M_power_44 rfl ?_
          refine kg_i2l hC d_M_power_47 ?_
          refine kg_lrem hC d_M_power_48 (kn_l0 mp) ?_
          refine kg_lstore hC d_M_power_49 [(5, .long (kc_lrem (q * q) (Int32.toInt64 (σ 38 1)))), (7, .int k), (3, .long r), (0, .ref (kc_ad V 38)), (1, .int b), (2, .int e)] rfl (by decide) ?_
          refine kg_at (pc' := 51) rfl ?_
          refine kg_iload hC d_M_power_51 1 rfl ?_
          refine kg_iconst hC d_M_power_53 kn_i_1 ?_
          refine kg_ishr hC d_M_power_54 ?_
          refine kg_istore hC d_M_power_55 [(7, .int (kc_shr k (nI 1))), (5, .long (kc_lrem (q * q) (Int32.toInt64 (σ 38 1)))), (3, .long r), (0, .ref (kc_ad V 38)), (1, .int b), (2, .int e)] rfl (by decide) ?_
          refine kg_goto hC d_M_power_57 (tgt := 14) rfl ?_
          exact ih _ _ _ (kn_shr1 hk) (by rw [kp_pow, if_neg h16, if_pos (kn_and1.mpr h24)] at hr; exact hr)
        · refine kg_lload_n hC d_M_power_27 2 rfl ?_
          refine kg_lload hC d_M_power_28 1 rfl ?_
          refine kg_lmul hC d_M_power_30 ?_
          refine kg_aload_n hC d_M_power_31 3 rfl ?_
          refine kg_geti hC (ko_38 hV) rfl ui_M (j := 1) (by decide) tw_605 rfl d_M_power_32 rfl ?_
          refine kg_i2l hC d_M_power_35 ?_
          refine kg_lrem hC d_M_power_36 (kn_l0 mp) ?_
          refine kg_lstore_n hC d_M_power_37 [(3, .long (kc_lrem (r * q) (Int32.toInt64 (σ 38 1)))), (7, .int k), (5, .long q), (0, .ref (kc_ad V 38)), (1, .int b), (2, .int e)] rfl (by decide) ?_
          refine kg_at (pc' := 38) rfl ?_
          refine kg_lload hC d_M_power_38 2 rfl ?_
          refine kg_lload hC d_M_power_40 2 rfl ?_
          refine kg_lmul hC d_M_power_42 ?_
          refine kg_aload_n hC d_M_power_43 3 rfl ?_
          refine kg_geti hC (ko_38 hV) rfl ui_M (j := 1) (by decide) tw_605 rfl d_M_power_44 rfl ?_
          refine kg_i2l hC d_M_power_47 ?_
          refine kg_lrem hC d_M_power_48 (kn_l0 mp) ?_
          refine kg_lstore hC d_M_power_49 [(5, .long (kc_lrem (q * q) (Int32.toInt64 (σ 38 1)))), (3, .long (kc_lrem (r * q) (Int32.toInt64 (σ 38 1)))), (7, .int k), (0, .ref (kc_ad V 38)), (1, .int b), (2, .int e)] rfl (by decide) ?_
          refine kg_at (pc' := 51) rfl ?_
          refine kg_iload hC d_M_power_51 2 rfl ?_
          refine kg_iconst hC d_M_power_53 kn_i_1 ?_
          refine kg_ishr hC d_M_power_54 ?_
          refine kg_istore hC d_M_power_55 [(7, .int (kc_shr k (nI 1))), (5, .long (kc_lrem (q * q) (Int32.toInt64 (σ 38 1)))), (3, .long (kc_lrem (r * q) (Int32.toInt64 (σ 38 1)))), (0, .ref (kc_ad V 38)), (1, .int b), (2, .int e)] rfl (by decide) ?_
          refine kg_goto hC d_M_power_57 (tgt := 14) rfl ?_
          exact ih _ _ _ (kn_shr1 hk) (by rw [kp_pow, if_neg h16, if_neg (fun z => kn_and1.mp z h24)] at hr; exact hr)
  show kc_Go C V 8 (0, 0) (kc_E C V (some (.int (kp_M_power σ b e))) σ) σ 0 [(0, .ref (kc_ad V 38)), (1, .int b), (2, .int e)] []
  refine kg_lconst hC d_M_power_0 kn_l_1 ?_
  refine kg_lstore_n hC d_M_power_1 [(3, .long (lN 1)), (0, .ref (kc_ad V 38)), (1, .int b), (2, .int e)] rfl (by decide) ?_
  refine kg_iload_n hC d_M_power_2 2 rfl ?_
  refine kg_aload_n hC d_M_power_3 1 rfl ?_
  refine kg_geti hC (ko_38 hV) rfl ui_M (j := 1) (by decide) tw_605 rfl d_M_power_4 rfl ?_
  refine kg_irem hC d_M_power_7 mp ?_
  refine kg_i2l hC d_M_power_8 ?_
  refine kg_lstore hC d_M_power_9 [(5, .long (Int32.toInt64 (kc_rem b (σ 38 1)))), (3, .long (lN 1)), (0, .ref (kc_ad V 38)), (1, .int b), (2, .int e)] rfl (by decide) ?_
  refine kg_at (pc' := 11) rfl ?_
  refine kg_iload_n hC d_M_power_11 4 rfl ?_
  refine kg_istore hC d_M_power_12 [(7, .int e), (5, .long (Int32.toInt64 (kc_rem b (σ 38 1)))), (3, .long (lN 1)), (0, .ref (kc_ad V 38)), (1, .int b), (2, .int e)] rfl (by decide) ?_
  exact key 32 _ _ _ kn_top rfl
def kp_ipow (m : Int32) : Nat → Int32 → Int32 → Int32 → Int32
  | 0, _, r, _ => r
  | n + 1, k, r, b => if k ≤ 0 then r else kp_ipow m n (kc_shr k (nI 1)) (if k &&& nI 1 = 0 then r else kc_rem (r * b) m) (kc_rem (b * b) m)
def kp_M_inverse (σ : kc_Sg) (v : Int32) : Int32 := kp_ipow (σ 38 2) 32 (σ 38 2 - nI 2) (nI 1) (kc_rem (kc_rem v (σ 38 2) + σ 38 2) (σ 38 2))
set_option maxHeartbeats 4000000 in
set_option maxRecDepth 100000 in
theorem kk_M_inverse (l : Launch) {V : kc_V} (hV : kc_G V) (σ : kc_Sg) (v : Int32) (mq : ¬ σ 38 2 = 0) : kc_Met l y_M_inverse b_M_inverse 5 (some .int) (kc_rm 1) V [.ref (kc_ad V 38), .int v] σ (some (.int (kp_M_inverse σ v))) σ := by
  refine kc_of (by decide) (Nat.le_of_ble_eq_true rfl) hV.ok (fun C _ hC => ?_)
  have key : ∀ (n : Nat) (k r b : Int32), k.toInt < 2 ^ n → kp_ipow (σ 38 2) n k r b = kp_M_inverse σ v → kc_Go C V 5 (0, 0) (kc_E C V (some (.int (kp_M_inverse σ v))) σ) σ 27 [(4, .int k), (3, .int b), (2, .int r), (0, .ref (kc_ad V 38)), (1, .int v)] [] := by
    intro n
    induction n with
    | zero =>
      intro k r b hk hr
      refine kg_iload hC d_M_inverse_27 0 rfl ?_
      refine kg_if_le hC d_M_inverse_29 (tgt := 67) rfl (fun _ => ?_) (fun q => absurd (kn_le0 hk) q)
      refine kg_iload_n hC d_M_inverse_67 2 rfl ?_
      exact kg_iret hC d_M_inverse_68 hr rfl
    | succ n ih =>
      intro k r b hk hr
      refine kg_iload hC d_M_inverse_27 0 rfl ?_
      refine kg_if_le hC d_M_inverse_29 (tgt := 67) rfl (fun h29 => ?_) (fun h29 => ?_)
      · refine kg_iload_n hC d_M_inverse_67 2 rfl ?_
        exact kg_iret hC d_M_inverse_68 (by rw [kp_ipow, if_pos h29] at hr; exact hr) rfl
      · refine kg_iload hC d_M_inverse_32 0 rfl ?_
        refine kg_iconst hC d_M_inverse_34 kn_i_1 ?_
        refine kg_iand hC d_M_inverse_35 ?_
        refine kg_iconst hC d_M_inverse_36 kn_i_1 ?_
        refine kg_icmp_ne hC d_M_inverse_37 (tgt := 49) rfl (fun h37 => ?_) (fun h37 => ?_)
        · refine kg_iload_n hC d_M_inverse_49 1 rfl ?_
          refine kg_iload_n hC d_M_inverse_50 1 rfl ?_
          refine kg_imul hC d_M_inverse_51 ?_
          refine kg_aload_n hC d_M_inverse_52 3 rfl ?_
          refine kg_geti hC (ko_38 hV) rfl ui_M (j := 2) (by decide) tw_606 rfl d_M_inverse_53 rfl ?_
          refine kg_irem hC d_M_inverse_56 mq ?_
          refine kg_istore_n hC d_M_inverse_57 [(3, .int (kc_rem (b * b) (σ 38 2))), (4, .int k), (2, .int r), (0, .ref (kc_ad V 38)), (1, .int v)] rfl (by decide) ?_
          refine kg_iload hC d_M_inverse_58 1 rfl ?_
          refine kg_at (pc' := 60) rfl ?_
          refine kg_iconst hC d_M_inverse_60 kn_i_1 ?_
          refine kg_ishr hC d_M_inverse_61 ?_
          refine kg_istore hC d_M_inverse_62 [(4, .int (kc_shr k (nI 1))), (3, .int (kc_rem (b * b) (σ 38 2))), (2, .int r), (0, .ref (kc_ad V 38)), (1, .int v)] rfl (by decide) ?_
          refine kg_goto hC d_M_inverse_64 (tgt := 27) rfl ?_
          exact ih _ _ _ (kn_shr1 hk) (by rw [kp_ipow, if_neg h29, if_pos (kn_and1.mpr h37)] at hr; exact hr)
        · refine kg_iload_n hC d_M_inverse_40 2 rfl ?_
          refine kg_iload_n hC d_M_inverse_41 1 rfl ?_
          refine kg_imul hC d_M_inverse_42 ?_
          refine kg_aload_n hC d_M_inverse_43 3 rfl ?_
          refine kg_geti hC (ko_38 hV) rfl ui_M (j := 2) (by decide) tw_606 rfl d_M_inverse_44 rfl ?_
          refine kg_irem hC d_M_inverse_47 mq ?_
          refine kg_istore_n hC d_M_inverse_48 [(2, .int (kc_rem (r * b) (σ 38 2))), (4, .int k), (3, .int b), (0, .ref (kc_ad V 38)), (1, .int v)] rfl (by decide) ?_
          refine kg_iload_n hC d_M_inverse_49 2 rfl ?_
          refine kg_at (pc' := 50) rfl ?_
          refine kg_iload_n hC d_M_inverse_50 2 rfl ?_
          refine kg_imul hC d_M_inverse_51 ?_
          refine kg_aload_n hC d_M_inverse_52 3 rfl ?_
          refine kg_geti hC (ko_38 hV) rfl ui_M (j := 2) (by decide) tw_606 rfl d_M_inverse_53 rfl ?_
          refine kg_irem hC d_M_inverse_56 mq ?_
          refine kg_istore_n hC d_M_inverse_57 [(3, .int (kc_rem (b * b) (σ 38 2))), (2, .int (kc_rem (r * b) (σ 38 2))), (4, .int k), (0, .ref (kc_ad V 38)), (1, .int v)] rfl (by decide) ?_
          refine kg_iload hC d_M_inverse_58 2 rfl ?_
          refine kg_iconst hC d_M_inverse_60 kn_i_1 ?_
          refine kg_at (pc' := 61) rfl ?_
          refine kg_ishr hC d_M_inverse_61 ?_
          refine kg_istore hC d_M_inverse_62 [(4, .int (kc_shr k (nI 1))), (3, .int (kc_rem (b * b) (σ 38 2))), (2, .int (kc_rem (r * b) (σ 38 2))), (0, .ref (kc_ad V 38)), (1, .int v)] rfl (by decide) ?_
          refine kg_goto hC d_M_inverse_64 (tgt := 27) rfl ?_
          exact ih _ _ _ (kn_shr1 hk) (by rw [kp_ipow, if_neg h29, if_neg (fun z => kn_and1.mp z h37)] at hr; exact hr)
  show kc_Go C V 5 (0, 0) (kc_E C V (some (.int (kp_M_inverse σ v))) σ) σ 0 [(0, .ref (kc_ad V 38)), (1, .int v)] []
  refine kg_iconst hC d_M_inverse_0 kn_i_1 ?_
  refine kg_istore_n hC d_M_inverse_1 [(2, .int (nI 1)), (0, .ref (kc_ad V 38)), (1, .int v)] rfl (by decide) ?_
  refine kg_iload_n hC d_M_inverse_2 2 rfl ?_
  refine kg_aload_n hC d_M_inverse_3 1 rfl ?_
  refine kg_geti hC (ko_38 hV) rfl ui_M (j := 2) (by decide) tw_606 rfl d_M_inverse_4 rfl ?_
  refine kg_irem hC d_M_inverse_7 mq ?_
  refine kg_aload_n hC d_M_inverse_8 1 rfl ?_
  refine kg_geti hC (ko_38 hV) rfl ui_M (j := 2) (by decide) tw_606 rfl d_M_inverse_9 rfl ?_
  refine kg_at (pc' := 12) rfl ?_
  refine kg_iadd hC d_M_inverse_12 ?_
  refine kg_aload_n hC d_M_inverse_13 1 rfl ?_
  refine kg_geti hC (ko_38 hV) rfl ui_M (j := 2) (by decide) tw_606 rfl d_M_inverse_14 rfl ?_
  refine kg_irem hC d_M_inverse_17 mq ?_
  refine kg_istore_n hC d_M_inverse_18 [(3, .int (kc_rem ((kc_rem v (σ 38 2)) + (σ 38 2)) (σ 38 2))), (2, .int (nI 1)), (0, .ref (kc_ad V 38)), (1, .int v)] rfl (by decide) ?_
  refine kg_aload_n hC d_M_inverse_19 2 rfl ?_
  refine kg_geti hC (ko_38 hV) rfl ui_M (j := 2) (by decide) tw_606 rfl d_M_inverse_20 rfl ?_
  refine kg_iconst hC d_M_inverse_23 kn_i_2 ?_
  refine kg_at (pc' := 24) rfl ?_
  refine kg_isub hC d_M_inverse_24 ?_
  refine kg_istore hC d_M_inverse_25 [(4, .int ((σ 38 2) - (nI 2))), (3, .int (kc_rem ((kc_rem v (σ 38 2)) + (σ 38 2)) (σ 38 2))), (2, .int (nI 1)), (0, .ref (kc_ad V 38)), (1, .int v)] rfl (by decide) ?_
  exact key 32 _ _ _ kn_top rfl
def kf_M_valueAt_1 (σ : kc_Sg) (a : Nat) (x : Int32) (i1 : Nat) (a1 : Int32) : Int32 := (kc_rem ((a1 * x) + (σ 44 (4 * a + (3 - i1)))) (σ 38 2))
def kp_M_valueAt (σ : kc_Sg) (a : Nat) (x : Int32) : Int32 := (kc_it (kf_M_valueAt_1 σ a x) 4 0 (nI 0))
set_option maxHeartbeats 4000000 in
set_option maxRecDepth 100000 in
theorem kk_M_valueAt (l : Launch) {V : kc_V} (hV : kc_G V) (σ : kc_Sg) (a : Nat) (x : Int32) (mq : ¬ σ 38 2 = 0) (ha : a < 8) : kc_Met l y_M_valueAt b_M_valueAt 5 (some .int) (kc_rm 1) V [.ref (kc_ad V 38), .int (nI a), .int x] σ (some (.int (kp_M_valueAt σ a x))) σ := by
  refine kc_of (by decide) (Nat.le_of_ble_eq_true rfl) hV.ok (fun C _ hC => ?_)
  show kc_Go C V 5 (0, 0) (kc_E C V (some (.int (kp_M_valueAt σ a x))) σ) σ 0 [(0, .ref (kc_ad V 38)), (1, .int (nI a)), (2, .int x)] []
  refine kg_iconst hC d_M_valueAt_0 kn_i_0 ?_
  refine kg_istore_n hC d_M_valueAt_1 [(3, .int (nI 0)), (0, .ref (kc_ad V 38)), (1, .int (nI a)), (2, .int x)] rfl (by decide) ?_
  refine kg_iconst hC d_M_valueAt_2 kn_i_3 ?_
  refine kg_istore hC d_M_valueAt_3 [(4, .int (nI 3)), (3, .int (nI 0)), (0, .ref (kc_ad V 38)), (1, .int (nI a)), (2, .int x)] rfl (by decide) ?_
  refine kc_loop (fun i1 a1 => kc_Go C V 5 (0, 0) (kc_E C V (some (.int (kp_M_valueAt σ a x))) σ) σ 5 [(4, .int (nI 3 - nI i1)), (3, .int a1), (0, .ref (kc_ad V 38)), (1, .int (nI a)), (2, .int x)] []) (kf_M_valueAt_1 σ a x) 0 4 (fun i1 a1 ho1 hi1 hk1 => ?_) 4 0 (nI 0) (Nat.le_refl _) rfl ?_
  · refine kg_iload hC d_M_valueAt_5 0 rfl ?_
    refine kg_if_lt hC d_M_valueAt_7 (tgt := 37) rfl (fun q => absurd q (kn_dn (by omega))) (fun _ => ?_)
    refine kg_iload_n hC d_M_valueAt_10 1 rfl ?_
    refine kg_iload_n hC d_M_valueAt_11 4 rfl ?_
    refine kg_imul hC d_M_valueAt_12 ?_
    refine kg_aload_n hC d_M_valueAt_13 2 rfl ?_
    refine kg_getr hC (ko_38 hV) rfl ui_M (j := 11) (by decide) tw_615 rfl d_M_valueAt_14 rfl ?_
    refine kg_iconst hC d_M_valueAt_17 kn_i_4 ?_
    refine kg_at (pc' := 18) rfl ?_
    refine kg_iload_n hC d_M_valueAt_18 3 rfl ?_
    refine kg_imul hC d_M_valueAt_19 ?_
    refine kg_iload hC d_M_valueAt_20 0 rfl ?_
    refine kg_iadd hC d_M_valueAt_22 ?_
    refine kg_iald hC (ka_44 hV) (i := (4 * a + (3 - i1))) (by rw [pk_mul, pk_sub (by omega), nI_add]) (by omega) d_M_valueAt_23 ?_
    refine kg_iadd hC d_M_valueAt_24 ?_
    refine kg_aload_n hC d_M_valueAt_25 2 rfl ?_
    refine kg_geti hC (ko_38 hV) rfl ui_M (j := 2) (by decide) tw_606 rfl d_M_valueAt_26 rfl ?_
    refine kg_at (pc' := 29) rfl ?_
    refine kg_irem hC d_M_valueAt_29 mq ?_
    refine kg_istore_n hC d_M_valueAt_30 [(3, .int (kc_rem ((a1 * x) + (σ 44 (4 * a + (3 - i1)))) (σ 38 2))), (4, .int (nI 3 - nI i1)), (0, .ref (kc_ad V 38)), (1, .int (nI a)), (2, .int x)] rfl (by decide) ?_
    refine kg_iinc hC d_M_valueAt_31 1 rfl (kn_dec (by omega)) [(4, .int (nI 3 - nI (i1 + 1))), (3, .int (kc_rem ((a1 * x) + (σ 44 (4 * a + (3 - i1)))) (σ 38 2))), (0, .ref (kc_ad V 38)), (1, .int (nI a)), (2, .int x)] rfl (by decide) ?_
    refine kg_goto hC d_M_valueAt_34 (tgt := 5) rfl ?_
    exact kg_to (P := fun zz => kc_Go C V 5 (0, 0) (kc_E C V (some (.int (kp_M_valueAt σ a x))) σ) σ 5 [(4, .int (nI 3 - nI (i1 + 1))), (3, .int zz), (0, .ref (kc_ad V 38)), (1, .int (nI a)), (2, .int x)] []) (b := (kc_rem ((a1 * x) + (σ 44 (4 * a + (3 - i1)))) (σ 38 2))) (a := (kf_M_valueAt_1 σ a x) i1 a1) (by rw [kf_M_valueAt_1]) hk1
  generalize hg1 : (kc_it (kf_M_valueAt_1 σ a x) 4 0 (nI 0)) = τ1
  refine kg_iload hC d_M_valueAt_5 0 rfl ?_
  refine kg_if_lt hC d_M_valueAt_7 (tgt := 37) rfl (fun _ => ?_) (fun q => absurd (by decide +kernel) q)
  refine kg_iload_n hC d_M_valueAt_37 1 rfl ?_
  exact kg_iret hC d_M_valueAt_38 (by rw [kp_M_valueAt, hg1]) rfl
def kf_M_timesAt_1 (σ : kc_Sg) (k : Nat) (f : Nat) (x : Int32) (i1 : Nat) (a1 : Int64 × Int32) : Int64 × Int32 := ((kc_lrem ((a1.1) * (Int32.toInt64 (kp_M_power σ (σ k (f + i1)) (a1.2)))) (Int32.toInt64 (σ 38 1))), ((a1.2) * x))
def kp_M_timesAt (σ : kc_Sg) (k : Nat) (f : Nat) (x : Int32) : Int32 := (Int64.toInt32 ((kc_it (kf_M_timesAt_1 σ k f x) 4 0 ((lN 1), (nI 1))).1))
set_option maxHeartbeats 4000000 in
set_option maxRecDepth 100000 in
theorem kk_M_timesAt (l : Launch) {V : kc_V} (hV : kc_G V) (σ : kc_Sg) (k : Nat) (f : Nat) (x : Int32) (n : Nat) (mp : ¬ σ 38 1 = 0) (ha : kc_ai V k n) (hf : f + 4 ≤ n) : kc_Met l y_M_timesAt b_M_timesAt 8 (some .int) (kc_rm 2) V [.ref (kc_ad V 38), .ref (kc_ad V k), .int (nI f), .int x] σ (some (.int (kp_M_timesAt σ k f x))) σ := by
  refine kc_of (by decide) (Nat.le_of_ble_eq_true rfl) hV.ok (fun C _ hC => ?_)
  show kc_Go C V 8 (0, 0) (kc_E C V (some (.int (kp_M_timesAt σ k f x))) σ) σ 0 [(0, .ref (kc_ad V 38)), (1, .ref (kc_ad V k)), (2, .int (nI f)), (3, .int x)] []
  refine kg_lconst hC d_M_timesAt_0 kn_l_1 ?_
  refine kg_lstore hC d_M_timesAt_1 [(4, .long (lN 1)), (0, .ref (kc_ad V 38)), (1, .ref (kc_ad V k)), (2, .int (nI f)), (3, .int x)] rfl (by decide) ?_
  refine kg_iconst hC d_M_timesAt_3 kn_i_1 ?_
  refine kg_istore hC d_M_timesAt_4 [(6, .int (nI 1)), (4, .long (lN 1)), (0, .ref (kc_ad V 38)), (1, .ref (kc_ad V k)), (2, .int (nI f)), (3, .int x)] rfl (by decide) ?_
  refine kg_iconst hC d_M_timesAt_6 kn_i_0 ?_
  refine kg_istore hC d_M_timesAt_7 [(7, .int (nI 0)), (6, .int (nI 1)), (4, .long (lN 1)), (0, .ref (kc_ad V 38)), (1, .ref (kc_ad V k)), (2, .int (nI f)), (3, .int x)] rfl (by decide) ?_
  refine kg_loc [0, 2, 1, 3, 4, 5, 6] (L' := [(7, .int (nI 0)), (4, .long (lN 1)), (6, .int (nI 1)), (0, .ref (kc_ad V 38)), (1, .ref (kc_ad V k)), (2, .int (nI f)), (3, .int x)]) rfl ?_
  refine kc_loop (fun i1 a1 => kc_Go C V 8 (0, 0) (kc_E C V (some (.int (kp_M_timesAt σ k f x))) σ) σ 9 [(7, .int (nI i1)), (4, .long (a1.1)), (6, .int (a1.2)), (0, .ref (kc_ad V 38)), (1, .ref (kc_ad V k)), (2, .int (nI f)), (3, .int x)] []) (kf_M_timesAt_1 σ k f x) 0 4 (fun i1 a1 ho1 hi1 hk1 => ?_) 4 0 ((lN 1), (nI 1)) (Nat.le_refl _) rfl ?_
  · refine kg_iload hC d_M_timesAt_9 0 rfl ?_
    refine kg_iconst hC d_M_timesAt_11 kn_i_4 ?_
    refine kg_icmp_ge hC d_M_timesAt_12 (tgt := 51) rfl (fun q => absurd q (nI_ge (by omega) (by decide))) (fun _ => ?_)
    refine kg_lload hC d_M_timesAt_15 1 rfl ?_
    refine kg_aload_n hC d_M_timesAt_17 3 rfl ?_
    refine kg_aload_n hC d_M_timesAt_18 4 rfl ?_
    refine kg_iload_n hC d_M_timesAt_19 5 rfl ?_
    refine kg_iload hC d_M_timesAt_20 0 rfl ?_
    refine kg_at (pc' := 22) rfl ?_
    refine kg_iadd hC d_M_timesAt_22 ?_
    refine kg_top (x' := (nI (f + i1))) (nI_add _ _) ?_
    refine kg_iald hC ha (i := (f + i1)) rfl (by omega) d_M_timesAt_23 ?_
    refine kg_iload hC d_M_timesAt_24 2 rfl ?_
    refine kg_virtualI hC (kk_M_power (kc_l C) hV σ (σ k (f + i1)) (a1.2) mp) cal_M_power tw_674 ts_M_power tw_672 (ko_38 hV) rfl rfl (by decide) (rest := [.long (a1.1)]) rfl (Nat.le_of_ble_eq_true rfl) d_M_timesAt_26 ?_ (by decide)
    refine kg_i2l hC d_M_timesAt_29 ?_
    refine kg_lmul hC d_M_timesAt_30 ?_
    refine kg_aload_n hC d_M_timesAt_31 3 rfl ?_
    refine kg_geti hC (ko_38 hV) rfl ui_M (j := 1) (by decide) tw_605 rfl d_M_timesAt_32 rfl ?_
    refine kg_at (pc' := 35) rfl ?_
    refine kg_i2l hC d_M_timesAt_35 ?_
    refine kg_lrem hC d_M_timesAt_36 (kn_l0 mp) ?_
    refine kg_lstore hC d_M_timesAt_37 [(4, .long (kc_lrem ((a1.1) * (Int32.toInt64 (kp_M_power σ (σ k (f + i1)) (a1.2)))) (Int32.toInt64 (σ 38 1)))), (7, .int (nI i1)), (6, .int (a1.2)), (0, .ref (kc_ad V 38)), (1, .ref (kc_ad V k)), (2, .int (nI f)), (3, .int x)] rfl (by decide) ?_
    refine kg_iload hC d_M_timesAt_39 2 rfl ?_
    refine kg_iload_n hC d_M_timesAt_41 6 rfl ?_
    refine kg_imul hC d_M_timesAt_42 ?_
    refine kg_istore hC d_M_timesAt_43 [(6, .int ((a1.2) * x)), (4, .long (kc_lrem ((a1.1) * (Int32.toInt64 (kp_M_power σ (σ k (f + i1)) (a1.2)))) (Int32.toInt64 (σ 38 1)))), (7, .int (nI i1)), (0, .ref (kc_ad V 38)), (1, .ref (kc_ad V k)), (2, .int (nI f)), (3, .int x)] rfl (by decide) ?_
    refine kg_iinc hC d_M_timesAt_45 2 rfl (kn_inc1 i1) [(7, .int (nI (i1 + 1))), (6, .int ((a1.2) * x)), (4, .long (kc_lrem ((a1.1) * (Int32.toInt64 (kp_M_power σ (σ k (f + i1)) (a1.2)))) (Int32.toInt64 (σ 38 1)))), (0, .ref (kc_ad V 38)), (1, .ref (kc_ad V k)), (2, .int (nI f)), (3, .int x)] rfl (by decide) ?_
    refine kg_at (pc' := 48) rfl ?_
    refine kg_goto hC d_M_timesAt_48 (tgt := 9) rfl ?_
    refine kg_loc [0, 2, 1, 3, 4, 5, 6] (L' := [(7, .int (nI (i1 + 1))), (4, .long (kc_lrem ((a1.1) * (Int32.toInt64 (kp_M_power σ (σ k (f + i1)) (a1.2)))) (Int32.toInt64 (σ 38 1)))), (6, .int ((a1.2) * x)), (0, .ref (kc_ad V 38)), (1, .ref (kc_ad V k)), (2, .int (nI f)), (3, .int x)]) rfl ?_
    exact kg_to (P := fun zz => kc_Go C V 8 (0, 0) (kc_E C V (some (.int (kp_M_timesAt σ k f x))) σ) σ 9 [(7, .int (nI (i1 + 1))), (4, .long (zz.1)), (6, .int (zz.2)), (0, .ref (kc_ad V 38)), (1, .ref (kc_ad V k)), (2, .int (nI f)), (3, .int x)] []) (b := ((kc_lrem ((a1.1) * (Int32.toInt64 (kp_M_power σ (σ k (f + i1)) (a1.2)))) (Int32.toInt64 (σ 38 1))), ((a1.2) * x))) (a := (kf_M_timesAt_1 σ k f x) i1 a1) (by rw [kf_M_timesAt_1]) hk1
  generalize hg1 : (kc_it (kf_M_timesAt_1 σ k f x) 4 0 ((lN 1), (nI 1))) = τ1
  refine kg_iload hC d_M_timesAt_9 0 rfl ?_
  refine kg_iconst hC d_M_timesAt_11 kn_i_4 ?_
  refine kg_icmp_ge hC d_M_timesAt_12 (tgt := 51) rfl (fun _ => ?_) (fun q => absurd (nI_le (by decide) (by decide)) q)
  refine kg_lload hC d_M_timesAt_51 1 rfl ?_
  refine kg_l2i hC d_M_timesAt_53 ?_
  exact kg_iret hC d_M_timesAt_54 (by rw [kp_M_timesAt, hg1]) rfl
def kp_M_goodShare (σ : kc_Sg) (d : Nat) (x : Int32) (s : Int32) : Int32 := if (kp_M_power σ (σ 38 3) s) = (kp_M_timesAt σ 45 (4 * d) x) then (nI 1) else (nI 0)
set_option maxHeartbeats 4000000 in
set_option maxRecDepth 100000 in
theorem kk_M_goodShare (l : Launch) {V : kc_V} (hV : kc_G V) (σ : kc_Sg) (d : Nat) (x : Int32) (s : Int32) (mp : ¬ σ 38 1 = 0) (hd : d < 8) : kc_Met l y_M_goodShare b_M_goodShare 4 (some .boolean) (kc_rm 3) V [.ref (kc_ad V 38), .int (nI d), .int x, .int s] σ (some (.int (kp_M_goodShare σ d x s))) σ := by
  refine kc_of (by decide) (Nat.le_of_ble_eq_true rfl) hV.ok (fun C _ hC => ?_)
  show kc_Go C V 4 (0, 0) (kc_E C V (some (.int (kp_M_goodShare σ d x s))) σ) σ 0 [(0, .ref (kc_ad V 38)), (1, .int (nI d)), (2, .int x), (3, .int s)] []
  refine kg_aload_n hC d_M_goodShare_0 0 rfl ?_
  refine kg_aload_n hC d_M_goodShare_1 0 rfl ?_
  refine kg_geti hC (ko_38 hV) rfl ui_M (j := 3) (by decide) tw_607 rfl d_M_goodShare_2 rfl ?_
  refine kg_iload_n hC d_M_goodShare_5 3 rfl ?_
  refine kg_virtualI hC (kk_M_power (kc_l C) hV σ (σ 38 3) s mp) cal_M_power tw_674 ts_M_power tw_672 (ko_38 hV) rfl rfl (by decide) (rest := []) rfl (Nat.le_of_ble_eq_true rfl) d_M_goodShare_6 ?_ (by decide)
  refine kg_aload_n hC d_M_goodShare_9 0 rfl ?_
  refine kg_aload_n hC d_M_goodShare_10 0 rfl ?_
  refine kg_getr hC (ko_38 hV) rfl ui_M (j := 12) (by decide) tw_616 rfl d_M_goodShare_11 rfl ?_
  refine kg_at (pc' := 14) rfl ?_
  refine kg_iconst hC d_M_goodShare_14 kn_i_4 ?_
  refine kg_iload_n hC d_M_goodShare_15 1 rfl ?_
  refine kg_imul hC d_M_goodShare_16 ?_
  refine kg_top (x' := (nI (4 * d))) (pk_mul _ _) ?_
  refine kg_iload_n hC d_M_goodShare_17 2 rfl ?_
  refine kg_virtualI hC (kk_M_timesAt (kc_l C) hV σ 45 (4 * d) x 32 mp (ka_45 hV) (by omega)) cal_M_timesAt tw_733 ts_M_timesAt tw_731 (ko_38 hV) rfl rfl (by decide) (rest := [.int (kp_M_power σ (σ 38 3) s)]) rfl (Nat.le_of_ble_eq_true rfl) d_M_goodShare_18 ?_ (by decide)
  refine kg_icmp_ne hC d_M_goodShare_21 (tgt := 28) rfl (fun h21 => ?_) (fun h21 => ?_)
  · refine kg_iconst hC d_M_goodShare_28 kn_i_0 ?_
    exact kg_zret hC d_M_goodShare_29 kn_z0 (by rw [kp_M_goodShare, if_neg h21]) rfl
  · refine kg_iconst hC d_M_goodShare_24 kn_i_1 ?_
    refine kg_goto hC d_M_goodShare_25 (tgt := 29) rfl ?_
    exact kg_zret hC d_M_goodShare_29 kn_z1 (by rw [kp_M_goodShare, if_pos h21]) rfl
theorem kz_M_goodShare (σ : kc_Sg) (d : Nat) (x : Int32) (s : Int32) : kp_M_goodShare σ d x s = nI 0 ∨ kp_M_goodShare σ d x s = nI 1 := by
  unfold kp_M_goodShare
  (repeat' split) <;> first | exact Or.inl rfl | exact Or.inr rfl
def kp_M_sent (σ : kc_Sg) (d : Nat) (x : Int32) : Int32 := if (σ 42 d) = (nI 2) then (if x = ((kc_rem (nI d) (nI 7)) + (nI 1)) then (kc_rem ((kp_M_valueAt σ d x) + (nI 1)) (σ 38 2)) else (kc_rem ((kp_M_valueAt σ d x) + (nI 0)) (σ 38 2))) else (if (σ 42 d) = (nI 5) then (if x = ((kc_rem (nI d) (nI 7)) + (nI 1)) then (kc_rem ((kp_M_valueAt σ d x) + (nI 1)) (σ 38 2)) else (kc_rem ((kp_M_valueAt σ d x) + (nI 0)) (σ 38 2))) else (if (σ 42 d) = (nI 6) then (if x = ((kc_rem (nI d) (nI 7)) + (nI 1)) then (kc_rem ((kp_M_valueAt σ d x) + (nI 1)) (σ 38 2)) else (kc_rem ((kp_M_valueAt σ d x) + (nI 0)) (σ 38 2))) else (kc_rem ((kp_M_valueAt σ d x) + (nI 0)) (σ 38 2))))
set_option maxHeartbeats 4000000 in
set_option maxRecDepth 100000 in
theorem kk_M_sent (l : Launch) {V : kc_V} (hV : kc_G V) (σ : kc_Sg) (d : Nat) (x : Int32) (mq : ¬ σ 38 2 = 0) (hd : d < 8) : kc_Met l y_M_sent b_M_sent 5 (some .int) (kc_rm 2) V [.ref (kc_ad V 38), .int (nI d), .int x] σ (some (.int (kp_M_sent σ d x))) σ := by
  refine kc_of (by decide) (Nat.le_of_ble_eq_true rfl) hV.ok (fun C _ hC => ?_)
  show kc_Go C V 5 (0, 0) (kc_E C V (some (.int (kp_M_sent σ d x))) σ) σ 0 [(0, .ref (kc_ad V 38)), (1, .int (nI d)), (2, .int x)] []
  refine kg_aload_n hC d_M_sent_0 0 rfl ?_
  refine kg_getr hC (ko_38 hV) rfl ui_M (j := 9) (by decide) tw_613 rfl d_M_sent_1 rfl ?_
  refine kg_iload_n hC d_M_sent_4 1 rfl ?_
  refine kg_iald hC (ka_42 hV) (i := d) rfl hd d_M_sent_5 ?_
  refine kg_istore_n hC d_M_sent_6 [(3, .int (σ 42 d)), (0, .ref (kc_ad V 38)), (1, .int (nI d)), (2, .int x)] rfl (by decide) ?_
  refine kg_iload_n hC d_M_sent_7 0 rfl ?_
  refine kg_iconst hC d_M_sent_8 kn_i_2 ?_
  refine kg_icmp_eq hC d_M_sent_9 (tgt := 23) rfl (fun h9 => ?_) (fun h9 => ?_)
  · refine kg_iload_n hC d_M_sent_23 3 rfl ?_
    refine kg_iload_n hC d_M_sent_24 2 rfl ?_
    refine kg_bipush hC d_M_sent_25 kn_b_7 ?_
    refine kg_irem hC d_M_sent_27 (by decide) ?_
    refine kg_iconst hC d_M_sent_28 kn_i_1 ?_
    refine kg_iadd hC d_M_sent_29 ?_
    refine kg_icmp_ne hC d_M_sent_30 (tgt := 37) rfl (fun h30 => ?_) (fun h30 => ?_)
    · refine kg_iconst hC d_M_sent_37 kn_i_0 ?_
      refine kg_istore hC d_M_sent_38 [(4, .int (nI 0)), (3, .int (σ 42 d)), (0, .ref (kc_ad V 38)), (1, .int (nI d)), (2, .int x)] rfl (by decide) ?_
      refine kg_aload_n hC d_M_sent_40 2 rfl ?_
      refine kg_iload_n hC d_M_sent_41 3 rfl ?_
      refine kg_iload_n hC d_M_sent_42 4 rfl ?_
      refine kg_virtualI hC (kk_M_valueAt (kc_l C) hV σ d x mq hd) cal_M_valueAt tw_686 ts_M_valueAt tw_684 (ko_38 hV) rfl rfl (by decide) (rest := []) rfl (Nat.le_of_ble_eq_true rfl) d_M_sent_43 ?_ (by decide)
      refine kg_iload hC d_M_sent_46 0 rfl ?_
      refine kg_if_eq hC d_M_sent_48 (tgt := 55) rfl (fun _ => ?_) (fun q => absurd (by decide) q)
      refine kg_at (pc' := 55) rfl ?_
      refine kg_iconst hC d_M_sent_55 kn_i_0 ?_
      refine kg_iadd hC d_M_sent_56 ?_
      refine kg_aload_n hC d_M_sent_57 2 rfl ?_
      refine kg_geti hC (ko_38 hV) rfl ui_M (j := 2) (by decide) tw_606 rfl d_M_sent_58 rfl ?_
      refine kg_irem hC d_M_sent_61 mq ?_
      exact kg_iret hC d_M_sent_62 (by rw [kp_M_sent, if_pos h9, if_neg h30]) rfl
    · refine kg_iconst hC d_M_sent_33 kn_i_1 ?_
      refine kg_goto hC d_M_sent_34 (tgt := 38) rfl ?_
      refine kg_istore hC d_M_sent_38 [(4, .int (nI 1)), (3, .int (σ 42 d)), (0, .ref (kc_ad V 38)), (1, .int (nI d)), (2, .int x)] rfl (by decide) ?_
      refine kg_aload_n hC d_M_sent_40 2 rfl ?_
      refine kg_iload_n hC d_M_sent_41 3 rfl ?_
      refine kg_iload_n hC d_M_sent_42 4 rfl ?_
      refine kg_virtualI hC (kk_M_valueAt (kc_l C) hV σ d x mq hd) cal_M_valueAt tw_686 ts_M_valueAt tw_684 (ko_38 hV) rfl rfl (by decide) (rest := []) rfl (Nat.le_of_ble_eq_true rfl) d_M_sent_43 ?_ (by decide)
      refine kg_iload hC d_M_sent_46 0 rfl ?_
      refine kg_at (pc' := 48) rfl ?_
      refine kg_if_eq hC d_M_sent_48 (tgt := 55) rfl (fun q => absurd q (by decide)) (fun _ => ?_)
      refine kg_iconst hC d_M_sent_51 kn_i_1 ?_
      refine kg_goto hC d_M_sent_52 (tgt := 56) rfl ?_
      refine kg_iadd hC d_M_sent_56 ?_
      refine kg_aload_n hC d_M_sent_57 2 rfl ?_
      refine kg_geti hC (ko_38 hV) rfl ui_M (j := 2) (by decide) tw_606 rfl d_M_sent_58 rfl ?_
      refine kg_irem hC d_M_sent_61 mq ?_
      exact kg_iret hC d_M_sent_62 (by rw [kp_M_sent, if_pos h9, if_pos h30]) rfl
  · refine kg_iload_n hC d_M_sent_12 0 rfl ?_
    refine kg_iconst hC d_M_sent_13 kn_i_5 ?_
    refine kg_icmp_eq hC d_M_sent_14 (tgt := 23) rfl (fun h14 => ?_) (fun h14 => ?_)
    · refine kg_iload_n hC d_M_sent_23 3 rfl ?_
      refine kg_iload_n hC d_M_sent_24 2 rfl ?_
      refine kg_bipush hC d_M_sent_25 kn_b_7 ?_
      refine kg_irem hC d_M_sent_27 (by decide) ?_
      refine kg_iconst hC d_M_sent_28 kn_i_1 ?_
      refine kg_iadd hC d_M_sent_29 ?_
      refine kg_icmp_ne hC d_M_sent_30 (tgt := 37) rfl (fun h30 => ?_) (fun h30 => ?_)
      · refine kg_iconst hC d_M_sent_37 kn_i_0 ?_
        refine kg_istore hC d_M_sent_38 [(4, .int (nI 0)), (3, .int (σ 42 d)), (0, .ref (kc_ad V 38)), (1, .int (nI d)), (2, .int x)] rfl (by decide) ?_
        refine kg_aload_n hC d_M_sent_40 2 rfl ?_
        refine kg_iload_n hC d_M_sent_41 3 rfl ?_
        refine kg_iload_n hC d_M_sent_42 4 rfl ?_
        refine kg_virtualI hC (kk_M_valueAt (kc_l C) hV σ d x mq hd) cal_M_valueAt tw_686 ts_M_valueAt tw_684 (ko_38 hV) rfl rfl (by decide) (rest := []) rfl (Nat.le_of_ble_eq_true rfl) d_M_sent_43 ?_ (by decide)
        refine kg_iload hC d_M_sent_46 0 rfl ?_
        refine kg_if_eq hC d_M_sent_48 (tgt := 55) rfl (fun _ => ?_) (fun q => absurd (by decide) q)
        refine kg_at (pc' := 55) rfl ?_
        refine kg_iconst hC d_M_sent_55 kn_i_0 ?_
        refine kg_iadd hC d_M_sent_56 ?_
        refine kg_aload_n hC d_M_sent_57 2 rfl ?_
        refine kg_geti hC (ko_38 hV) rfl ui_M (j := 2) (by decide) tw_606 rfl d_M_sent_58 rfl ?_
        refine kg_irem hC d_M_sent_61 mq ?_
        exact kg_iret hC d_M_sent_62 (by rw [kp_M_sent, if_neg h9, if_pos h14, if_neg h30]) rfl
      · refine kg_iconst hC d_M_sent_33 kn_i_1 ?_
        refine kg_goto hC d_M_sent_34 (tgt := 38) rfl ?_
        refine kg_istore hC d_M_sent_38 [(4, .int (nI 1)), (3, .int (σ 42 d)), (0, .ref (kc_ad V 38)), (1, .int (nI d)), (2, .int x)] rfl (by decide) ?_
        refine kg_aload_n hC d_M_sent_40 2 rfl ?_
        refine kg_iload_n hC d_M_sent_41 3 rfl ?_
        refine kg_iload_n hC d_M_sent_42 4 rfl ?_
        refine kg_virtualI hC (kk_M_valueAt (kc_l C) hV σ d x mq hd) cal_M_valueAt tw_686 ts_M_valueAt tw_684 (ko_38 hV) rfl rfl (by decide) (rest := []) rfl (Nat.le_of_ble_eq_true rfl) d_M_sent_43 ?_ (by decide)
        refine kg_iload hC d_M_sent_46 0 rfl ?_
        refine kg_at (pc' := 48) rfl ?_
        refine kg_if_eq hC d_M_sent_48 (tgt := 55) rfl (fun q => absurd q (by decide)) (fun _ => ?_)
        refine kg_iconst hC d_M_sent_51 kn_i_1 ?_
        refine kg_goto hC d_M_sent_52 (tgt := 56) rfl ?_
        refine kg_iadd hC d_M_sent_56 ?_
        refine kg_aload_n hC d_M_sent_57 2 rfl ?_
        refine kg_geti hC (ko_38 hV) rfl ui_M (j := 2) (by decide) tw_606 rfl d_M_sent_58 rfl ?_
        refine kg_irem hC d_M_sent_61 mq ?_
        exact kg_iret hC d_M_sent_62 (by rw [kp_M_sent, if_neg h9, if_pos h14, if_pos h30]) rfl
    · refine kg_iload_n hC d_M_sent_17 0 rfl ?_
      refine kg_bipush hC d_M_sent_18 kn_b_6 ?_
      refine kg_icmp_ne hC d_M_sent_20 (tgt := 37) rfl (fun h20 => ?_) (fun h20 => ?_)
      · refine kg_iconst hC d_M_sent_37 kn_i_0 ?_
        refine kg_istore hC d_M_sent_38 [(4, .int (nI 0)), (3, .int (σ 42 d)), (0, .ref (kc_ad V 38)), (1, .int (nI d)), (2, .int x)] rfl (by decide) ?_
        refine kg_aload_n hC d_M_sent_40 2 rfl ?_
        refine kg_iload_n hC d_M_sent_41 3 rfl ?_
        refine kg_iload_n hC d_M_sent_42 4 rfl ?_
        refine kg_virtualI hC (kk_M_valueAt (kc_l C) hV σ d x mq hd) cal_M_valueAt tw_686 ts_M_valueAt tw_684 (ko_38 hV) rfl rfl (by decide) (rest := []) rfl (Nat.le_of_ble_eq_true rfl) d_M_sent_43 ?_ (by decide)
        refine kg_iload hC d_M_sent_46 0 rfl ?_
        refine kg_if_eq hC d_M_sent_48 (tgt := 55) rfl (fun _ => ?_) (fun q => absurd (by decide) q)
        refine kg_at (pc' := 55) rfl ?_
        refine kg_iconst hC d_M_sent_55 kn_i_0 ?_
        refine kg_iadd hC d_M_sent_56 ?_
        refine kg_aload_n hC d_M_sent_57 2 rfl ?_
        refine kg_geti hC (ko_38 hV) rfl ui_M (j := 2) (by decide) tw_606 rfl d_M_sent_58 rfl ?_
        refine kg_irem hC d_M_sent_61 mq ?_
        exact kg_iret hC d_M_sent_62 (by rw [kp_M_sent, if_neg h9, if_neg h14, if_neg h20]) rfl
      · refine kg_iload_n hC d_M_sent_23 3 rfl ?_
        refine kg_iload_n hC d_M_sent_24 2 rfl ?_
        refine kg_bipush hC d_M_sent_25 kn_b_7 ?_
        refine kg_irem hC d_M_sent_27 (by decide) ?_
        refine kg_iconst hC d_M_sent_28 kn_i_1 ?_
        refine kg_iadd hC d_M_sent_29 ?_
        refine kg_icmp_ne hC d_M_sent_30 (tgt := 37) rfl (fun h30 => ?_) (fun h30 => ?_)
        · refine kg_iconst hC d_M_sent_37 kn_i_0 ?_
          refine kg_istore hC d_M_sent_38 [(4, .int (nI 0)), (3, .int (σ 42 d)), (0, .ref (kc_ad V 38)), (1, .int (nI d)), (2, .int x)] rfl (by decide) ?_
          refine kg_aload_n hC d_M_sent_40 2 rfl ?_
          refine kg_iload_n hC d_M_sent_41 3 rfl ?_
          refine kg_iload_n hC d_M_sent_42 4 rfl ?_
          refine kg_virtualI hC (kk_M_valueAt (kc_l C) hV σ d x mq hd) cal_M_valueAt tw_686 ts_M_valueAt tw_684 (ko_38 hV) rfl rfl (by decide) (rest := []) rfl (Nat.le_of_ble_eq_true rfl) d_M_sent_43 ?_ (by decide)
          refine kg_iload hC d_M_sent_46 0 rfl ?_
          refine kg_if_eq hC d_M_sent_48 (tgt := 55) rfl (fun _ => ?_) (fun q => absurd (by decide) q)
          refine kg_at (pc' := 55) rfl ?_
          refine kg_iconst hC d_M_sent_55 kn_i_0 ?_
          refine kg_iadd hC d_M_sent_56 ?_
          refine kg_aload_n hC d_M_sent_57 2 rfl ?_
          refine kg_geti hC (ko_38 hV) rfl ui_M (j := 2) (by decide) tw_606 rfl d_M_sent_58 rfl ?_
          refine kg_irem hC d_M_sent_61 mq ?_
          exact kg_iret hC d_M_sent_62 (by rw [kp_M_sent, if_neg h9, if_neg h14, if_pos h20, if_neg h30]) rfl
        · refine kg_iconst hC d_M_sent_33 kn_i_1 ?_
          refine kg_goto hC d_M_sent_34 (tgt := 38) rfl ?_
          refine kg_istore hC d_M_sent_38 [(4, .int (nI 1)), (3, .int (σ 42 d)), (0, .ref (kc_ad V 38)), (1, .int (nI d)), (2, .int x)] rfl (by decide) ?_
          refine kg_aload_n hC d_M_sent_40 2 rfl ?_
          refine kg_iload_n hC d_M_sent_41 3 rfl ?_
          refine kg_iload_n hC d_M_sent_42 4 rfl ?_
          refine kg_virtualI hC (kk_M_valueAt (kc_l C) hV σ d x mq hd) cal_M_valueAt tw_686 ts_M_valueAt tw_684 (ko_38 hV) rfl rfl (by decide) (rest := []) rfl (Nat.le_of_ble_eq_true rfl) d_M_sent_43 ?_ (by decide)
          refine kg_iload hC d_M_sent_46 0 rfl ?_
          refine kg_at (pc' := 48) rfl ?_
          refine kg_if_eq hC d_M_sent_48 (tgt := 55) rfl (fun q => absurd q (by decide)) (fun _ => ?_)
          refine kg_iconst hC d_M_sent_51 kn_i_1 ?_
          refine kg_goto hC d_M_sent_52 (tgt := 56) rfl ?_
          refine kg_iadd hC d_M_sent_56 ?_
          refine kg_aload_n hC d_M_sent_57 2 rfl ?_
          refine kg_geti hC (ko_38 hV) rfl ui_M (j := 2) (by decide) tw_606 rfl d_M_sent_58 rfl ?_
          refine kg_irem hC d_M_sent_61 mq ?_
          exact kg_iret hC d_M_sent_62 (by rw [kp_M_sent, if_neg h9, if_neg h14, if_pos h20, if_pos h30]) rfl
def kp_M_dealer (σ : kc_Sg) (d : Nat) : Int32 := if (σ 43 d) = 0 then (nI 0) else (if (σ 42 d) = (nI 1) then (nI 0) else (nI 1))
set_option maxHeartbeats 4000000 in
set_option maxRecDepth 100000 in
theorem kk_M_dealer (l : Launch) {V : kc_V} (hV : kc_G V) (σ : kc_Sg) (d : Nat) (hd : d < 8) : kc_Met l y_M_dealer b_M_dealer 2 (some .boolean) (kc_rm 1) V [.ref (kc_ad V 38), .int (nI d)] σ (some (.int (kp_M_dealer σ d))) σ := by
  refine kc_of (by decide) (Nat.le_of_ble_eq_true rfl) hV.ok (fun C _ hC => ?_)
  show kc_Go C V 2 (0, 0) (kc_E C V (some (.int (kp_M_dealer σ d))) σ) σ 0 [(0, .ref (kc_ad V 38)), (1, .int (nI d))] []
  refine kg_aload_n hC d_M_dealer_0 0 rfl ?_
  refine kg_getr hC (ko_38 hV) rfl ui_M (j := 10) (by decide) tw_614 rfl d_M_dealer_1 rfl ?_
  refine kg_iload_n hC d_M_dealer_4 1 rfl ?_
  refine kg_zald hC (ka_43 hV) (i := d) rfl hd d_M_dealer_5 ?_
  refine kg_if_eq hC d_M_dealer_6 (tgt := 23) rfl (fun h6 => ?_) (fun h6 => ?_)
  · refine kg_iconst hC d_M_dealer_23 kn_i_0 ?_
    exact kg_zret hC d_M_dealer_24 kn_z0 (by rw [kp_M_dealer, if_pos h6]) rfl
  · refine kg_aload_n hC d_M_dealer_9 0 rfl ?_
    refine kg_getr hC (ko_38 hV) rfl ui_M (j := 9) (by decide) tw_613 rfl d_M_dealer_10 rfl ?_
    refine kg_iload_n hC d_M_dealer_13 1 rfl ?_
    refine kg_iald hC (ka_42 hV) (i := d) rfl hd d_M_dealer_14 ?_
    refine kg_iconst hC d_M_dealer_15 kn_i_1 ?_
    refine kg_icmp_eq hC d_M_dealer_16 (tgt := 23) rfl (fun h16 => ?_) (fun h16 => ?_)
    · refine kg_iconst hC d_M_dealer_23 kn_i_0 ?_
      exact kg_zret hC d_M_dealer_24 kn_z0 (by rw [kp_M_dealer, if_neg h6, if_pos h16]) rfl
    · refine kg_iconst hC d_M_dealer_19 kn_i_1 ?_
      refine kg_goto hC d_M_dealer_20 (tgt := 24) rfl ?_
      exact kg_zret hC d_M_dealer_24 kn_z1 (by rw [kp_M_dealer, if_neg h6, if_neg h16]) rfl
theorem kz_M_dealer (σ : kc_Sg) (d : Nat) : kp_M_dealer σ d = nI 0 ∨ kp_M_dealer σ d = nI 1 := by
  unfold kp_M_dealer
  (repeat' split) <;> first | exact Or.inl rfl | exact Or.inr rfl
def kf_M_newWeek_1  (i1 : Nat) (a1 : kc_Sg) : kc_Sg := (kc_up (kc_up a1 42 i1 (nI 0)) 43 i1 (nI 0))
def kf_M_newWeek_2  (i2 : Nat) (a2 : kc_Sg) : kc_Sg := (kc_up (kc_up a2 47 i2 (nI 0)) 48 i2 (nI 0))
def kq_M_newWeek (σ : kc_Sg) : kc_Sg := (kc_it (kf_M_newWeek_2) 64 0 (kc_it (kf_M_newWeek_1) 8 0 (kc_up σ 38 5 ((σ 38 5) + (nI 1)))))
set_option maxHeartbeats 4000000 in
set_option maxRecDepth 100000 in
theorem kk_M_newWeek (l : Launch) {V : kc_V} (hV : kc_G V) (σ : kc_Sg) : kc_Met l y_M_newWeek b_M_newWeek 2 none (kc_rm 1) V [.ref (kc_ad V 38)] σ none (kq_M_newWeek σ) := by
  refine kc_of (by decide) (Nat.le_of_ble_eq_true rfl) hV.ok (fun C _ hC => ?_)
  show kc_Go C V 2 (0, 0) (kc_E C V none (kq_M_newWeek σ)) σ 0 [(0, .ref (kc_ad V 38))] []
  refine kg_aload_n hC d_M_newWeek_0 0 rfl ?_
  refine kg_dup hC d_M_newWeek_1 rfl ?_
  refine kg_geti hC (ko_38 hV) rfl ui_M (j := 5) (by decide) tw_609 rfl d_M_newWeek_2 rfl ?_
  refine kg_iconst hC d_M_newWeek_5 kn_i_1 ?_
  refine kg_iadd hC d_M_newWeek_6 ?_
  refine kg_puti hC (ko_38 hV) rfl ui_M ok_M nm_M (j := 5) (by decide) tw_609 rfl rfl rfl rfl d_M_newWeek_7 rfl ?_
  refine kg_iconst hC d_M_newWeek_10 kn_i_0 ?_
  refine kg_istore_n hC d_M_newWeek_11 [(1, .int (nI 0)), (0, .ref (kc_ad V 38))] rfl (by decide) ?_
  refine kc_loop (fun i1 a1 => kc_Go C V 2 (0, 0) (kc_E C V none (kq_M_newWeek σ)) a1 12 [(1, .int (nI i1)), (0, .ref (kc_ad V 38))] []) (kf_M_newWeek_1) 0 8 (fun i1 a1 ho1 hi1 hk1 => ?_) 8 0 (kc_up σ 38 5 ((σ 38 5) + (nI 1))) (Nat.le_refl _) rfl ?_
  · refine kg_iload_n hC d_M_newWeek_12 0 rfl ?_
    refine kg_bipush hC d_M_newWeek_13 kn_b_8 ?_
    refine kg_icmp_ge hC d_M_newWeek_15 (tgt := 38) rfl (fun q => absurd q (nI_ge (by omega) (by decide))) (fun _ => ?_)
    refine kg_aload_n hC d_M_newWeek_18 1 rfl ?_
    refine kg_getr hC (ko_38 hV) rfl ui_M (j := 9) (by decide) tw_613 rfl d_M_newWeek_19 rfl ?_
    refine kg_iload_n hC d_M_newWeek_22 0 rfl ?_
    refine kg_iconst hC d_M_newWeek_23 kn_i_0 ?_
    refine kg_iast hC (ka_42 hV) (i := i1) rfl (by omega) d_M_newWeek_24 ?_
    refine kg_at (pc' := 25) rfl ?_
    refine kg_aload_n hC d_M_newWeek_25 1 rfl ?_
    refine kg_getr hC (ko_38 hV) rfl ui_M (j := 10) (by decide) tw_614 rfl d_M_newWeek_26 rfl ?_
    refine kg_iload_n hC d_M_newWeek_29 0 rfl ?_
    refine kg_iconst hC d_M_newWeek_30 kn_i_0 ?_
    refine kg_zast hC (ka_43 hV) (i := i1) rfl (by omega) (by decide) d_M_newWeek_31 ?_
    refine kg_iinc hC d_M_newWeek_32 0 rfl (kn_inc1 i1) [(1, .int (nI (i1 + 1))), (0, .ref (kc_ad V 38))] rfl (by decide) ?_
    refine kg_goto hC d_M_newWeek_35 (tgt := 12) rfl ?_
    exact kg_to (P := fun zz => kc_Go C V 2 (0, 0) (kc_E C V none (kq_M_newWeek σ)) zz 12 [(1, .int (nI (i1 + 1))), (0, .ref (kc_ad V 38))] []) (b := (kc_up (kc_up a1 42 i1 (nI 0)) 43 i1 (nI 0))) (a := (kf_M_newWeek_1) i1 a1) (by rw [kf_M_newWeek_1]) hk1
  generalize hg1 : (kc_it (kf_M_newWeek_1) 8 0 (kc_up σ 38 5 ((σ 38 5) + (nI 1)))) = τ1
  refine kg_iload_n hC d_M_newWeek_12 0 rfl ?_
  refine kg_bipush hC d_M_newWeek_13 kn_b_8 ?_
  refine kg_icmp_ge hC d_M_newWeek_15 (tgt := 38) rfl (fun _ => ?_) (fun q => absurd (nI_le (by decide) (by decide)) q)
  refine kg_iconst hC d_M_newWeek_38 kn_i_0 ?_
  refine kg_istore_n hC d_M_newWeek_39 [(1, .int (nI 0)), (0, .ref (kc_ad V 38))] rfl (by decide) ?_
  refine kc_loop (fun i2 a2 => kc_Go C V 2 (0, 0) (kc_E C V none (kq_M_newWeek σ)) a2 40 [(1, .int (nI i2)), (0, .ref (kc_ad V 38))] []) (kf_M_newWeek_2) 0 64 (fun i2 a2 ho2 hi2 hk2 => ?_) 64 0 τ1 (Nat.le_refl _) rfl ?_
  · refine kg_iload_n hC d_M_newWeek_40 0 rfl ?_
    refine kg_bipush hC d_M_newWeek_41 kn_b_64 ?_
    refine kg_icmp_ge hC d_M_newWeek_43 (tgt := 66) rfl (fun q => absurd q (nI_ge (by omega) (by decide))) (fun _ => ?_)
    refine kg_aload_n hC d_M_newWeek_46 1 rfl ?_
    refine kg_getr hC (ko_38 hV) rfl ui_M (j := 14) (by decide) tw_618 rfl d_M_newWeek_47 rfl ?_
    refine kg_iload_n hC d_M_newWeek_50 0 rfl ?_
    refine kg_iconst hC d_M_newWeek_51 kn_i_0 ?_
    refine kg_zast hC (ka_47 hV) (i := i2) rfl (by omega) (by decide) d_M_newWeek_52 ?_
    refine kg_at (pc' := 53) rfl ?_
    refine kg_aload_n hC d_M_newWeek_53 1 rfl ?_
    refine kg_getr hC (ko_38 hV) rfl ui_M (j := 15) (by decide) tw_619 rfl d_M_newWeek_54 rfl ?_
    refine kg_iload_n hC d_M_newWeek_57 0 rfl ?_
    refine kg_iconst hC d_M_newWeek_58 kn_i_0 ?_
    refine kg_zast hC (ka_48 hV) (i := i2) rfl (by omega) (by decide) d_M_newWeek_59 ?_
    refine kg_iinc hC d_M_newWeek_60 0 rfl (kn_inc1 i2) [(1, .int (nI (i2 + 1))), (0, .ref (kc_ad V 38))] rfl (by decide) ?_
    refine kg_goto hC d_M_newWeek_63 (tgt := 40) rfl ?_
    exact kg_to (P := fun zz => kc_Go C V 2 (0, 0) (kc_E C V none (kq_M_newWeek σ)) zz 40 [(1, .int (nI (i2 + 1))), (0, .ref (kc_ad V 38))] []) (b := (kc_up (kc_up a2 47 i2 (nI 0)) 48 i2 (nI 0))) (a := (kf_M_newWeek_2) i2 a2) (by rw [kf_M_newWeek_2]) hk2
  generalize hg2 : (kc_it (kf_M_newWeek_2) 64 0 τ1) = τ2
  refine kg_iload_n hC d_M_newWeek_40 0 rfl ?_
  refine kg_bipush hC d_M_newWeek_41 kn_b_64 ?_
  refine kg_icmp_ge hC d_M_newWeek_43 (tgt := 66) rfl (fun _ => ?_) (fun q => absurd (nI_le (by decide) (by decide)) q)
  exact kg_vret hC d_M_newWeek_66 (by rw [kq_M_newWeek, hg1, hg2])
def kf_M_put_1 (σ : kc_Sg) (t : Int32) (d : Nat) (i1 : Nat) (a1 : kc_Sg) : kc_Sg := (kc_up a1 49 (((9 * (mb σ)) + 5) + i1) (if t = (nI 1) then (a1 45 ((4 * d) + i1)) else (nI 0)))
def kq_M_put (σ : kc_Sg) (t : Int32) (d : Nat) (w : Int32) (v : Int32) : kc_Sg := (kc_up (kc_it (kf_M_put_1 σ t d) 4 0 (kc_up (kc_up (kc_up (kc_up (kc_up σ 49 (9 * (mb σ)) t) 49 ((9 * (mb σ)) + 1) (nI d)) 49 ((9 * (mb σ)) + 2) w) 49 ((9 * (mb σ)) + 3) v) 49 ((9 * (mb σ)) + 4) (σ 38 5))) 38 16 (((kc_it (kf_M_put_1 σ t d) 4 0 (kc_up (kc_up (kc_up (kc_up (kc_up σ 49 (9 * (mb σ)) t) 49 ((9 * (mb σ)) + 1) (nI d)) 49 ((9 * (mb σ)) + 2) w) 49 ((9 * (mb σ)) + 3) v) 49 ((9 * (mb σ)) + 4) (σ 38 5))) 38 16) + (nI 1)))
set_option maxHeartbeats 4000000 in
set_option maxRecDepth 100000 in
theorem kk_M_put (l : Launch) {V : kc_V} (hV : kc_G V) (σ : kc_Sg) (t : Int32) (d : Nat) (w : Int32) (v : Int32) (hb : kc_mbd σ) (hd : d < 8) : kc_Met l y_M_put b_M_put 6 none (kc_rm 1) V [.ref (kc_ad V 38), .int t, .int (nI d), .int w, .int v] σ none (kq_M_put σ t d w v) := by
  refine kc_of (by decide) (Nat.le_of_ble_eq_true rfl) hV.ok (fun C _ hC => ?_)
  have hb2 := hb.2
  show kc_Go C V 6 (0, 0) (kc_E C V none (kq_M_put σ t d w v)) σ 0 [(0, .ref (kc_ad V 38)), (1, .int t), (2, .int (nI d)), (3, .int w), (4, .int v)] []
  refine kg_aload_n hC d_M_put_0 0 rfl ?_
  refine kg_getr hC (ko_38 hV) rfl ui_M (j := 17) (by decide) tw_621 rfl d_M_put_1 rfl ?_
  refine kg_bipush hC d_M_put_4 kn_b_9 ?_
  refine kg_aload_n hC d_M_put_6 0 rfl ?_
  refine kg_geti hC (ko_38 hV) rfl ui_M (j := 16) (by decide) tw_620 rfl d_M_put_7 rfl ?_
  refine kg_top (x' := (nI (mb σ))) hb.1 ?_
  refine kg_imul hC d_M_put_10 ?_
  refine kg_top (x' := (nI (9 * (mb σ)))) (pk_mul _ _) ?_
  refine kg_iload_n hC d_M_put_11 1 rfl ?_
  refine kg_iast hC (ka_49 hV) (i := (9 * (mb σ))) rfl (by omega) d_M_put_12 ?_
  refine kg_at (pc' := 13) rfl ?_
  refine kg_aload_n hC d_M_put_13 0 rfl ?_
  refine kg_getr hC (ko_38 hV) rfl ui_M (j := 17) (by decide) tw_621 rfl d_M_put_14 rfl ?_
  refine kg_bipush hC d_M_put_17 kn_b_9 ?_
  refine kg_aload_n hC d_M_put_19 0 rfl ?_
  refine kg_geti hC (ko_38 hV) rfl ui_M (j := 16) (by decide) tw_620 rfl d_M_put_20 rfl ?_
  refine kg_top (x' := (σ 38 16)) (kc_up_nk (by decide)) ?_
  refine kg_top (x' := (nI (mb σ))) hb.1 ?_
  refine kg_imul hC d_M_put_23 ?_
  refine kg_top (x' := (nI (9 * (mb σ)))) (pk_mul _ _) ?_
  refine kg_iconst hC d_M_put_24 kn_i_1 ?_
  refine kg_iadd hC d_M_put_25 ?_
  refine kg_top (x' := (nI ((9 * (mb σ)) + 1))) (nI_add _ _) ?_
  refine kg_at (pc' := 26) rfl ?_
  refine kg_iload_n hC d_M_put_26 2 rfl ?_
  refine kg_iast hC (ka_49 hV) (i := ((9 * (mb σ)) + 1)) rfl (by omega) d_M_put_27 ?_
  refine kg_aload_n hC d_M_put_28 0 rfl ?_
  refine kg_getr hC (ko_38 hV) rfl ui_M (j := 17) (by decide) tw_621 rfl d_M_put_29 rfl ?_
  refine kg_bipush hC d_M_put_32 kn_b_9 ?_
  refine kg_aload_n hC d_M_put_34 0 rfl ?_
  refine kg_geti hC (ko_38 hV) rfl ui_M (j := 16) (by decide) tw_620 rfl d_M_put_35 rfl ?_
  refine kg_top (x' := (σ 38 16)) ((kc_up_nk (by decide)).trans (kc_up_nk (by decide))) ?_
  refine kg_top (x' := (nI (mb σ))) hb.1 ?_
  refine kg_imul hC d_M_put_38 ?_
  refine kg_top (x' := (nI (9 * (mb σ)))) (pk_mul _ _) ?_
  refine kg_at (pc' := 39) rfl ?_
  refine kg_iconst hC d_M_put_39 kn_i_2 ?_
  refine kg_iadd hC d_M_put_40 ?_
  refine kg_top (x' := (nI ((9 * (mb σ)) + 2))) (nI_add _ _) ?_
  refine kg_iload_n hC d_M_put_41 3 rfl ?_
  refine kg_iast hC (ka_49 hV) (i := ((9 * (mb σ)) + 2)) rfl (by omega) d_M_put_42 ?_
  refine kg_aload_n hC d_M_put_43 0 rfl ?_
  refine kg_getr hC (ko_38 hV) rfl ui_M (j := 17) (by decide) tw_621 rfl d_M_put_44 rfl ?_
  refine kg_bipush hC d_M_put_47 kn_b_9 ?_
  refine kg_aload_n hC d_M_put_49 0 rfl ?_
  refine kg_at (pc' := 50) rfl ?_
  refine kg_geti hC (ko_38 hV) rfl ui_M (j := 16) (by decide) tw_620 rfl d_M_put_50 rfl ?_
  refine kg_top (x' := (σ 38 16)) (((kc_up_nk (by decide)).trans (kc_up_nk (by decide))).trans (kc_up_nk (by decide))) ?_
  refine kg_top (x' := (nI (mb σ))) hb.1 ?_
  refine kg_imul hC d_M_put_53 ?_
  refine kg_top (x' := (nI (9 * (mb σ)))) (pk_mul _ _) ?_
  refine kg_iconst hC d_M_put_54 kn_i_3 ?_
  refine kg_iadd hC d_M_put_55 ?_
  refine kg_top (x' := (nI ((9 * (mb σ)) + 3))) (nI_add _ _) ?_
  refine kg_iload hC d_M_put_56 4 rfl ?_
  refine kg_iast hC (ka_49 hV) (i := ((9 * (mb σ)) + 3)) rfl (by omega) d_M_put_58 ?_
  refine kg_aload_n hC d_M_put_59 0 rfl ?_
  refine kg_getr hC (ko_38 hV) rfl ui_M (j := 17) (by decide) tw_621 rfl d_M_put_60 rfl ?_
  refine kg_at (pc' := 63) rfl ?_
  refine kg_bipush hC d_M_put_63 kn_b_9 ?_
  refine kg_aload_n hC d_M_put_65 0 rfl ?_
  refine kg_geti hC (ko_38 hV) rfl ui_M (j := 16) (by decide) tw_620 rfl d_M_put_66 rfl ?_
  refine kg_top (x' := (σ 38 16)) ((((kc_up_nk (by decide)).trans (kc_up_nk (by decide))).trans (kc_up_nk (by decide))).trans (kc_up_nk (by decide))) ?_
  refine kg_top (x' := (nI (mb σ))) hb.1 ?_
  refine kg_imul hC d_M_put_69 ?_
  refine kg_top (x' := (nI (9 * (mb σ)))) (pk_mul _ _) ?_
  refine kg_iconst hC d_M_put_70 kn_i_4 ?_
  refine kg_iadd hC d_M_put_71 ?_
  refine kg_top (x' := (nI ((9 * (mb σ)) + 4))) (nI_add _ _) ?_
  refine kg_aload_n hC d_M_put_72 0 rfl ?_
  refine kg_geti hC (ko_38 hV) rfl ui_M (j := 5) (by decide) tw_609 rfl d_M_put_73 rfl ?_
  refine kg_top (x' := (σ 38 5)) ((((kc_up_nk (by decide)).trans (kc_up_nk (by decide))).trans (kc_up_nk (by decide))).trans (kc_up_nk (by decide))) ?_
  refine kg_at (pc' := 76) rfl ?_
  refine kg_iast hC (ka_49 hV) (i := ((9 * (mb σ)) + 4)) rfl (by omega) d_M_put_76 ?_
  refine kg_iconst hC d_M_put_77 kn_i_0 ?_
  refine kg_istore hC d_M_put_78 [(5, .int (nI 0)), (0, .ref (kc_ad V 38)), (1, .int t), (2, .int (nI d)), (3, .int w), (4, .int v)] rfl (by decide) ?_
  refine kc_loop (fun i1 a1 => a1 38 = σ 38 → kc_Go C V 6 (0, 0) (kc_E C V none (kq_M_put σ t d w v)) a1 80 [(5, .int (nI i1)), (0, .ref (kc_ad V 38)), (1, .int t), (2, .int (nI d)), (3, .int w), (4, .int v)] []) (kf_M_put_1 σ t d) 0 4 (fun i1 a1 ho1 hi1 hk1 hv1 => ?_) 4 0 (kc_up (kc_up (kc_up (kc_up (kc_up σ 49 (9 * (mb σ)) t) 49 ((9 * (mb σ)) + 1) (nI d)) 49 ((9 * (mb σ)) + 2) w) 49 ((9 * (mb σ)) + 3) v) 49 ((9 * (mb σ)) + 4) (σ 38 5)) (Nat.le_refl _) rfl (fun hw1 => ?_) rfl
  · refine kg_iload hC d_M_put_80 0 rfl ?_
    refine kg_iconst hC d_M_put_82 kn_i_4 ?_
    refine kg_icmp_ge hC d_M_put_83 (tgt := 129) rfl (fun q => absurd q (nI_ge (by omega) (by decide))) (fun _ => ?_)
    refine kg_aload_n hC d_M_put_86 1 rfl ?_
    refine kg_getr hC (ko_38 hV) rfl ui_M (j := 17) (by decide) tw_621 rfl d_M_put_87 rfl ?_
    refine kg_bipush hC d_M_put_90 kn_b_9 ?_
    refine kg_aload_n hC d_M_put_92 1 rfl ?_
    refine kg_geti hC (ko_38 hV) rfl ui_M (j := 16) (by decide) tw_620 rfl d_M_put_93 rfl ?_
    refine kg_top (x' := (nI (mb σ))) (by rw [hv1]; exact hb.1) ?_
    refine kg_at (pc' := 96) rfl ?_
    refine kg_imul hC d_M_put_96 ?_
    refine kg_top (x' := (nI (9 * (mb σ)))) (pk_mul _ _) ?_
    refine kg_iconst hC d_M_put_97 kn_i_5 ?_
    refine kg_iadd hC d_M_put_98 ?_
    refine kg_top (x' := (nI ((9 * (mb σ)) + 5))) (nI_add _ _) ?_
    refine kg_iload hC d_M_put_99 0 rfl ?_
    refine kg_iadd hC d_M_put_101 ?_
    refine kg_top (x' := (nI (((9 * (mb σ)) + 5) + i1))) (nI_add _ _) ?_
    refine kg_iload_n hC d_M_put_102 2 rfl ?_
    refine kg_iconst hC d_M_put_103 kn_i_1 ?_
    have j104 : kc_Go C V 6 (0, 0) (kc_E C V none (kq_M_put σ t d w v)) a1 122 [(5, .int (nI i1)), (0, .ref (kc_ad V 38)), (1, .int t), (2, .int (nI d)), (3, .int w), (4, .int v)] [.int (if t = (nI 1) then (a1 45 ((4 * d) + i1)) else (nI 0)), .int (nI (((9 * (mb σ)) + 5) + i1)), .ref (kc_ad V 49)] := by
      refine kg_iast hC (ka_49 hV) (i := (((9 * (mb σ)) + 5) + i1)) rfl (by omega) d_M_put_122 ?_
      refine kg_iinc hC d_M_put_123 0 rfl (kn_inc1 i1) [(5, .int (nI (i1 + 1))), (0, .ref (kc_ad V 38)), (1, .int t), (2, .int (nI d)), (3, .int w), (4, .int v)] rfl (by decide) ?_
      refine kg_goto hC d_M_put_126 (tgt := 80) rfl ?_
      exact kg_to (P := fun zz => zz 38 = σ 38 → kc_Go C V 6 (0, 0) (kc_E C V none (kq_M_put σ t d w v)) zz 80 [(5, .int (nI (i1 + 1))), (0, .ref (kc_ad V 38)), (1, .int t), (2, .int (nI d)), (3, .int w), (4, .int v)] []) (b := (kc_up a1 49 (((9 * (mb σ)) + 5) + i1) (if t = (nI 1) then (a1 45 ((4 * d) + i1)) else (nI 0)))) (a := (kf_M_put_1 σ t d) i1 a1) (by rw [kf_M_put_1]) hk1 hv1
    refine kg_icmp_ne hC d_M_put_104 (tgt := 121) rfl (fun h104 => ?_) (fun h104 => ?_)
    · refine kg_iconst hC d_M_put_121 kn_i_0 ?_
      exact kg_to (P := fun zz => kc_Go C V 6 (0, 0) (kc_E C V none (kq_M_put σ t d w v)) a1 122 [(5, .int (nI i1)), (0, .ref (kc_ad V 38)), (1, .int t), (2, .int (nI d)), (3, .int w), (4, .int v)] (.int zz :: [.int (nI (((9 * (mb σ)) + 5) + i1)), .ref (kc_ad V 49)])) (b := (nI 0)) (if_neg h104) j104
    · refine kg_aload_n hC d_M_put_107 1 rfl ?_
      refine kg_getr hC (ko_38 hV) rfl ui_M (j := 12) (by decide) tw_616 rfl d_M_put_108 rfl ?_
      refine kg_iconst hC d_M_put_111 kn_i_4 ?_
      refine kg_iload_n hC d_M_put_112 3 rfl ?_
      refine kg_imul hC d_M_put_113 ?_
      refine kg_top (x' := (nI (4 * d))) (pk_mul _ _) ?_
      refine kg_iload hC d_M_put_114 0 rfl ?_
      refine kg_iadd hC d_M_put_116 ?_
      refine kg_top (x' := (nI ((4 * d) + i1))) (nI_add _ _) ?_
      refine kg_iald hC (ka_45 hV) (i := ((4 * d) + i1)) rfl (by omega) d_M_put_117 ?_
      refine kg_at (pc' := 118) rfl ?_
      refine kg_goto hC d_M_put_118 (tgt := 122) rfl ?_
      exact kg_to (P := fun zz => kc_Go C V 6 (0, 0) (kc_E C V none (kq_M_put σ t d w v)) a1 122 [(5, .int (nI i1)), (0, .ref (kc_ad V 38)), (1, .int t), (2, .int (nI d)), (3, .int w), (4, .int v)] (.int zz :: [.int (nI (((9 * (mb σ)) + 5) + i1)), .ref (kc_ad V 49)])) (b := (a1 45 ((4 * d) + i1))) (if_pos h104) j104
  generalize hg1 : (kc_it (kf_M_put_1 σ t d) 4 0 (kc_up (kc_up (kc_up (kc_up (kc_up σ 49 (9 * (mb σ)) t) 49 ((9 * (mb σ)) + 1) (nI d)) 49 ((9 * (mb σ)) + 2) w) 49 ((9 * (mb σ)) + 3) v) 49 ((9 * (mb σ)) + 4) (σ 38 5))) = τ1 at hw1 ⊢
  refine kg_iload hC d_M_put_80 0 rfl ?_
  refine kg_iconst hC d_M_put_82 kn_i_4 ?_
  refine kg_icmp_ge hC d_M_put_83 (tgt := 129) rfl (fun _ => ?_) (fun q => absurd (nI_le (by decide) (by decide)) q)
  refine kg_aload_n hC d_M_put_129 1 rfl ?_
  refine kg_dup hC d_M_put_130 rfl ?_
  refine kg_geti hC (ko_38 hV) rfl ui_M (j := 16) (by decide) tw_620 rfl d_M_put_131 rfl ?_
  refine kg_iconst hC d_M_put_134 kn_i_1 ?_
  refine kg_iadd hC d_M_put_135 ?_
  refine kg_at (pc' := 136) rfl ?_
  refine kg_puti hC (ko_38 hV) rfl ui_M ok_M nm_M (j := 16) (by decide) tw_620 rfl rfl rfl rfl d_M_put_136 rfl ?_
  exact kg_vret hC d_M_put_139 (by rw [kq_M_put, hg1])
def kp_M_noNumber (σ : kc_Sg) (v : Int32) : Int32 := if v < 0 then (nI 1) else (if v < (σ 38 2) then (nI 0) else (nI 1))
set_option maxHeartbeats 4000000 in
set_option maxRecDepth 100000 in
theorem kk_M_noNumber (l : Launch) {V : kc_V} (hV : kc_G V) (σ : kc_Sg) (v : Int32) : kc_Met l y_M_noNumber b_M_noNumber 2 (some .boolean) (kc_rm 1) V [.ref (kc_ad V 38), .int v] σ (some (.int (kp_M_noNumber σ v))) σ := by
  refine kc_of (by decide) (Nat.le_of_ble_eq_true rfl) hV.ok (fun C _ hC => ?_)
  show kc_Go C V 2 (0, 0) (kc_E C V (some (.int (kp_M_noNumber σ v))) σ) σ 0 [(0, .ref (kc_ad V 38)), (1, .int v)] []
  refine kg_iload_n hC d_M_noNumber_0 1 rfl ?_
  refine kg_if_lt hC d_M_noNumber_1 (tgt := 12) rfl (fun h1 => ?_) (fun h1 => ?_)
  · refine kg_iconst hC d_M_noNumber_12 kn_i_1 ?_
    refine kg_goto hC d_M_noNumber_13 (tgt := 17) rfl ?_
    exact kg_zret hC d_M_noNumber_17 kn_z1 (by rw [kp_M_noNumber, if_pos h1]) rfl
  · refine kg_iload_n hC d_M_noNumber_4 1 rfl ?_
    refine kg_aload_n hC d_M_noNumber_5 0 rfl ?_
    refine kg_geti hC (ko_38 hV) rfl ui_M (j := 2) (by decide) tw_606 rfl d_M_noNumber_6 rfl ?_
    refine kg_icmp_lt hC d_M_noNumber_9 (tgt := 16) rfl (fun h9 => ?_) (fun h9 => ?_)
    · refine kg_iconst hC d_M_noNumber_16 kn_i_0 ?_
      exact kg_zret hC d_M_noNumber_17 kn_z0 (by rw [kp_M_noNumber, if_neg h1, if_pos h9]) rfl
    · refine kg_iconst hC d_M_noNumber_12 kn_i_1 ?_
      refine kg_goto hC d_M_noNumber_13 (tgt := 17) rfl ?_
      exact kg_zret hC d_M_noNumber_17 kn_z1 (by rw [kp_M_noNumber, if_neg h1, if_neg h9]) rfl
theorem kz_M_noNumber (σ : kc_Sg) (v : Int32) : kp_M_noNumber σ v = nI 0 ∨ kp_M_noNumber σ v = nI 1 := by
  unfold kp_M_noNumber
  (repeat' split) <;> first | exact Or.inl rfl | exact Or.inr rfl
def kp_M_noSeat (x : Int32) : Int32 := if x < (nI 1) then (nI 1) else (if x ≤ (nI 7) then (nI 0) else (nI 1))
set_option maxHeartbeats 4000000 in
set_option maxRecDepth 100000 in
theorem kk_M_noSeat (l : Launch) {V : kc_V} (hV : kc_G V) (σ : kc_Sg) (x : Int32) : kc_Met l y_M_noSeat b_M_noSeat 1 (some .boolean) (kc_rm 1) V [.int x] σ (some (.int (kp_M_noSeat x))) σ := by
  refine kc_of (by decide) (Nat.le_of_ble_eq_true rfl) hV.ok (fun C _ hC => ?_)
  show kc_Go C V 1 (0, 0) (kc_E C V (some (.int (kp_M_noSeat x))) σ) σ 0 [(0, .int x)] []
  refine kg_iload_n hC d_M_noSeat_0 0 rfl ?_
  refine kg_iconst hC d_M_noSeat_1 kn_i_1 ?_
  refine kg_icmp_lt hC d_M_noSeat_2 (tgt := 11) rfl (fun h2 => ?_) (fun h2 => ?_)
  · refine kg_iconst hC d_M_noSeat_11 kn_i_1 ?_
    refine kg_goto hC d_M_noSeat_12 (tgt := 16) rfl ?_
    exact kg_zret hC d_M_noSeat_16 kn_z1 (by rw [kp_M_noSeat, if_pos h2]) rfl
  · refine kg_iload_n hC d_M_noSeat_5 0 rfl ?_
    refine kg_bipush hC d_M_noSeat_6 kn_b_7 ?_
    refine kg_icmp_le hC d_M_noSeat_8 (tgt := 15) rfl (fun h8 => ?_) (fun h8 => ?_)
    · refine kg_iconst hC d_M_noSeat_15 kn_i_0 ?_
      exact kg_zret hC d_M_noSeat_16 kn_z0 (by rw [kp_M_noSeat, if_neg h2, if_pos h8]) rfl
    · refine kg_iconst hC d_M_noSeat_11 kn_i_1 ?_
      refine kg_goto hC d_M_noSeat_12 (tgt := 16) rfl ?_
      exact kg_zret hC d_M_noSeat_16 kn_z1 (by rw [kp_M_noSeat, if_neg h2, if_neg h8]) rfl
theorem kz_M_noSeat (x : Int32) : kp_M_noSeat x = nI 0 ∨ kp_M_noSeat x = nI 1 := by
  unfold kp_M_noSeat
  (repeat' split) <;> first | exact Or.inl rfl | exact Or.inr rfl
def kf_M_four_1 (c : Int32) (i1 : Nat) (a1 : Int32 × Int32) : Int32 × Int32 := if ((kc_shr c ((nI i1) - (nI 1))) &&& (nI 1)) = (nI 1) then (if (nI 4) ≤ (a1.2) then ((a1.1), (a1.2)) else (((a1.1) ||| (kc_shl (nI 1) ((nI i1) - (nI 1)))), ((a1.2) + (nI 1)))) else ((a1.1), (a1.2))
def kp_M_four (c : Int32) : Int32 := if ((kc_it (kf_M_four_1 c) 7 1 ((nI 0), (nI 0))).2) = (nI 4) then ((kc_it (kf_M_four_1 c) 7 1 ((nI 0), (nI 0))).1) else (nI 0)
set_option maxHeartbeats 4000000 in
set_option maxRecDepth 100000 in
theorem kk_M_four (l : Launch) {V : kc_V} (hV : kc_G V) (σ : kc_Sg) (c : Int32) : kc_Met l y_M_four b_M_four 4 (some .int) (kc_rm 1) V [.int c] σ (some (.int (kp_M_four c))) σ := by
  refine kc_of (by decide) (Nat.le_of_ble_eq_true rfl) hV.ok (fun C _ hC => ?_)
  show kc_Go C V 4 (0, 0) (kc_E C V (some (.int (kp_M_four c))) σ) σ 0 [(0, .int c)] []
  refine kg_iconst hC d_M_four_0 kn_i_0 ?_
  refine kg_istore_n hC d_M_four_1 [(1, .int (nI 0)), (0, .int c)] rfl (by decide) ?_
  refine kg_iconst hC d_M_four_2 kn_i_0 ?_
  refine kg_istore_n hC d_M_four_3 [(2, .int (nI 0)), (1, .int (nI 0)), (0, .int c)] rfl (by decide) ?_
  refine kg_iconst hC d_M_four_4 kn_i_1 ?_
  refine kg_istore_n hC d_M_four_5 [(3, .int (nI 1)), (2, .int (nI 0)), (1, .int (nI 0)), (0, .int c)] rfl (by decide) ?_
  refine kg_loc [0, 2, 1, 3] (L' := [(3, .int (nI 1)), (1, .int (nI 0)), (2, .int (nI 0)), (0, .int c)]) rfl ?_
  refine kc_loop (fun i1 a1 => kc_Go C V 4 (0, 0) (kc_E C V (some (.int (kp_M_four c))) σ) σ 6 [(3, .int (nI i1)), (1, .int (a1.1)), (2, .int (a1.2)), (0, .int c)] []) (kf_M_four_1 c) 1 8 (fun i1 a1 ho1 hi1 hk1 => ?_) 7 1 ((nI 0), (nI 0)) (Nat.le_refl _) rfl ?_
  · refine kg_iload_n hC d_M_four_6 0 rfl ?_
    refine kg_bipush hC d_M_four_7 kn_b_8 ?_
    refine kg_icmp_ge hC d_M_four_9 (tgt := 45) rfl (fun q => absurd q (nI_ge (by omega) (by decide))) (fun _ => ?_)
    refine kg_iload_n hC d_M_four_12 3 rfl ?_
    refine kg_iload_n hC d_M_four_13 0 rfl ?_
    refine kg_iconst hC d_M_four_14 kn_i_1 ?_
    refine kg_isub hC d_M_four_15 ?_
    refine kg_ishr hC d_M_four_16 ?_
    refine kg_at (pc' := 17) rfl ?_
    refine kg_iconst hC d_M_four_17 kn_i_1 ?_
    refine kg_iand hC d_M_four_18 ?_
    refine kg_iconst hC d_M_four_19 kn_i_1 ?_
    refine kg_icmp_ne hC d_M_four_20 (tgt := 39) rfl (fun h20 => ?_) (fun h20 => ?_)
    · refine kg_iinc hC d_M_four_39 0 rfl (kn_inc1 i1) [(3, .int (nI (i1 + 1))), (1, .int (a1.1)), (2, .int (a1.2)), (0, .int c)] rfl (by decide) ?_
      refine kg_goto hC d_M_four_42 (tgt := 6) rfl ?_
      exact kg_to (P := fun zz => kc_Go C V 4 (0, 0) (kc_E C V (some (.int (kp_M_four c))) σ) σ 6 [(3, .int (nI (i1 + 1))), (1, .int (zz.1)), (2, .int (zz.2)), (0, .int c)] []) (b := ((a1.1), (a1.2))) (a := (kf_M_four_1 c) i1 a1) (by rw [kf_M_four_1, if_neg h20]) hk1
    · refine kg_iload_n hC d_M_four_23 2 rfl ?_
      refine kg_iconst hC d_M_four_24 kn_i_4 ?_
      refine kg_icmp_ge hC d_M_four_25 (tgt := 39) rfl (fun h25 => ?_) (fun h25 => ?_)
      · refine kg_iinc hC d_M_four_39 0 rfl (kn_inc1 i1) [(3, .int (nI (i1 + 1))), (1, .int (a1.1)), (2, .int (a1.2)), (0, .int c)] rfl (by decide) ?_
        refine kg_goto hC d_M_four_42 (tgt := 6) rfl ?_
        exact kg_to (P := fun zz => kc_Go C V 4 (0, 0) (kc_E C V (some (.int (kp_M_four c))) σ) σ 6 [(3, .int (nI (i1 + 1))), (1, .int (zz.1)), (2, .int (zz.2)), (0, .int c)] []) (b := ((a1.1), (a1.2))) (a := (kf_M_four_1 c) i1 a1) (by rw [kf_M_four_1, if_pos h20, if_pos h25]) hk1
      · refine kg_iload_n hC d_M_four_28 1 rfl ?_
        refine kg_iconst hC d_M_four_29 kn_i_1 ?_
        refine kg_iload_n hC d_M_four_30 0 rfl ?_
        refine kg_iconst hC d_M_four_31 kn_i_1 ?_
        refine kg_isub hC d_M_four_32 ?_
        refine kg_ishl hC d_M_four_33 ?_
        refine kg_ior hC d_M_four_34 ?_
        refine kg_istore_n hC d_M_four_35 [(1, .int ((a1.1) ||| (kc_shl (nI 1) ((nI i1) - (nI 1))))), (3, .int (nI i1)), (2, .int (a1.2)), (0, .int c)] rfl (by decide) ?_
        refine kg_at (pc' := 36) rfl ?_
        refine kg_iinc hC d_M_four_36 2 rfl (kn_incx _) [(2, .int ((a1.2) + (nI 1))), (1, .int ((a1.1) ||| (kc_shl (nI 1) ((nI i1) - (nI 1))))), (3, .int (nI i1)), (0, .int c)] rfl (by decide) ?_
        refine kg_iinc hC d_M_four_39 2 rfl (kn_inc1 i1) [(3, .int (nI (i1 + 1))), (2, .int ((a1.2) + (nI 1))), (1, .int ((a1.1) ||| (kc_shl (nI 1) ((nI i1) - (nI 1))))), (0, .int c)] rfl (by decide) ?_
        refine kg_goto hC d_M_four_42 (tgt := 6) rfl ?_
        refine kg_loc [0, 2, 1, 3] (L' := [(3, .int (nI (i1 + 1))), (1, .int ((a1.1) ||| (kc_shl (nI 1) ((nI i1) - (nI 1))))), (2, .int ((a1.2) + (nI 1))), (0, .int c)]) rfl ?_
        exact kg_to (P := fun zz => kc_Go C V 4 (0, 0) (kc_E C V (some (.int (kp_M_four c))) σ) σ 6 [(3, .int (nI (i1 + 1))), (1, .int (zz.1)), (2, .int (zz.2)), (0, .int c)] []) (b := (((a1.1) ||| (kc_shl (nI 1) ((nI i1) - (nI 1)))), ((a1.2) + (nI 1)))) (a := (kf_M_four_1 c) i1 a1) (by rw [kf_M_four_1, if_pos h20, if_neg h25]) hk1
  generalize hg1 : (kc_it (kf_M_four_1 c) 7 1 ((nI 0), (nI 0))) = τ1
  refine kg_iload_n hC d_M_four_6 0 rfl ?_
  refine kg_bipush hC d_M_four_7 kn_b_8 ?_
  refine kg_icmp_ge hC d_M_four_9 (tgt := 45) rfl (fun _ => ?_) (fun q => absurd (nI_le (by decide) (by decide)) q)
  refine kg_iload_n hC d_M_four_45 2 rfl ?_
  refine kg_iconst hC d_M_four_46 kn_i_4 ?_
  refine kg_icmp_ne hC d_M_four_47 (tgt := 54) rfl (fun h47 => ?_) (fun h47 => ?_)
  · refine kg_iconst hC d_M_four_54 kn_i_0 ?_
    exact kg_iret hC d_M_four_55 (by rw [kp_M_four, hg1, if_neg h47]) rfl
  · refine kg_iload_n hC d_M_four_50 1 rfl ?_
    refine kg_goto hC d_M_four_51 (tgt := 55) rfl ?_
    exact kg_iret hC d_M_four_55 (by rw [kp_M_four, hg1, if_pos h47]) rfl
def kf_M_interpolate_2 (σ : kc_Sg) (c : Int32) (x : Int32) (i1 : Nat) (i2 : Nat) (a2 : Int32) : Int32 := if (nI i2) = (nI i1) then a2 else (if ((kc_shr c ((nI i2) - (nI 1))) &&& (nI 1)) = (nI 1) then (kc_rem ((kc_rem (a2 * (kc_rem ((kc_rem (x - (nI i2)) (σ 38 2)) + (σ 38 2)) (σ 38 2))) (σ 38 2)) * (kp_M_inverse σ ((nI i1) - (nI i2)))) (σ 38 2)) else a2)
def kf_M_interpolate_1 (σ : kc_Sg) (c : Int32) (x : Int32) (i1 : Nat) (a1 : Int32) : Int32 := if ((kc_shr c ((nI i1) - (nI 1))) &&& (nI 1)) = (nI 1) then (kc_rem (a1 + (kc_it (kf_M_interpolate_2 σ c x i1) 7 1 (σ 39 i1))) (σ 38 2)) else a1
def kp_M_interpolate (σ : kc_Sg) (c : Int32) (x : Int32) : Int32 := (kc_it (kf_M_interpolate_1 σ c x) 7 1 (nI 0))
set_option maxHeartbeats 4000000 in
set_option maxRecDepth 100000 in
theorem kk_M_interpolate (l : Launch) {V : kc_V} (hV : kc_G V) (σ : kc_Sg) (c : Int32) (x : Int32) (mq : ¬ σ 38 2 = 0) : kc_Met l y_M_interpolate b_M_interpolate 7 (some .int) (kc_rm 2) V [.ref (kc_ad V 38), .int c, .int x] σ (some (.int (kp_M_interpolate σ c x))) σ := by
  refine kc_of (by decide) (Nat.le_of_ble_eq_true rfl) hV.ok (fun C _ hC => ?_)
  show kc_Go C V 7 (0, 0) (kc_E C V (some (.int (kp_M_interpolate σ c x))) σ) σ 0 [(0, .ref (kc_ad V 38)), (1, .int c), (2, .int x)] []
  refine kg_iconst hC d_M_interpolate_0 kn_i_0 ?_
  refine kg_istore_n hC d_M_interpolate_1 [(3, .int (nI 0)), (0, .ref (kc_ad V 38)), (1, .int c), (2, .int x)] rfl (by decide) ?_
  refine kg_iconst hC d_M_interpolate_2 kn_i_1 ?_
  refine kg_istore hC d_M_interpolate_3 [(4, .int (nI 1)), (3, .int (nI 0)), (0, .ref (kc_ad V 38)), (1, .int c), (2, .int x)] rfl (by decide) ?_
  refine kc_loop (fun i1 a1 => kc_Go C V 7 (0, 0) (kc_E C V (some (.int (kp_M_interpolate σ c x))) σ) σ 5 [(4, .int (nI i1)), (3, .int a1), (0, .ref (kc_ad V 38)), (1, .int c), (2, .int x)] []) (kf_M_interpolate_1 σ c x) 1 8 (fun i1 a1 ho1 hi1 hk1 => ?_) 7 1 (nI 0) (Nat.le_refl _) rfl ?_
  · refine kg_iload hC d_M_interpolate_5 0 rfl ?_
    refine kg_bipush hC d_M_interpolate_7 kn_b_8 ?_
    refine kg_icmp_ge hC d_M_interpolate_9 (tgt := 128) rfl (fun q => absurd q (nI_ge (by omega) (by decide))) (fun _ => ?_)
    refine kg_iload_n hC d_M_interpolate_12 3 rfl ?_
    refine kg_iload hC d_M_interpolate_13 0 rfl ?_
    refine kg_iconst hC d_M_interpolate_15 kn_i_1 ?_
    refine kg_isub hC d_M_interpolate_16 ?_
    refine kg_ishr hC d_M_interpolate_17 ?_
    refine kg_at (pc' := 18) rfl ?_
    refine kg_iconst hC d_M_interpolate_18 kn_i_1 ?_
    refine kg_iand hC d_M_interpolate_19 ?_
    refine kg_iconst hC d_M_interpolate_20 kn_i_1 ?_
    refine kg_icmp_ne hC d_M_interpolate_21 (tgt := 122) rfl (fun h21 => ?_) (fun h21 => ?_)
    · refine kg_iinc hC d_M_interpolate_122 0 rfl (kn_inc1 i1) [(4, .int (nI (i1 + 1))), (3, .int a1), (0, .ref (kc_ad V 38)), (1, .int c), (2, .int x)] rfl (by decide) ?_
      refine kg_goto hC d_M_interpolate_125 (tgt := 5) rfl ?_
      exact kg_to (P := fun zz => kc_Go C V 7 (0, 0) (kc_E C V (some (.int (kp_M_interpolate σ c x))) σ) σ 5 [(4, .int (nI (i1 + 1))), (3, .int zz), (0, .ref (kc_ad V 38)), (1, .int c), (2, .int x)] []) (b := a1) (a := (kf_M_interpolate_1 σ c x) i1 a1) (by rw [kf_M_interpolate_1, if_neg h21]) hk1
    · refine kg_aload_n hC d_M_interpolate_24 2 rfl ?_
      refine kg_getr hC (ko_38 hV) rfl ui_M (j := 6) (by decide) tw_610 rfl d_M_interpolate_25 rfl ?_
      refine kg_iload hC d_M_interpolate_28 0 rfl ?_
      refine kg_iald hC (ka_39 hV) (i := i1) rfl (by omega) d_M_interpolate_30 ?_
      refine kg_istore hC d_M_interpolate_31 [(5, .int (σ 39 i1)), (4, .int (nI i1)), (3, .int a1), (0, .ref (kc_ad V 38)), (1, .int c), (2, .int x)] rfl (by decide) ?_
      refine kg_iconst hC d_M_interpolate_33 kn_i_1 ?_
      refine kg_istore hC d_M_interpolate_34 [(6, .int (nI 1)), (5, .int (σ 39 i1)), (4, .int (nI i1)), (3, .int a1), (0, .ref (kc_ad V 38)), (1, .int c), (2, .int x)] rfl (by decide) ?_
      refine kc_loop (fun i2 a2 => kc_Go C V 7 (0, 0) (kc_E C V (some (.int (kp_M_interpolate σ c x))) σ) σ 36 [(6, .int (nI i2)), (5, .int a2), (4, .int (nI i1)), (3, .int a1), (0, .ref (kc_ad V 38)), (1, .int c), (2, .int x)] []) (kf_M_interpolate_2 σ c x i1) 1 8 (fun i2 a2 ho2 hi2 hk2 => ?_) 7 1 (σ 39 i1) (Nat.le_refl _) rfl ?_
      · refine kg_iload hC d_M_interpolate_36 0 rfl ?_
        refine kg_bipush hC d_M_interpolate_38 kn_b_8 ?_
        refine kg_icmp_ge hC d_M_interpolate_40 (tgt := 112) rfl (fun q => absurd q (nI_ge (by omega) (by decide))) (fun _ => ?_)
        refine kg_iload hC d_M_interpolate_43 0 rfl ?_
        refine kg_iload hC d_M_interpolate_45 2 rfl ?_
        refine kg_icmp_eq hC d_M_interpolate_47 (tgt := 106) rfl (fun h47_2 => ?_) (fun h47_2 => ?_)
        · refine kg_iinc hC d_M_interpolate_106 0 rfl (kn_inc1 i2) [(6, .int (nI (i2 + 1))), (5, .int a2), (4, .int (nI i1)), (3, .int a1), (0, .ref (kc_ad V 38)), (1, .int c), (2, .int x)] rfl (by decide) ?_
          refine kg_goto hC d_M_interpolate_109 (tgt := 36) rfl ?_
          exact kg_to (P := fun zz => kc_Go C V 7 (0, 0) (kc_E C V (some (.int (kp_M_interpolate σ c x))) σ) σ 36 [(6, .int (nI (i2 + 1))), (5, .int zz), (4, .int (nI i1)), (3, .int a1), (0, .ref (kc_ad V 38)), (1, .int c), (2, .int x)] []) (b := a2) (a := (kf_M_interpolate_2 σ c x i1) i2 a2) (by rw [kf_M_interpolate_2, if_pos h47_2]) hk2
        · refine kg_iload_n hC d_M_interpolate_50 5 rfl ?_
          refine kg_iload hC d_M_interpolate_51 0 rfl ?_
          refine kg_iconst hC d_M_interpolate_53 kn_i_1 ?_
          refine kg_isub hC d_M_interpolate_54 ?_
          refine kg_ishr hC d_M_interpolate_55 ?_
          refine kg_iconst hC d_M_interpolate_56 kn_i_1 ?_
          refine kg_iand hC d_M_interpolate_57 ?_
          refine kg_iconst hC d_M_interpolate_58 kn_i_1 ?_
          refine kg_at (pc' := 59) rfl ?_
          refine kg_icmp_ne hC d_M_interpolate_59 (tgt := 106) rfl (fun h59_2 => ?_) (fun h59_2 => ?_)
          · refine kg_iinc hC d_M_interpolate_106 0 rfl (kn_inc1 i2) [(6, .int (nI (i2 + 1))), (5, .int a2), (4, .int (nI i1)), (3, .int a1), (0, .ref (kc_ad V 38)), (1, .int c), (2, .int x)] rfl (by decide) ?_
            refine kg_goto hC d_M_interpolate_109 (tgt := 36) rfl ?_
            exact kg_to (P := fun zz => kc_Go C V 7 (0, 0) (kc_E C V (some (.int (kp_M_interpolate σ c x))) σ) σ 36 [(6, .int (nI (i2 + 1))), (5, .int zz), (4, .int (nI i1)), (3, .int a1), (0, .ref (kc_ad V 38)), (1, .int c), (2, .int x)] []) (b := a2) (a := (kf_M_interpolate_2 σ c x i1) i2 a2) (by rw [kf_M_interpolate_2, if_neg h47_2, if_neg h59_2]) hk2
          · refine kg_iload hC d_M_interpolate_62 1 rfl ?_
            refine kg_iload_n hC d_M_interpolate_64 6 rfl ?_
            refine kg_iload hC d_M_interpolate_65 0 rfl ?_
            refine kg_isub hC d_M_interpolate_67 ?_
            refine kg_aload_n hC d_M_interpolate_68 4 rfl ?_
            refine kg_geti hC (ko_38 hV) rfl ui_M (j := 2) (by decide) tw_606 rfl d_M_interpolate_69 rfl ?_
            refine kg_irem hC d_M_interpolate_72 mq ?_
            refine kg_aload_n hC d_M_interpolate_73 4 rfl ?_
            refine kg_at (pc' := 74) rfl ?_
            refine kg_geti hC (ko_38 hV) rfl ui_M (j := 2) (by decide) tw_606 rfl d_M_interpolate_74 rfl ?_
            refine kg_iadd hC d_M_interpolate_77 ?_
            refine kg_aload_n hC d_M_interpolate_78 4 rfl ?_
            refine kg_geti hC (ko_38 hV) rfl ui_M (j := 2) (by decide) tw_606 rfl d_M_interpolate_79 rfl ?_
            refine kg_irem hC d_M_interpolate_82 mq ?_
            refine kg_imul hC d_M_interpolate_83 ?_
            refine kg_aload_n hC d_M_interpolate_84 4 rfl ?_
            refine kg_geti hC (ko_38 hV) rfl ui_M (j := 2) (by decide) tw_606 rfl d_M_interpolate_85 rfl ?_
            refine kg_at (pc' := 88) rfl ?_
            refine kg_irem hC d_M_interpolate_88 mq ?_
            refine kg_aload_n hC d_M_interpolate_89 4 rfl ?_
            refine kg_iload hC d_M_interpolate_90 2 rfl ?_
            refine kg_iload hC d_M_interpolate_92 0 rfl ?_
            refine kg_isub hC d_M_interpolate_94 ?_
            refine kg_virtualI hC (kk_M_inverse (kc_l C) hV σ ((nI i1) - (nI i2)) mq) cal_M_inverse tw_768 ts_M_inverse tw_766 (ko_38 hV) rfl rfl (by decide) (rest := [.int (kc_rem (a2 * (kc_rem ((kc_rem (x - (nI i2)) (σ 38 2)) + (σ 38 2)) (σ 38 2))) (σ 38 2))]) rfl (Nat.le_of_ble_eq_true rfl) d_M_interpolate_95 ?_ (by decide)
            refine kg_imul hC d_M_interpolate_98 ?_
            refine kg_aload_n hC d_M_interpolate_99 4 rfl ?_
            refine kg_at (pc' := 100) rfl ?_
            refine kg_geti hC (ko_38 hV) rfl ui_M (j := 2) (by decide) tw_606 rfl d_M_interpolate_100 rfl ?_
            refine kg_irem hC d_M_interpolate_103 mq ?_
            refine kg_istore hC d_M_interpolate_104 [(5, .int (kc_rem ((kc_rem (a2 * (kc_rem ((kc_rem (x - (nI i2)) (σ 38 2)) + (σ 38 2)) (σ 38 2))) (σ 38 2)) * (kp_M_inverse σ ((nI i1) - (nI i2)))) (σ 38 2))), (6, .int (nI i2)), (4, .int (nI i1)), (3, .int a1), (0, .ref (kc_ad V 38)), (1, .int c), (2, .int x)] rfl (by decide) ?_
            refine kg_iinc hC d_M_interpolate_106 1 rfl (kn_inc1 i2) [(6, .int (nI (i2 + 1))), (5, .int (kc_rem ((kc_rem (a2 * (kc_rem ((kc_rem (x - (nI i2)) (σ 38 2)) + (σ 38 2)) (σ 38 2))) (σ 38 2)) * (kp_M_inverse σ ((nI i1) - (nI i2)))) (σ 38 2))), (4, .int (nI i1)), (3, .int a1), (0, .ref (kc_ad V 38)), (1, .int c), (2, .int x)] rfl (by decide) ?_
            refine kg_goto hC d_M_interpolate_109 (tgt := 36) rfl ?_
            exact kg_to (P := fun zz => kc_Go C V 7 (0, 0) (kc_E C V (some (.int (kp_M_interpolate σ c x))) σ) σ 36 [(6, .int (nI (i2 + 1))), (5, .int zz), (4, .int (nI i1)), (3, .int a1), (0, .ref (kc_ad V 38)), (1, .int c), (2, .int x)] []) (b := (kc_rem ((kc_rem (a2 * (kc_rem ((kc_rem (x - (nI i2)) (σ 38 2)) + (σ 38 2)) (σ 38 2))) (σ 38 2)) * (kp_M_inverse σ ((nI i1) - (nI i2)))) (σ 38 2))) (a := (kf_M_interpolate_2 σ c x i1) i2 a2) (by rw [kf_M_interpolate_2, if_neg h47_2, if_pos h59_2]) hk2
      generalize hg2 : (kc_it (kf_M_interpolate_2 σ c x i1) 7 1 (σ 39 i1)) = τ2
      refine kg_iload hC d_M_interpolate_36 0 rfl ?_
      refine kg_bipush hC d_M_interpolate_38 kn_b_8 ?_
      refine kg_icmp_ge hC d_M_interpolate_40 (tgt := 112) rfl (fun _ => ?_) (fun q => absurd (nI_le (by decide) (by decide)) q)
      refine kg_iload_n hC d_M_interpolate_112 3 rfl ?_
      refine kg_iload hC d_M_interpolate_113 1 rfl ?_
      refine kg_iadd hC d_M_interpolate_115 ?_
      refine kg_aload_n hC d_M_interpolate_116 4 rfl ?_
      refine kg_geti hC (ko_38 hV) rfl ui_M (j := 2) (by decide) tw_606 rfl d_M_interpolate_117 rfl ?_
      refine kg_at (pc' := 120) rfl ?_
      refine kg_irem hC d_M_interpolate_120 mq ?_
      refine kg_istore_n hC d_M_interpolate_121 [(3, .int (kc_rem (a1 + τ2) (σ 38 2))), (6, .int (nI 8)), (5, .int τ2), (4, .int (nI i1)), (0, .ref (kc_ad V 38)), (1, .int c), (2, .int x)] rfl (by decide) ?_
      refine kg_iinc hC d_M_interpolate_122 3 rfl (kn_inc1 i1) [(4, .int (nI (i1 + 1))), (3, .int (kc_rem (a1 + τ2) (σ 38 2))), (6, .int (nI 8)), (5, .int τ2), (0, .ref (kc_ad V 38)), (1, .int c), (2, .int x)] rfl (by decide) ?_
      refine kg_goto hC d_M_interpolate_125 (tgt := 5) rfl ?_
      refine kg_loc [0, 1, 4, 5, 6] (L' := [(4, .int (nI (i1 + 1))), (3, .int (kc_rem (a1 + τ2) (σ 38 2))), (0, .ref (kc_ad V 38)), (1, .int c), (2, .int x)]) rfl ?_
      exact kg_to (P := fun zz => kc_Go C V 7 (0, 0) (kc_E C V (some (.int (kp_M_interpolate σ c x))) σ) σ 5 [(4, .int (nI (i1 + 1))), (3, .int zz), (0, .ref (kc_ad V 38)), (1, .int c), (2, .int x)] []) (b := (kc_rem (a1 + τ2) (σ 38 2))) (a := (kf_M_interpolate_1 σ c x) i1 a1) (by rw [kf_M_interpolate_1, hg2, if_pos h21]) hk1
  generalize hg1 : (kc_it (kf_M_interpolate_1 σ c x) 7 1 (nI 0)) = τ1
  refine kg_iload hC d_M_interpolate_5 0 rfl ?_
  refine kg_bipush hC d_M_interpolate_7 kn_b_8 ?_
  refine kg_icmp_ge hC d_M_interpolate_9 (tgt := 128) rfl (fun _ => ?_) (fun q => absurd (nI_le (by decide) (by decide)) q)
  refine kg_iload_n hC d_M_interpolate_128 1 rfl ?_
  exact kg_iret hC d_M_interpolate_129 (by rw [kp_M_interpolate, hg1]) rfl
def kp_M_fitsSums (σ : kc_Sg) (s : Nat) : Int32 := if (σ 40 s) = 0 then (if (kp_M_power σ (σ 38 3) (σ 39 s)) = (kp_M_timesAt σ 41 0 (nI s)) then (nI 1) else (nI 0)) else (nI 0)
set_option maxHeartbeats 4000000 in
set_option maxRecDepth 100000 in
theorem kk_M_fitsSums (l : Launch) {V : kc_V} (hV : kc_G V) (σ : kc_Sg) (s : Nat) (mp : ¬ σ 38 1 = 0) (hs : s < 8) : kc_Met l y_M_fitsSums b_M_fitsSums 2 (some .boolean) (kc_rm 3) V [.ref (kc_ad V 38), .int (nI s)] σ (some (.int (kp_M_fitsSums σ s))) σ := by
  refine kc_of (by decide) (Nat.le_of_ble_eq_true rfl) hV.ok (fun C _ hC => ?_)
  show kc_Go C V 2 (0, 0) (kc_E C V (some (.int (kp_M_fitsSums σ s))) σ) σ 0 [(0, .ref (kc_ad V 38)), (1, .int (nI s))] []
  refine kg_aload_n hC d_M_fitsSums_0 0 rfl ?_
  refine kg_getr hC (ko_38 hV) rfl ui_M (j := 7) (by decide) tw_611 rfl d_M_fitsSums_1 rfl ?_
  refine kg_iload_n hC d_M_fitsSums_4 1 rfl ?_
  refine kg_zald hC (ka_40 hV) (i := s) rfl hs d_M_fitsSums_5 ?_
  refine kg_if_ne hC d_M_fitsSums_6 (tgt := 40) rfl (fun h6 => ?_) (fun h6 => ?_)
  · refine kg_iconst hC d_M_fitsSums_40 kn_i_0 ?_
    exact kg_zret hC d_M_fitsSums_41 kn_z0 (by rw [kp_M_fitsSums, if_neg h6]) rfl
  · refine kg_aload_n hC d_M_fitsSums_9 0 rfl ?_
    refine kg_aload_n hC d_M_fitsSums_10 0 rfl ?_
    refine kg_geti hC (ko_38 hV) rfl ui_M (j := 3) (by decide) tw_607 rfl d_M_fitsSums_11 rfl ?_
    refine kg_aload_n hC d_M_fitsSums_14 0 rfl ?_
    refine kg_getr hC (ko_38 hV) rfl ui_M (j := 6) (by decide) tw_610 rfl d_M_fitsSums_15 rfl ?_
    refine kg_iload_n hC d_M_fitsSums_18 1 rfl ?_
    refine kg_iald hC (ka_39 hV) (i := s) rfl hs d_M_fitsSums_19 ?_
    refine kg_virtualI hC (kk_M_power (kc_l C) hV σ (σ 38 3) (σ 39 s) mp) cal_M_power tw_674 ts_M_power tw_672 (ko_38 hV) rfl rfl (by decide) (rest := []) rfl (Nat.le_of_ble_eq_true rfl) d_M_fitsSums_20 ?_ (by decide)
    refine kg_at (pc' := 23) rfl ?_
    refine kg_aload_n hC d_M_fitsSums_23 0 rfl ?_
    refine kg_aload_n hC d_M_fitsSums_24 0 rfl ?_
    refine kg_getr hC (ko_38 hV) rfl ui_M (j := 8) (by decide) tw_612 rfl d_M_fitsSums_25 rfl ?_
    refine kg_iconst hC d_M_fitsSums_28 kn_i_0 ?_
    refine kg_iload_n hC d_M_fitsSums_29 1 rfl ?_
    refine kg_virtualI hC (kk_M_timesAt (kc_l C) hV σ 41 0 (nI s) 4 mp (ka_41 hV) (by omega)) cal_M_timesAt tw_733 ts_M_timesAt tw_731 (ko_38 hV) rfl rfl (by decide) (rest := [.int (kp_M_power σ (σ 38 3) (σ 39 s))]) rfl (Nat.le_of_ble_eq_true rfl) d_M_fitsSums_30 ?_ (by decide)
    refine kg_icmp_ne hC d_M_fitsSums_33 (tgt := 40) rfl (fun h33 => ?_) (fun h33 => ?_)
    · refine kg_iconst hC d_M_fitsSums_40 kn_i_0 ?_
      exact kg_zret hC d_M_fitsSums_41 kn_z0 (by rw [kp_M_fitsSums, if_pos h6, if_neg h33]) rfl
    · refine kg_iconst hC d_M_fitsSums_36 kn_i_1 ?_
      refine kg_goto hC d_M_fitsSums_37 (tgt := 41) rfl ?_
      exact kg_zret hC d_M_fitsSums_41 kn_z1 (by rw [kp_M_fitsSums, if_pos h6, if_pos h33]) rfl
theorem kz_M_fitsSums (σ : kc_Sg) (s : Nat) : kp_M_fitsSums σ s = nI 0 ∨ kp_M_fitsSums σ s = nI 1 := by
  unfold kp_M_fitsSums
  (repeat' split) <;> first | exact Or.inl rfl | exact Or.inr rfl
def kp_M_thrown (σ : kc_Sg) : Int32 := (σ 38 0)
set_option maxHeartbeats 4000000 in
set_option maxRecDepth 100000 in
theorem kk_M_thrown (l : Launch) {V : kc_V} (hV : kc_G V) (σ : kc_Sg) : kc_Met l y_M_thrown b_M_thrown 1 (some .int) (kc_rm 1) V [.ref (kc_ad V 38)] σ (some (.int (kp_M_thrown σ))) σ := by
  refine kc_of (by decide) (Nat.le_of_ble_eq_true rfl) hV.ok (fun C _ hC => ?_)
  show kc_Go C V 1 (0, 0) (kc_E C V (some (.int (kp_M_thrown σ))) σ) σ 0 [(0, .ref (kc_ad V 38))] []
  refine kg_aload_n hC d_M_thrown_0 0 rfl ?_
  refine kg_geti hC (ko_38 hV) rfl ui_M (j := 0) (by decide) tw_604 rfl d_M_thrown_1 rfl ?_
  exact kg_iret hC d_M_thrown_4 (by rw [kp_M_thrown]) rfl
def kp_M_first (σ : kc_Sg) (x : Int32) : Int32 := if (σ 38 4) = 0 then (nI 1) else (if (kp_M_noSeat x) = 0 then (nI 0) else (nI 2))
set_option maxHeartbeats 4000000 in
set_option maxRecDepth 100000 in
theorem kk_M_first (l : Launch) {V : kc_V} (hV : kc_G V) (σ : kc_Sg) (x : Int32) : kc_Met l y_M_first b_M_first 2 (some .int) (kc_rm 2) V [.ref (kc_ad V 38), .int x] σ (some (.int (kp_M_first σ x))) σ := by
  refine kc_of (by decide) (Nat.le_of_ble_eq_true rfl) hV.ok (fun C _ hC => ?_)
  show kc_Go C V 2 (0, 0) (kc_E C V (some (.int (kp_M_first σ x))) σ) σ 0 [(0, .ref (kc_ad V 38)), (1, .int x)] []
  refine kg_aload_n hC d_M_first_0 0 rfl ?_
  refine kg_geti hC (ko_38 hV) rfl ui_M (j := 4) (by decide) tw_608 rfl d_M_first_1 rfl ?_
  refine kg_if_ne hC d_M_first_4 (tgt := 11) rfl (fun h4 => ?_) (fun h4 => ?_)
  · refine kg_iload_n hC d_M_first_11 1 rfl ?_
    refine kg_staticI hC (kk_M_noSeat (kc_l C) hV σ x) cal_M_noSeat tw_701 tw_700 rfl (by decide) (rest := []) rfl (Nat.le_of_ble_eq_true rfl) d_M_first_12 ?_ (by decide)
    refine kg_if_eq hC d_M_first_15 (tgt := 22) rfl (fun h15 => ?_) (fun h15 => ?_)
    · refine kg_iconst hC d_M_first_22 kn_i_0 ?_
      exact kg_iret hC d_M_first_23 (by rw [kp_M_first, if_neg h4, if_pos h15]) rfl
    · refine kg_iconst hC d_M_first_18 kn_i_2 ?_
      refine kg_goto hC d_M_first_19 (tgt := 23) rfl ?_
      exact kg_iret hC d_M_first_23 (by rw [kp_M_first, if_neg h4, if_neg h15]) rfl
  · refine kg_iconst hC d_M_first_7 kn_i_1 ?_
    refine kg_goto hC d_M_first_8 (tgt := 23) rfl ?_
    exact kg_iret hC d_M_first_23 (by rw [kp_M_first, if_pos h4]) rfl
def kp_M_complains (σ : kc_Sg) (k : Nat) (d : Nat) : Int32 := if (kp_M_dealer σ d) = 0 then (nI 0) else (if (σ 47 ((8 * d) + k)) = 0 then (if (σ 42 k) = (nI 4) then (nI 1) else (if (kp_M_goodShare σ d (nI k) (σ 46 ((8 * d) + k))) = 0 then (nI 1) else (nI 0))) else (nI 0))
set_option maxHeartbeats 4000000 in
set_option maxRecDepth 100000 in
theorem kk_M_complains (l : Launch) {V : kc_V} (hV : kc_G V) (σ : kc_Sg) (k : Nat) (d : Nat) (mp : ¬ σ 38 1 = 0) (hk : k < 8) (hd : d < 8) : kc_Met l y_M_complains b_M_complains 3 (some .boolean) (kc_rm 4) V [.ref (kc_ad V 38), .int (nI k), .int (nI d)] σ (some (.int (kp_M_complains σ k d))) σ := by
  refine kc_of (by decide) (Nat.le_of_ble_eq_true rfl) hV.ok (fun C _ hC => ?_)
  show kc_Go C V 3 (0, 0) (kc_E C V (some (.int (kp_M_complains σ k d))) σ) σ 0 [(0, .ref (kc_ad V 38)), (1, .int (nI k)), (2, .int (nI d))] []
  refine kg_aload_n hC d_M_complains_0 0 rfl ?_
  refine kg_iload_n hC d_M_complains_1 2 rfl ?_
  refine kg_virtualI hC (kk_M_dealer (kc_l C) hV σ d hd) cal_M_dealer tw_725 ts_M_dealer tw_723 (ko_38 hV) rfl rfl (by decide) (rest := []) rfl (Nat.le_of_ble_eq_true rfl) d_M_complains_2 ?_ (by decide)
  refine kg_if_eq hC d_M_complains_5 (tgt := 56) rfl (fun h5 => ?_) (fun h5 => ?_)
  · refine kg_iconst hC d_M_complains_56 kn_i_0 ?_
    exact kg_zret hC d_M_complains_57 kn_z0 (by rw [kp_M_complains, if_pos h5]) rfl
  · refine kg_aload_n hC d_M_complains_8 0 rfl ?_
    refine kg_getr hC (ko_38 hV) rfl ui_M (j := 14) (by decide) tw_618 rfl d_M_complains_9 rfl ?_
    refine kg_bipush hC d_M_complains_12 kn_b_8 ?_
    refine kg_iload_n hC d_M_complains_14 2 rfl ?_
    refine kg_imul hC d_M_complains_15 ?_
    refine kg_top (x' := (nI (8 * d))) (pk_mul _ _) ?_
    refine kg_iload_n hC d_M_complains_16 1 rfl ?_
    refine kg_iadd hC d_M_complains_17 ?_
    refine kg_top (x' := (nI ((8 * d) + k))) (nI_add _ _) ?_
    refine kg_zald hC (ka_47 hV) (i := ((8 * d) + k)) rfl (by omega) d_M_complains_18 ?_
    refine kg_at (pc' := 19) rfl ?_
    refine kg_if_ne hC d_M_complains_19 (tgt := 56) rfl (fun h19 => ?_) (fun h19 => ?_)
    · refine kg_iconst hC d_M_complains_56 kn_i_0 ?_
      exact kg_zret hC d_M_complains_57 kn_z0 (by rw [kp_M_complains, if_neg h5, if_neg h19]) rfl
    · refine kg_aload_n hC d_M_complains_22 0 rfl ?_
      refine kg_getr hC (ko_38 hV) rfl ui_M (j := 9) (by decide) tw_613 rfl d_M_complains_23 rfl ?_
      refine kg_iload_n hC d_M_complains_26 1 rfl ?_
      refine kg_iald hC (ka_42 hV) (i := k) rfl hk d_M_complains_27 ?_
      refine kg_iconst hC d_M_complains_28 kn_i_4 ?_
      refine kg_icmp_eq hC d_M_complains_29 (tgt := 52) rfl (fun h29 => ?_) (fun h29 => ?_)
      · refine kg_iconst hC d_M_complains_52 kn_i_1 ?_
        refine kg_goto hC d_M_complains_53 (tgt := 57) rfl ?_
        exact kg_zret hC d_M_complains_57 kn_z1 (by rw [kp_M_complains, if_neg h5, if_pos h19, if_pos h29]) rfl
      · refine kg_aload_n hC d_M_complains_32 0 rfl ?_
        refine kg_iload_n hC d_M_complains_33 2 rfl ?_
        refine kg_iload_n hC d_M_complains_34 1 rfl ?_
        refine kg_aload_n hC d_M_complains_35 0 rfl ?_
        refine kg_getr hC (ko_38 hV) rfl ui_M (j := 13) (by decide) tw_617 rfl d_M_complains_36 rfl ?_
        refine kg_bipush hC d_M_complains_39 kn_b_8 ?_
        refine kg_iload_n hC d_M_complains_41 2 rfl ?_
        refine kg_imul hC d_M_complains_42 ?_
        refine kg_top (x' := (nI (8 * d))) (pk_mul _ _) ?_
        refine kg_at (pc' := 43) rfl ?_
        refine kg_iload_n hC d_M_complains_43 1 rfl ?_
        refine kg_iadd hC d_M_complains_44 ?_
        refine kg_top (x' := (nI ((8 * d) + k))) (nI_add _ _) ?_
        refine kg_iald hC (ka_46 hV) (i := ((8 * d) + k)) rfl (by omega) d_M_complains_45 ?_
        refine kg_virtualI hC (kk_M_goodShare (kc_l C) hV σ d (nI k) (σ 46 ((8 * d) + k)) mp hd) cal_M_goodShare tw_729 ts_M_goodShare tw_727 (ko_38 hV) rfl rfl (by decide) (rest := []) rfl (Nat.le_of_ble_eq_true rfl) d_M_complains_46 ?_ (by decide)
        refine kg_if_ne hC d_M_complains_49 (tgt := 56) rfl (fun h49 => ?_) (fun h49 => ?_)
        · refine kg_iconst hC d_M_complains_56 kn_i_0 ?_
          exact kg_zret hC d_M_complains_57 kn_z0 (by rw [kp_M_complains, if_neg h5, if_pos h19, if_neg h29, if_neg h49]) rfl
        · refine kg_iconst hC d_M_complains_52 kn_i_1 ?_
          refine kg_goto hC d_M_complains_53 (tgt := 57) rfl ?_
          exact kg_zret hC d_M_complains_57 kn_z1 (by rw [kp_M_complains, if_neg h5, if_pos h19, if_neg h29, if_pos h49]) rfl
theorem kz_M_complains (σ : kc_Sg) (k : Nat) (d : Nat) : kp_M_complains σ k d = nI 0 ∨ kp_M_complains σ k d = nI 1 := by
  unfold kp_M_complains
  (repeat' split) <;> first | exact Or.inl rfl | exact Or.inr rfl
def kp_acc (σ : kc_Sg) (d : Nat) : Nat → Nat → Int32
  | 0, _ => nI 1
  | n + 1, i => if σ 47 (8 * d + i) = 0 then kp_acc σ d n (i + 1) else if σ 48 (8 * d + i) = 0 then nI 0 else kp_acc σ d n (i + 1)
def kp_M_accepted (σ : kc_Sg) (d : Nat) : Int32 := if (kp_M_dealer σ d) = 0 then nI 0 else if σ 45 (4 * d) = nI 1 then kp_acc σ d 7 1 else nI 0
theorem kz_M_accepted (σ : kc_Sg) (d : Nat) : kp_M_accepted σ d = nI 0 ∨ kp_M_accepted σ d = nI 1 := by
  have h : ∀ n i, kp_acc σ d n i = nI 0 ∨ kp_acc σ d n i = nI 1 := by
    intro n
    induction n with
    | zero => exact fun i => Or.inr rfl
    | succ n ih =>
      intro i
      unfold kp_acc
      split
      · exact ih _
      · split
        · exact Or.inl rfl
        · exact ih _
  unfold kp_M_accepted
  split
  · exact Or.inl rfl
  · split
    · exact h _ _
    · exact Or.inl rfl
set_option maxHeartbeats 4000000 in
set_option maxRecDepth 100000 in
theorem kk_M_accepted (l : Launch) {V : kc_V} (hV : kc_G V) (σ : kc_Sg) (d : Nat) (hd : d < 8) : kc_Met l y_M_accepted b_M_accepted 3 (some .boolean) (kc_rm 3) V [.ref (kc_ad V 38), .int (nI d)] σ (some (.int (kp_M_accepted σ d))) σ := by
  refine kc_of (by decide) (Nat.le_of_ble_eq_true rfl) hV.ok (fun C _ hC => ?_)
  have key : ∀ (n i : Nat), i + n = 8 → kp_acc σ d n i = kp_M_accepted σ d → kc_Go C V 3 (0, 0) (kc_E C V (some (.int (kp_M_accepted σ d))) σ) σ 24 [(2, .int (nI i)), (0, .ref (kc_ad V 38)), (1, .int (nI d))] [] := by
    intro n
    induction n with
    | zero =>
      intro i hi hr
      refine kg_iload_n hC d_M_accepted_24 0 rfl ?_
      refine kg_bipush hC d_M_accepted_25 kn_b_8 ?_
      refine kg_icmp_ge hC d_M_accepted_27 (tgt := 66) rfl (fun _ => ?_) (fun q => absurd (nI_le (by omega) (by omega)) q)
      refine kg_iconst hC d_M_accepted_66 kn_i_1 ?_
      exact kg_zret hC d_M_accepted_67 kn_z1 hr rfl
    | succ n ih =>
      intro i hi hr
      refine kg_iload_n hC d_M_accepted_24 0 rfl ?_
      refine kg_bipush hC d_M_accepted_25 kn_b_8 ?_
      refine kg_icmp_ge hC d_M_accepted_27 (tgt := 66) rfl (fun q => absurd q (nI_ge (by omega) (by decide))) (fun _ => ?_)
      refine kg_aload_n hC d_M_accepted_30 1 rfl ?_
      refine kg_getr hC (ko_38 hV) rfl ui_M (j := 14) (by decide) tw_618 rfl d_M_accepted_31 rfl ?_
      refine kg_bipush hC d_M_accepted_34 kn_b_8 ?_
      refine kg_iload_n hC d_M_accepted_36 2 rfl ?_
      refine kg_imul hC d_M_accepted_37 ?_
      refine kg_top (x' := (nI (8 * d))) (pk_mul _ _) ?_
      refine kg_at (pc' := 38) rfl ?_
      refine kg_iload_n hC d_M_accepted_38 0 rfl ?_
      refine kg_iadd hC d_M_accepted_39 ?_
      refine kg_top (x' := (nI ((8 * d) + i))) (nI_add _ _) ?_
      refine kg_zald hC (ka_47 hV) (i := ((8 * d) + i)) rfl (by omega) d_M_accepted_40 ?_
      refine kg_if_eq hC d_M_accepted_41 (tgt := 60) rfl (fun h41 => ?_) (fun h41 => ?_)
      · refine kg_iinc hC d_M_accepted_60 0 rfl (kn_inc1 i) [(2, .int (nI (i + 1))), (0, .ref (kc_ad V 38)), (1, .int (nI d))] rfl (by decide) ?_
        refine kg_goto hC d_M_accepted_63 (tgt := 24) rfl ?_
        exact ih (i + 1) (by omega) (by rw [kp_acc, if_pos h41] at hr; exact hr)
      · refine kg_aload_n hC d_M_accepted_44 1 rfl ?_
        refine kg_getr hC (ko_38 hV) rfl ui_M (j := 15) (by decide) tw_619 rfl d_M_accepted_45 rfl ?_
        refine kg_bipush hC d_M_accepted_48 kn_b_8 ?_
        refine kg_iload_n hC d_M_accepted_50 2 rfl ?_
        refine kg_imul hC d_M_accepted_51 ?_
        refine kg_top (x' := (nI (8 * d))) (pk_mul _ _) ?_
        refine kg_iload_n hC d_M_accepted_52 0 rfl ?_
        refine kg_iadd hC d_M_accepted_53 ?_
        refine kg_top (x' := (nI ((8 * d) + i))) (nI_add _ _) ?_
        refine kg_zald hC (ka_48 hV) (i := ((8 * d) + i)) rfl (by omega) d_M_accepted_54 ?_
        refine kg_at (pc' := 55) rfl ?_
        refine kg_if_ne hC d_M_accepted_55 (tgt := 60) rfl (fun h55 => ?_) (fun h55 => ?_)
        · refine kg_iinc hC d_M_accepted_60 0 rfl (kn_inc1 i) [(2, .int (nI (i + 1))), (0, .ref (kc_ad V 38)), (1, .int (nI d))] rfl (by decide) ?_
          refine kg_goto hC d_M_accepted_63 (tgt := 24) rfl ?_
          exact ih (i + 1) (by omega) (by rw [kp_acc, if_neg h41, if_neg h55] at hr; exact hr)
        · refine kg_iconst hC d_M_accepted_58 kn_i_0 ?_
          exact kg_zret hC d_M_accepted_59 kn_z0 (by rw [kp_acc, if_neg h41, if_pos h55] at hr; exact hr) rfl
  show kc_Go C V 3 (0, 0) (kc_E C V (some (.int (kp_M_accepted σ d))) σ) σ 0 [(0, .ref (kc_ad V 38)), (1, .int (nI d))] []
  refine kg_aload_n hC d_M_accepted_0 0 rfl ?_
  refine kg_iload_n hC d_M_accepted_1 1 rfl ?_
  refine kg_virtualI hC (kk_M_dealer (kc_l C) hV σ d hd) cal_M_dealer tw_725 ts_M_dealer tw_723 (ko_38 hV) rfl rfl (by decide) (rest := []) rfl (Nat.le_of_ble_eq_true rfl) d_M_accepted_2 ?_ (by decide)
  refine kg_if_eq hC d_M_accepted_5 (tgt := 20) rfl (fun h5 => ?_) (fun h5 => ?_)
  · refine kg_iconst hC d_M_accepted_20 kn_i_0 ?_
    exact kg_zret hC d_M_accepted_21 kn_z0 (by rw [kp_M_accepted, if_pos h5]) rfl
  · refine kg_aload_n hC d_M_accepted_8 0 rfl ?_
    refine kg_getr hC (ko_38 hV) rfl ui_M (j := 12) (by decide) tw_616 rfl d_M_accepted_9 rfl ?_
    refine kg_iconst hC d_M_accepted_12 kn_i_4 ?_
    refine kg_iload_n hC d_M_accepted_13 1 rfl ?_
    refine kg_imul hC d_M_accepted_14 ?_
    refine kg_top (x' := (nI (4 * d))) (pk_mul _ _) ?_
    refine kg_iald hC (ka_45 hV) (i := (4 * d)) rfl (by omega) d_M_accepted_15 ?_
    refine kg_iconst hC d_M_accepted_16 kn_i_1 ?_
    refine kg_icmp_eq hC d_M_accepted_17 (tgt := 22) rfl (fun h17 => ?_) (fun h17 => ?_)
    · refine kg_iconst hC d_M_accepted_22 kn_i_1 ?_
      refine kg_istore_n hC d_M_accepted_23 [(2, .int (nI 1)), (0, .ref (kc_ad V 38)), (1, .int (nI d))] rfl (by decide) ?_
      exact key 7 1 rfl (by rw [kp_M_accepted, if_neg h5, if_pos h17])
    · refine kg_iconst hC d_M_accepted_20 kn_i_0 ?_
      exact kg_zret hC d_M_accepted_21 kn_z0 (by rw [kp_M_accepted, if_neg h5, if_neg h17]) rfl
