/-! the simulation: sum, post, group, fault -/
section KR5
variable {n p q d : Nat} {κ μ : kc_Sg}
theorem kr_m_sum (h : kr_Q n κ μ) (hn : n < 512) (j : Int32) : (kt_K_sum κ j = 0 ∨ kt_K_sum κ j = 1 ∨ kt_K_sum κ j = 5) ∧ (kq_M_sum μ j) 38 0 = kw_c_sum (kt_K_sum κ j) ∧ (kt_K_sum κ j = 0 → kp_K_sum κ j = kp_M_sum μ j) ∧ kr_Q (n + 1) κ (kq_M_sum μ j) := by
  unfold kt_K_sum kq_M_sum kp_K_sum kp_M_sum
  rcases kr_fd h hn with ⟨hb, hf⟩ | ⟨hf, h4, p, q, hg, hF⟩
  · rw [hb.2.2.2.2.2.1, if_pos rfl, if_pos rfl, hf, if_neg (by decide)]
    exact ⟨Or.inr (Or.inl rfl), kc_up_jj, fun e => absurd e (by decide), h.thr _⟩
  · rw [if_neg h4, if_neg h4, if_pos hf, if_pos hf]
    by_cases h1 : j < 0
    · rw [if_pos h1, if_pos h1]
      exact ⟨Or.inr (Or.inr rfl), kc_up_jj, fun e => absurd e (by decide), h.thr _⟩
    · rw [if_neg h1, if_neg h1, if_neg h1, if_neg h1]
      obtain ⟨i, hi, rfl⟩ := nI_of h1
      by_cases h2 : i < 4
      · rw [if_pos (nI_lt h2 (by decide)), if_pos (nI_lt h2 (by decide)), if_pos (nI_le (by omega) (by decide)), if_pos (nI_le (by omega) (by decide)), nI_clamp hi]
        exact ⟨Or.inl rfl, kc_up_jj, fun _ => hF.2.2.2.1 i h2, h.thr _⟩
      · rw [if_neg (nI_nlt (by omega) hi), if_neg (nI_nlt (by omega) hi), if_neg (nI_ge (by omega) hi), if_neg (nI_ge (by omega) hi)]
        exact ⟨Or.inr (Or.inr rfl), kc_up_jj, fun e => absurd e (by decide), h.thr _⟩
theorem kr_m_post (h : kr_Q n κ μ) (hn : n < 512) (x j : Int32) : (kt_K_post κ x j = 0 ∨ kt_K_post κ x j = 1 ∨ kt_K_post κ x j = 5 ∨ kt_K_post κ x j = 3) ∧ (kq_M_post μ x j) 38 0 = kw_c_post (kt_K_post κ x j) ∧ (kt_K_post κ x j = 0 → kp_K_post κ x j = kp_M_post μ x j) ∧ kr_Q (n + 1) κ (kq_M_post μ x j) := by
  unfold kt_K_post kq_M_post kp_K_post kp_M_post
  rcases kr_fd h hn with ⟨hb, hf⟩ | ⟨hf, h4, p, q, hg, hF⟩
  · rw [hb.2.2.2.2.2.1, if_pos rfl, if_pos rfl, hf, if_neg (by decide)]
    exact ⟨Or.inr (Or.inl rfl), kc_up_jj, fun e => absurd e (by decide), h.thr _⟩
  · rw [if_neg h4, if_neg h4, if_pos hf, if_pos hf]
    obtain ⟨s, s1, s2, s3, s4⟩ := hF.2.2.1
    unfold kp_B_size kp_B_read
    rw [s2, s3]
    by_cases h1 : x < 0
    · rw [if_pos h1, if_pos h1]
      exact ⟨Or.inr (Or.inr (Or.inl rfl)), kc_up_jj, fun e => absurd e (by decide), h.thr _⟩
    · rw [if_neg h1, if_neg h1, if_neg h1, if_neg h1]
      obtain ⟨i, hi, rfl⟩ := nI_of h1
      by_cases h2 : i < s
      · rw [if_pos (nI_lt h2 (by omega)), if_pos (nI_lt h2 (by omega)), if_pos (nI_lt h2 (by omega)), if_pos (nI_lt h2 (by omega)), nI_clamp hi]
        by_cases h3 : j < 0
        · rw [if_pos h3, if_pos h3]
          exact ⟨Or.inr (Or.inr (Or.inr rfl)), kc_up_jj, fun e => absurd e (by decide), h.thr _⟩
        · rw [if_neg h3, if_neg h3, if_neg h3, if_neg h3]
          obtain ⟨c, hc, rfl⟩ := nI_of h3
          by_cases h4 : c < 9
          · rw [if_pos (nI_lt h4 (by decide)), if_pos (nI_lt h4 (by decide)), if_pos (nI_le (by omega) (by decide)), if_pos (nI_le (by omega) (by decide)), nI_clamp hc]
            exact ⟨Or.inl rfl, kc_up_jj, fun _ => by rw [Nat.mul_comm]; exact s4 _ (by omega), h.thr _⟩
          · rw [if_neg (nI_nlt (by omega) hc), if_neg (nI_nlt (by omega) hc), if_neg (nI_ge (by omega) hc), if_neg (nI_ge (by omega) hc)]
            exact ⟨Or.inr (Or.inr (Or.inr rfl)), kc_up_jj, fun e => absurd e (by decide), h.thr _⟩
      · rw [if_neg (nI_nlt (by omega) hi), if_neg (nI_nlt (by omega) hi), if_neg (nI_nlt (by omega) hi), if_neg (nI_nlt (by omega) hi)]
        exact ⟨Or.inr (Or.inr (Or.inl rfl)), kc_up_jj, fun e => absurd e (by decide), h.thr _⟩
theorem kr_fillN (k : Nat) (v : Int32) : ∀ m i0 (σ : kc_Sg) i, kc_it (kf_JA_fill_1 k v) m i0 σ k i = if i0 ≤ i ∧ i < i0 + m then v else σ k i
  | 0, i0, σ, i => by
    rw [if_neg (by omega)]
    rfl
  | m + 1, i0, σ, i => by
    show kc_it (kf_JA_fill_1 k v) m (i0 + 1) (kc_up σ k i0 v) k i = _
    rw [kr_fillN k v m (i0 + 1) (kc_up σ k i0 v) i]
    by_cases h : i = i0
    · subst h
      rw [if_neg (by omega), if_pos (by omega), kc_up_jj]
    · rw [kc_up_nj h]
      by_cases h2 : i0 + 1 ≤ i ∧ i < i0 + 1 + m
      · rw [if_pos h2, if_pos (by omega)]
      · rw [if_neg h2, if_neg (by omega)]
theorem kr_fill {σ : kc_Sg} {k i m : Nat} {v : Int32} (h : i < m) : kq_JA_fill σ k v m k i = v := by
  unfold kq_JA_fill
  rw [kr_fillN, if_pos (by omega)]
theorem kr_beginC {σ : kc_Sg} {j : Nat} (h3 : j ≠ 3) (h8 : j ≠ 8) (h12 : j ≠ 12) (h13 : j ≠ 13) : kq_V_begin σ j = σ j := by
  unfold kq_V_begin
  rw [kc_up_ne h3, kc_up_ne h3, ke_fill h13, ke_fill h12, ke_fill h8]
theorem kr_begin {σ : kc_Sg} : (∀ i, i < 8 → kq_V_begin σ 8 i = nI 0 ∧ kq_V_begin σ 12 i = nI 0 ∧ kq_V_begin σ 13 i = nI 0) ∧ kq_V_begin σ 3 7 = nI 0 ∧ kq_V_begin σ 3 8 = nI 0 := by
  unfold kq_V_begin
  refine ⟨fun i hi => ⟨?_, ?_, ?_⟩, ?_, kc_up_jj⟩
  · rw [kc_up_ne (by decide), kc_up_ne (by decide), ke_fill (by decide), ke_fill (by decide), kr_fill hi]
  · rw [kc_up_ne (by decide), kc_up_ne (by decide), ke_fill (by decide), kr_fill hi]
  · rw [kc_up_ne (by decide), kc_up_ne (by decide), kr_fill hi]
  · rw [kc_up_nj (by decide), kc_up_jj]
/-- the new group is taken alike, or refused alike -/
theorem kr_isGroup (μ : kc_Sg) (P Q g : Int32) : (kp_G_isGroup P Q g = 0 ∧ (kq_M_group μ P Q g = kc_up μ 38 0 (nI 1) ∨ kq_M_group μ P Q g = kc_up (kc_up (kc_up μ 38 1 P) 38 1 (μ 38 1)) 38 0 (nI 1))) ∨ (¬ kp_G_isGroup P Q g = 0 ∧ kq_M_group μ P Q g = kc_up (kc_up (kc_up (kc_up (kc_up (kc_up (kc_up μ 38 1 P) 38 0 (nI 0)) 38 2 Q) 38 3 g) 38 4 (nI 0)) 38 5 (nI 0)) 38 16 (nI 0) ∧ ∃ p q, kr_q q ∧ (q < p ∧ p < 2 ^ 31) ∧ P = nI p ∧ Q = nI q) := by
  unfold kp_G_isGroup kq_M_group
  by_cases h1 : Q < nI 11
  · rw [if_pos h1, if_pos h1]
    exact Or.inl ⟨kr_i0, Or.inl rfl⟩
  rw [if_neg h1, if_neg h1]
  by_cases h2 : nI 32749 < Q
  · rw [if_pos h2, if_pos h2]
    exact Or.inl ⟨kr_i0, Or.inl rfl⟩
  rw [if_neg h2, if_neg h2]
  by_cases h3 : P ≤ Q
  · rw [if_pos h3, if_pos h3]
    exact Or.inl ⟨kr_i0, Or.inl rfl⟩
  rw [if_neg h3, if_neg h3]
  have hpq : ∃ p q, kr_q q ∧ (q < p ∧ p < 2 ^ 31) ∧ P = nI p ∧ Q = nI q := by
    rw [Int32.lt_iff_toInt_lt, nI_toInt (by decide)] at h1 h2
    rw [Int32.le_iff_toInt_le] at h3
    obtain ⟨q, hq, rfl⟩ := nI_of (x := Q) (by rw [Int32.lt_iff_toInt_lt, Int32.toInt_zero]; omega)
    obtain ⟨p, hp, rfl⟩ := nI_of (x := P) (by rw [Int32.lt_iff_toInt_lt, Int32.toInt_zero]; omega)
    rw [nI_toInt hq] at h1 h2 h3
    rw [nI_toInt hp] at h3
    exact ⟨p, q, ⟨by omega, by omega⟩, ⟨by omega, hp⟩, rfl, rfl⟩
  have hw : kp_M_power (kc_up μ 38 1 P) g Q = kp_G_power g Q P := by
    obtain ⟨p, q, a, b, rfl, rfl⟩ := hpq
    exact kr_power (by omega) b.2 kc_up_jj g _
  rw [hw]
  by_cases h4 : kc_rem (P - nI 1) Q = 0
  · rw [if_pos h4, if_pos h4]
    by_cases h5 : g < nI 2
    · rw [if_pos h5, if_pos h5]
      refine Or.inl ⟨kr_i0, Or.inl ?_⟩
      (repeat' split) <;> rfl
    rw [if_neg h5, if_neg h5]
    by_cases h6 : P ≤ g
    · rw [if_pos h6, if_pos h6]
      refine Or.inl ⟨kr_i0, Or.inl ?_⟩
      (repeat' split) <;> rfl
    rw [if_neg h6, if_neg h6]
    by_cases h7 : kp_G_power g Q P = nI 1
    · rw [if_pos h7, if_pos h7]
      by_cases h8 : kp_prime Q = 0
      · rw [if_pos h8, if_pos h8]
        exact Or.inl ⟨kr_i0, Or.inl rfl⟩
      rw [if_neg h8, if_neg h8]
      by_cases h9 : kp_prime P = 0
      · rw [if_pos h9, if_pos h9]
        exact Or.inl ⟨kr_i0, Or.inl rfl⟩
      rw [if_neg h9, if_neg h9]
      exact Or.inr ⟨kr_i1, rfl, hpq⟩
    · rw [if_neg h7, if_neg h7]
      refine Or.inl ⟨kr_i0, ?_⟩
      split
      · exact Or.inl rfl
      · split
        · exact Or.inl rfl
        · exact Or.inr rfl
  · rw [if_neg h4, if_neg h4]
    refine Or.inl ⟨kr_i0, Or.inl ?_⟩
    (repeat' split) <;> rfl
theorem kr_m_group (h : kr_Q n κ μ) (P Q g : Int32) : (kt_K_group P Q g = 0 ∨ kt_K_group P Q g = 3) ∧ (kq_M_group μ P Q g) 38 0 = kw_c_group (kt_K_group P Q g) ∧ kr_Q (n + 1) (kq_K_group κ P Q g) (kq_M_group μ P Q g) := by
  unfold kt_K_group kq_K_group
  rcases kr_isGroup μ P Q g with ⟨h1, h2 | h2⟩ | ⟨h1, h2, p, q, hq, hp, rfl, rfl⟩
  · rw [if_pos h1, if_pos h1, h2]
    exact ⟨Or.inr rfl, kc_up_jj, h.thr _⟩
  · rw [if_pos h1, if_pos h1, h2]
    refine ⟨Or.inr rfl, kc_up_jj, (h.congr kr_eqK.rf ⟨fun i hi => ?_, fun k a b => ?_⟩).mono⟩
    · rw [kc_up_nj (by omega)]
      by_cases hi1 : i = 1
      · subst hi1
        rw [kc_up_jj]
      · rw [kc_up_nj hi1, kc_up_nj hi1]
    · rw [kc_up_ne (by omega), kc_up_ne (by omega), kc_up_ne (by omega)]
  · rw [if_neg h1, if_neg h1, h2]
    refine ⟨Or.inl rfl, ?_, Or.inr ⟨p, q, ⟨hq, hp, ?_⟩, Or.inl ⟨kc_up_jj, ?_, fun i hi => ⟨?_, ?_, ?_, ?_⟩, ?_, ?_, ?_, kc_up_jj⟩⟩⟩
    · rw [kc_up_nj (by decide), kc_up_nj (by decide), kc_up_nj (by decide), kc_up_nj (by decide), kc_up_nj (by decide), kc_up_jj]
      rfl
    · rw [kc_up_ne (by decide), ke_fill (by decide), ke_fill (by decide), kr_beginC (by decide) (by decide) (by decide) (by decide)]
      unfold kq_B_empty kq_G_become
      refine ⟨?_, ?_, ?_, ?_, ?_⟩
      · rw [kc_up_ne (by decide), kc_up_nj (by decide), kc_up_nj (by decide), kc_up_jj]
      · rw [kc_up_ne (by decide), kc_up_nj (by decide), kc_up_jj]
      · rw [kc_up_nj (by decide), kc_up_nj (by decide), kc_up_nj (by decide), kc_up_nj (by decide), kc_up_nj (by decide), kc_up_nj (by decide), kc_up_jj]
      · rw [kc_up_nj (by decide), kc_up_nj (by decide), kc_up_nj (by decide), kc_up_nj (by decide), kc_up_jj]
      · rw [kc_up_nj (by decide), kc_up_nj (by decide), kc_up_nj (by decide), kc_up_jj, kc_up_ne (by decide), kc_up_jj]
    · rw [kc_up_ne (by decide), ke_fill (by decide), ke_fill (by decide), kr_beginC (by decide) (by decide) (by decide) (by decide)]
      exact kc_up_jj
    · rw [kc_up_ne (by decide), ke_fill (by decide), kr_fill hi]
      exact kr_i0
    · rw [kc_up_ne (by decide), ke_fill (by decide), ke_fill (by decide), (kr_begin.1 i hi).1]
      exact kr_i0
    · rw [kc_up_ne (by decide), ke_fill (by decide), ke_fill (by decide), (kr_begin.1 i hi).2.1]
      exact kr_i0
    · rw [kc_up_ne (by decide), ke_fill (by decide), ke_fill (by decide), (kr_begin.1 i hi).2.2]
      exact kr_i0
    · rw [kc_up_ne (by decide), ke_fill (by decide), ke_fill (by decide), kr_begin.2.1]
      exact kr_i0
    · rw [kc_up_ne (by decide), ke_fill (by decide), ke_fill (by decide), kr_begin.2.2]
      exact kr_i0
    · rw [kc_up_nj (by decide), kc_up_nj (by decide), kc_up_jj]
      exact kr_i0
theorem km_one {b c : Nat → Bool} {d : Nat} (hd : b d = true) (hc : c d = false) (ho : ∀ j, j ≠ d → b j = c j) : ∀ m i, i ≤ d → d < i + m → km_s b m i = km_s c m i + 1
  | 0, i, h1, h2 => by omega
  | m + 1, i, h1, h2 => by
    show (if b i then 1 else 0) + km_s b m (i + 1) = (if c i then 1 else 0) + km_s c m (i + 1) + 1
    by_cases h : i = d
    · subst h
      rw [hd, hc, if_pos rfl, if_neg (by decide), km_sc m (i + 1) (fun j a b => ho j (by omega))]
      omega
    · rw [ho i h, km_one hd hc ho m (i + 1) (by omega) (by omega)]
      omega
theorem kr_kinds (hF : kr_F n q κ μ) : ∃ k : Nat → Nat, ∀ i, 1 ≤ i → i ≤ 7 → k i ≤ 6 ∧ κ 8 i = nI (k i) ∧ μ 42 i = nI (k i) := by
  refine ⟨fun i => (κ 8 i).toNatClampNeg, fun i h1 h2 => ?_⟩
  obtain ⟨k, a, b, c⟩ := (hF.2.2.2.2.2.2.2 i h1 h2).1
  have e : (κ 8 i).toNatClampNeg = k := by
    rw [b, nI_clamp (by omega)]
  show (κ 8 i).toNatClampNeg ≤ 6 ∧ κ 8 i = nI (κ 8 i).toNatClampNeg ∧ μ 42 i = nI (κ 8 i).toNatClampNeg
  rw [e]
  exact ⟨a, b, c⟩
theorem kr_faulty {k : Nat → Nat} (hk : ∀ i, 1 ≤ i → i ≤ 7 → k i ≤ 6 ∧ κ 8 i = nI (k i)) : ∃ m, m < 128 ∧ kp_V_faulty κ = nI m ∧ ∀ d, 1 ≤ d → d ≤ 7 → m.testBit (d - 1) = decide (k d ≠ 0) := by
  refine km_it (f := kf_V_faulty_1 κ) (b := fun d => decide (k d ≠ 0)) (fun i h1 h2 a => ?_)
  obtain ⟨a1, a2⟩ := hk i h1 h2
  unfold kf_V_faulty_1
  rw [a2]
  by_cases h : k i = 0
  · rw [h, if_pos kr_i0, if_neg (by simp [h])]
  · rw [if_neg (nI_ne0 (by omega) (by omega)), if_pos (by simp [h])]
theorem kr_tooMany (hF : kr_F n q κ μ) (hd : 1 ≤ d ∧ d ≤ 7) {y : Int32} (hy : ¬ y = 0) : kp_V_isOneTooMany κ d y = if kc_it (kf_M_fault_2 μ d) 7 1 (nI 1) ≤ nI 3 then nI 0 else nI 1 := by
  obtain ⟨k, hk⟩ := kr_kinds hF
  obtain ⟨m, h1, h2, h3⟩ := kr_faulty (κ := κ) (k := k) (fun i a b => ⟨(hk i a b).1, (hk i a b).2.1⟩)
  unfold kp_V_isOneTooMany
  rw [if_neg hy, h2, km_or m h1 d (by omega) hd.1, km_cnt _ (km_orlt h1 hd.2 hd.1)]
  have e1 : km_c (m ||| 2 ^ (d - 1)) = km_s (fun i => decide (k i ≠ 0) || decide (i = d)) 7 1 := km_cof (fun e a b => by rw [km_orb hd.1 a, h3 e a b])
  have e2 : kc_it (kf_M_fault_2 μ d) 7 1 (nI 1) = nI (1 + km_s (fun i => decide (k i ≠ 0) && decide (i ≠ d)) 7 1) := by
    refine km_sn 7 1 1 (fun j a b z => ?_)
    unfold kf_M_fault_2
    obtain ⟨c1, c2, c3⟩ := hk j a (by omega)
    rw [c3]
    by_cases hj : j = d
    · subst hj
      rw [if_pos rfl, if_neg (by simp)]
    · rw [if_neg (fun e => hj ((nI_eq (by omega) (by omega)).mp e))]
      by_cases hz : k j = 0
      · rw [hz, if_pos (by decide +kernel), if_neg (by simp [hz])]
      · rw [if_neg (nI_nle (by omega) (by omega)), if_pos (by simp [hz, hj])]
  have e3 := km_one (b := fun i => decide (k i ≠ 0) || decide (i = d)) (c := fun i => decide (k i ≠ 0) && decide (i ≠ d)) (d := d) (by simp) (by simp) (fun j hj => by simp [hj]) 7 1 hd.1 (by omega)
  rw [e1, e2, e3, Nat.add_comm]
theorem kr_m_fault (hg : kr_g κ μ p q) (hF : kr_F n q κ μ) (hf : kt_K_requireFounded κ = 0) (hd : 1 ≤ d ∧ d ≤ 7) {y : Int32} : (kt_K_fault κ d y = 0 ∨ kt_K_fault κ d y = 3 ∨ kt_K_fault κ d y = 4) ∧ (kq_M_fault μ d y) 38 0 = kw_c_fault (kt_K_fault κ d y) ∧ kr_Q (n + 1) (kq_K_fault κ d y) (kq_M_fault μ d y) := by
  have hT : ∀ x, kr_Q (n + 1) κ (kc_up (kc_up μ 38 0 (nI 0)) 38 0 x) := fun x => (((kr_N hg hF).congr kr_eqK.rf (kr_thr μ _)).congr kr_eqK.rf (kr_thr _ _)).mono
  have hset : ∀ j, j ≤ 6 → y = nI j → μ 43 d = 0 → kr_Q (n + 1) (kq_V_turn κ d y) (kc_up (kc_up μ 38 0 (nI 0)) 42 d y) := fun j hj e h43 => by
    unfold kq_V_turn
    have hg2 : kr_g (kc_up κ 8 d y) (kc_up (kc_up μ 38 0 (nI 0)) 42 d y) p q := by
      unfold kr_g at hg ⊢
      rw [kc_up_ne (by decide : 1 ≠ 8), kc_up_ne (by decide : 38 ≠ 42), kc_up_nj (by decide : 1 ≠ 0), kc_up_nj (by decide : 2 ≠ 0), kc_up_nj (by decide : 3 ≠ 0)]
      exact hg
    refine (kr_N hg2 ?_).mono
    obtain ⟨a1, a2, a3, a4, a5, a6, a7, a8⟩ := hF
    refine ⟨a1.c rfl rfl, a2, a3.c rfl rfl rfl rfl, a4, a5, a6, a7.c rfl rfl, fun f b1 b2 => ?_⟩
    obtain ⟨s1, s2, s3, s4, s5⟩ := a8 f b1 b2
    by_cases h : f = d
    · subst h
      have z0 : kp_M_dealer μ f = nI 0 := by
        unfold kp_M_dealer
        rw [if_pos h43]
      have z1 : kp_M_dealer (kc_up (kc_up μ 38 0 (nI 0)) 42 f y) f = nI 0 := by
        unfold kp_M_dealer
        rw [kc_up_ne (by decide : 43 ≠ 42), kc_up_ne (by decide : 43 ≠ 38), if_pos h43]
      refine ⟨⟨j, hj, by rw [kc_up_jj]; exact e, by rw [kc_up_jj]; exact e⟩, s2.c rfl rfl rfl, ⟨s3.1, by rw [z1, ← z0]; exact s3.2⟩, s4.c rfl rfl (fun _ _ _ => ⟨rfl, rfl⟩), Or.inl z1⟩
    · refine ⟨s1.c (kc_up_nj h) (kc_up_nj h), s2.c rfl rfl rfl, s3.c rfl rfl rfl (kc_up_nj h), s4.c rfl rfl (fun _ _ _ => ⟨rfl, rfl⟩), ?_⟩
      rw [show kp_M_dealer (kc_up (kc_up μ 38 0 (nI 0)) 42 d y) f = kp_M_dealer μ f from kr_dealer.c rfl ((kc_up_nj h).trans rfl)]
      exact s5.imp (fun h => h) (fun h => h.c (kc_up_ne (by omega)) (kc_up_ne (by omega)) (kc_up_ne (by omega)) (fun _ _ => ⟨rfl, rfl⟩) (fun _ _ _ => rfl))
  unfold kt_K_fault kq_M_fault kq_K_fault
  rw [if_pos hf, if_pos hf]
  by_cases h1 : y < 0
  · rw [if_pos h1, if_pos h1, if_pos h1]
    exact ⟨Or.inr (Or.inl rfl), kc_up_jj, hT _⟩
  rw [if_neg h1, if_neg h1, if_neg h1]
  by_cases h2 : y ≤ nI 6
  · rw [if_pos h2, if_pos h2, if_pos h2]
    obtain ⟨j, hj, e⟩ := nI_of2 (x := y) (M := nI 6) (n := 6) (by decide +kernel) h1 h2
    have hdl : kp_V_hasDealt κ d = μ 43 d := (hF.2.2.2.2.2.2.2 d hd.1 hd.2).2.2.1.1
    rw [hdl]
    by_cases h3 : μ 43 d = 0
    · rw [if_pos h3, if_pos h3, if_pos h3, if_pos h3]
      by_cases hj0 : j = 0
      · have ez : y = 0 := by
          rw [e, hj0]
          exact kr_i0
        have ey : y ≤ 0 := by
          rw [ez]
          decide
        have et : kp_V_isOneTooMany κ d y = 0 := by
          unfold kp_V_isOneTooMany
          rw [if_pos ez]
          exact kr_i0
        rw [if_pos ey, if_pos ey, if_pos et, if_pos et]
        exact ⟨Or.inl rfl, (kc_up_nk (by decide)).trans kc_up_jj, hset j hj e h3⟩
      · have ez : ¬ y = 0 := by
          rw [e]
          exact nI_ne0 (by omega) (by omega)
        have ey : ¬ y ≤ 0 := by
          rw [e]
          exact nI_nle (by omega) (by omega)
        rw [if_neg ey, if_neg ey, kr_tooMany hF hd ez]
        by_cases h4 : kc_it (kf_M_fault_2 μ d) 7 1 (nI 1) ≤ nI 3
        · rw [if_pos h4, if_pos h4, if_pos kr_i0, if_pos kr_i0]
          exact ⟨Or.inl rfl, (kc_up_nk (by decide)).trans kc_up_jj, hset j hj e h3⟩
        · rw [if_neg h4, if_neg h4, if_neg kr_i1, if_neg kr_i1]
          exact ⟨Or.inr (Or.inr rfl), kc_up_jj, hT _⟩
    · rw [if_neg h3, if_neg h3, if_neg h3, if_neg h3]
      refine ⟨Or.inr (Or.inr rfl), ?_, ?_⟩
      · split <;> exact kc_up_jj
      · split <;> exact hT _
  · rw [if_neg h2, if_neg h2, if_neg h2]
    exact ⟨Or.inr (Or.inl rfl), kc_up_jj, hT _⟩
end KR5
