/-! the simulation: deal -/
section KR11
variable {n p q d : Nat} {κ μ : kc_Sg}
theorem kr_orAmong {m e : Nat} (hm : m < 128) (hd : 1 ≤ d ∧ d ≤ 7) (he : 1 ≤ e ∧ e ≤ 7) : kp_K_isAmong (nI m ||| kp_K_bit (nI d)) (nI e) = if e = d then nI 1 else kp_K_isAmong (nI m) (nI e) := by
  rw [km_or m hm d (by omega) hd.1, km_among _ (km_orlt hm hd.2 hd.1) e (by omega) he.1, km_orb hd.1 he.1, km_among m hm e (by omega) he.1]
  by_cases h : e = d
  · rw [decide_eq_true h, Bool.or_true, if_pos rfl, if_pos h]
  · rw [decide_eq_false h, Bool.or_false, if_neg h]
theorem kr_passOver (hg : kr_g κ μ p q) (hF : kr_F n q κ μ) (hd : 1 ≤ d ∧ d ≤ 7) (h43 : μ 43 d = 0) (hk : μ 42 d = nI 1) : kr_Q (n + 1) (kq_V_passOver κ d) (kc_up (kc_up μ 38 0 (nI 0)) 43 d (nI 1)) := by
  unfold kq_V_passOver
  have hg2 : kr_g (kc_up κ 3 7 (κ 3 7 ||| kp_K_bit (nI d))) (kc_up (kc_up μ 38 0 (nI 0)) 43 d (nI 1)) p q := by
    unfold kr_g at hg ⊢
    rw [kc_up_ne (by decide : 1 ≠ 3), kc_up_ne (by decide : 38 ≠ 43), kc_up_nj (by decide : 1 ≠ 0), kc_up_nj (by decide : 2 ≠ 0), kc_up_nj (by decide : 3 ≠ 0)]
    exact hg
  refine (kr_N hg2 ?_).mono
  obtain ⟨a1, a2, a3, a4, ⟨m, m1, m2⟩, a6, a7, a8⟩ := hF
  refine ⟨a1.c rfl rfl, a2, a3.c rfl rfl rfl rfl, a4, ⟨m ||| 2 ^ (d - 1), km_orlt m1 hd.2 hd.1, ?_⟩, ?_, a7.c rfl rfl, fun e b1 b2 => ?_⟩
  · rw [kc_up_jj, m2, km_or m m1 d (by omega) hd.1]
  · rw [kc_up_nj (by decide)]
    exact a6
  · obtain ⟨s1, s2, s3, s4, s5⟩ := a8 e b1 b2
    have hz : kp_M_dealer (kc_up (kc_up μ 38 0 (nI 0)) 43 d (nI 1)) e = kp_M_dealer μ e := by
      by_cases h : e = d
      · subst h
        unfold kp_M_dealer
        rw [kc_up_jj, if_neg kr_i1, h43, if_pos rfl]
        rw [kc_up_ne (by decide : 42 ≠ 43), kc_up_ne (by decide : 42 ≠ 38), hk, if_pos rfl]
      · exact kr_dealer.c (kc_up_nj h) rfl
    refine ⟨s1.c rfl rfl, s2.c rfl rfl rfl, ⟨?_, ?_⟩, s4.c rfl rfl (fun _ _ _ => ⟨rfl, rfl⟩), ?_⟩
    · rw [kc_up_jj, m2, kr_orAmong m1 hd ⟨b1, b2⟩]
      by_cases h : e = d
      · subst h
        rw [if_pos rfl, kc_up_jj]
      · rw [if_neg h, ← m2, s3.1, kc_up_nj h]
        rfl
    · rw [hz, kc_up_nj (by decide)]
      exact s3.2
    · rw [hz]
      exact s5.imp (fun h => h) (fun h => h.c (kc_up_ne (by omega)) (kc_up_ne (by omega)) (kc_up_ne (by omega)) (fun _ _ => ⟨rfl, rfl⟩) (fun _ _ _ => rfl))
theorem kr_sendOut (hg : kr_g κ μ p q) (hF : kr_F n q κ μ) (hd : 1 ≤ d ∧ d ≤ 7) (hk : ¬ μ 42 d = nI 1) (hr : ¬ μ 38 16 = nI 250) {b c e : Int32} (n1 : kr_num q b) (n2 : kr_num q c) (n3 : kr_num q e) : kr_Q (n + 1) (kq_B_addDealing (kq_V_sendOut κ d b c e) (nI d) (kq_V_sendOut κ d b c e 0 6) (22 + d)) (kr_dM2 μ d b c e) := by
  obtain ⟨hq, hp, g1, g2, g3, g4, g5⟩ := hg
  obtain ⟨⟨w, w1, w2, w3, w4⟩, a2, a3, a4, ⟨m7, m1, m2⟩, ⟨m8, m3, m4⟩, a7, a8⟩ := hF
  obtain ⟨k1, k2, k3, k4, k5⟩ := kr_sendK (κ := κ) (b := b) (c := c) (e := e) hd
  obtain ⟨z1, z2, z3, z4, z5, z6, z7, z8, z9⟩ := kr_dM0_r (μ := μ) (d := d) (b := b) (c := c) (e := e)
  obtain ⟨y1, y2, y3⟩ := kr_dM1_r (μ := μ) (d := d) (b := b) (c := c) (e := e)
  obtain ⟨x1, x2, x3⟩ := kr_dM2_r (μ := μ) (d := d) (b := b) (c := c) (e := e)
  have ek : κ 8 d = μ 42 d := by
    obtain ⟨k, -, e1, e2⟩ := (a8 d hd.1 hd.2).1
    rw [e1, e2]
  have nf : kr_num q (if μ 42 d = nI 3 then nI 1 else nI 0) := by
    split
    · exact ⟨1, by omega, rfl⟩
    · exact ⟨0, by omega, rfl⟩
  obtain ⟨r1, r2, r3, r4⟩ := kr_writeRow (σ := κ) (k := 14 + d) (a := if κ 8 d = nI 3 then nI 1 else nI 0) (b := b) (c := c) (e := e)
  have hrows := kr_rows (q := q) (k := 14 + d) (r := d) (κ' := kq_K_writeRow κ (14 + d) (if κ 8 d = nI 3 then nI 1 else nI 0) b c e) (μ' := kr_dM0 μ d b c e) (r1.trans (by rw [ek])) r2 r3 r4 z1 z2 z3 z4 nf n1 n2 n3
  have eM : ∀ j, j ≠ 38 → j ≠ 43 → j ≠ 44 → j ≠ 45 → j ≠ 46 → j ≠ 49 → kr_dM2 μ d b c e j = μ j := fun j h1 h2 h3 h4 h5 h6 => by
    rw [x3 j h5, ke_putc _ _ _ _ _ h1 h6, y3 j h4, kr_dM0_c h1 h2 h3]
  have e38 : ∀ i, i ≠ 16 → 1 ≤ i → kr_dM2 μ d b c e 38 i = μ 38 i := fun i h16 h1 => by
    obtain ⟨s, s1, s2, s3, s4⟩ := a3
    have hs : s < 250 := by
      by_cases h : s = 250
      · rw [h] at s3
        exact absurd s3 hr
      · omega
    rw [x3 38 (by decide), (kr_putM (s := s) (by rw [y3 38 (by decide), z6 16 (by decide)]; exact s3) hs).2.2.2.2.2.2.2.2 i h16, y3 38 (by decide), z6 i h1]
  have e43 : kr_dM2 μ d b c e 43 = kr_dM0 μ d b c e 43 := by
    rw [x3 43 (by decide), ke_putc _ _ _ _ _ (by decide) (by decide), y3 43 (by decide)]
  have e44 : kr_dM2 μ d b c e 44 = kr_dM0 μ d b c e 44 := by
    rw [x3 44 (by decide), ke_putc _ _ _ _ _ (by decide) (by decide), y3 44 (by decide)]
  have e45 : kr_dM2 μ d b c e 45 = kr_dM1 μ d b c e 45 := by
    rw [x3 45 (by decide), ke_putc _ _ _ _ _ (by decide) (by decide)]
  have hcm : ∀ i, i < 4 → kq_V_sendOut κ d b c e (22 + d) i = kr_dM1 μ d b c e 45 (4 * d + i) := fun i hi => by
    rw [k2 i hi, y1 i hi, kr_power (p := p) (by omega) hp.2 (by rw [z6 1 (by decide)]; exact g3), z6 3 (by decide), g1, g5, (hrows i hi).1]
  have hbd := kr_dealB (κ := kq_V_sendOut κ d b c e) (μ := kr_dM1 μ d b c e) (d := d) (k := 22 + d) (u := kq_V_sendOut κ d b c e 0 6) (a3.c (by rw [ke_sendOut (by decide) (by omega) (by omega) (by omega)]) (by rw [y3 38 (by decide), z6 16 (by decide)]) (ke_sendOut (by decide) (by omega) (by omega) (by omega)) (by rw [y3 49 (by decide), kr_dM0_c (by decide) (by decide) (by decide)])) (by rw [y3 38 (by decide), z6 16 (by decide)]; exact hr) (by rw [ke_sendOut (by decide) (by omega) (by omega) (by omega), y3 38 (by decide), z6 5 (by decide), w3, w4]) (by omega) (by omega) hcm
  have eK : ∀ j, j ≠ 2 → j ≠ 7 → kq_B_addDealing (kq_V_sendOut κ d b c e) (nI d) (kq_V_sendOut κ d b c e 0 6) (22 + d) j = kq_V_sendOut κ d b c e j := fun j h2 h7 => kr_dealC h2 h7
  generalize kq_B_addDealing (kq_V_sendOut κ d b c e) (nI d) (kq_V_sendOut κ d b c e 0 6) (22 + d) = κ' at hbd eK ⊢
  have eS : ∀ j, j ≠ 2 → j ≠ 7 → j ≠ 3 → j ≠ 14 + d → j ≠ 22 + d → j ≠ 30 + d → κ' j = κ j := fun j h2 h7 h3 h4 h5 h6 => by
    rw [eK j h2 h7, ke_sendOut h3 h4 h5 h6]
  have hdl : ∀ f, 1 ≤ f → f ≤ 7 → kp_M_dealer (kr_dM2 μ d b c e) f = if f = d then nI 1 else kp_M_dealer μ f := fun f f1 f2 => by
    by_cases h : f = d
    · subst h
      unfold kp_M_dealer
      rw [if_pos rfl, e43, z8, if_neg kr_i1, eM 42 (by decide) (by decide) (by decide) (by decide) (by decide) (by decide), if_neg hk]
    · rw [if_neg h]
      exact kr_dealer.c (by rw [e43, z9 f h]) (by rw [eM 42 (by decide) (by decide) (by decide) (by decide) (by decide) (by decide)])
  refine (kr_N (p := p) (q := q) ⟨hq, hp, ?_, ?_, ?_, ?_, ?_⟩ ⟨⟨w, w1, w2, ?_, ?_⟩, ?_, hbd.c rfl (by rw [x3 38 (by decide)]) rfl (by rw [x3 49 (by decide)]), fun i hi => ?_, ⟨m7 ||| 2 ^ (d - 1), km_orlt m1 hd.2 hd.1, ?_⟩, ⟨m8 ||| 2 ^ (d - 1), km_orlt m3 hd.2 hd.1, ?_⟩, a7.c (eM 47 (by decide) (by decide) (by decide) (by decide) (by decide) (by decide)) (eM 48 (by decide) (by decide) (by decide) (by decide) (by decide) (by decide)), fun f f1 f2 => ?_⟩).mono
  · rw [eS 1 (by decide) (by decide) (by decide) (by omega) (by omega) (by omega)]
    exact g1
  · rw [eS 1 (by decide) (by decide) (by decide) (by omega) (by omega) (by omega)]
    exact g2
  · rw [e38 1 (by decide) (by decide)]
    exact g3
  · rw [e38 2 (by decide) (by decide)]
    exact g4
  · rw [e38 3 (by decide) (by decide), eS 1 (by decide) (by decide) (by decide) (by omega) (by omega) (by omega)]
    exact g5
  · rw [eS 0 (by decide) (by decide) (by decide) (by omega) (by omega) (by omega)]
    exact w3
  · rw [e38 5 (by decide) (by decide)]
    exact w4
  · rw [e38 4 (by decide) (by decide)]
    exact a2
  · rw [eS 5 (by decide) (by decide) (by decide) (by omega) (by omega) (by omega), eM 41 (by decide) (by decide) (by decide) (by decide) (by decide) (by decide)]
    exact a4 i hi
  · rw [eK 3 (by decide) (by decide), k4, m2, km_or m7 m1 d (by omega) hd.1]
  · rw [eK 3 (by decide) (by decide), k5, m4, km_or m8 m3 d (by omega) hd.1]
  · obtain ⟨s1, s2, s3, s4, s5⟩ := a8 f f1 f2
    have E : ∀ j, 39 ≤ j → j < 43 → kr_dM2 μ d b c e j = μ j := fun j h1 h2 => eM j (by omega) (by omega) (by omega) (by omega) (by omega) (by omega)
    refine ⟨s1.c (by rw [eS 8 (by decide) (by decide) (by decide) (by omega) (by omega) (by omega)]) (by rw [E 42 (by decide) (by decide)]), s2.c (by rw [eS 4 (by decide) (by decide) (by decide) (by omega) (by omega) (by omega)]) (by rw [E 39 (by decide) (by decide)]) (by rw [E 40 (by decide) (by decide)]), ⟨?_, ?_⟩, s4.c (by rw [eS 12 (by decide) (by decide) (by decide) (by omega) (by omega) (by omega)]) (by rw [eS 13 (by decide) (by decide) (by decide) (by omega) (by omega) (by omega)]) (fun k _ _ => ⟨by rw [eM 47 (by decide) (by decide) (by decide) (by decide) (by decide) (by decide)], by rw [eM 48 (by decide) (by decide) (by decide) (by decide) (by decide) (by decide)]⟩), ?_⟩
    · rw [eK 3 (by decide) (by decide), k4, m2, kr_orAmong m1 hd ⟨f1, f2⟩, e43]
      by_cases h : f = d
      · subst h
        rw [if_pos rfl, z8]
      · rw [if_neg h, z9 f h, ← m2]
        exact s3.1
    · rw [eK 3 (by decide) (by decide), k5, m4, kr_orAmong m3 hd ⟨f1, f2⟩, hdl f f1 f2]
      by_cases h : f = d
      · rw [if_pos h, if_pos h]
      · rw [if_neg h, if_neg h, ← m4]
        exact s3.2
    · rw [hdl f f1 f2]
      by_cases h : f = d
      · subst h
        refine Or.inr ⟨fun i hi => ?_, fun i hi => ?_, fun k h1 h2 => ?_⟩
        · rw [eK (14 + f) (by omega) (by omega), k1 i, e44]
          exact hrows i hi
        · rw [eK (22 + f) (by omega) (by omega), e45]
          exact hcm i hi
        · have hv := kr_valueAt (κ := kq_K_writeRow κ (14 + f) (if κ 8 f = nI 3 then nI 1 else nI 0) b c e) (μ := kr_dM0 μ f b c e) (x := k) (k := 14 + f) (r := f) hq (by rw [ke_writeRow (by omega)]; exact g2) (by rw [z6 2 (by decide)]; exact g4) h2 hrows
          have hs := kr_sent (κ := κ) (μ := kr_dM0 μ f b c e) (d := f) (k := k) hq g2 (by rw [z6 2 (by decide)]; exact g4) hv.1 (by rw [hv.1]; exact hv.2) (by rw [kr_dM0_c (by decide) (by decide) (by decide)]; exact ek)
          rw [eK (30 + f) (by omega) (by omega), k3 k h1 h2, x1 k h1 h2]
          exact hs
      · rw [if_neg h]
        refine s5.imp (fun h => h) (fun hh => hh.c (eS _ (by omega) (by omega) (by omega) (by omega) (by omega) (by omega)) (eS _ (by omega) (by omega) (by omega) (by omega) (by omega) (by omega)) (eS _ (by omega) (by omega) (by omega) (by omega) (by omega) (by omega)) (fun i hi => ⟨?_, ?_⟩) (fun k h1 h2 => ?_))
        · rw [e44, z5 (4 * f + i) (fun j hj => by omega)]
        · rw [e45, y2 (4 * f + i) (fun j hj => by omega)]
        · rw [x2 (8 * f + k) (fun j j1 j2 => by omega)]
theorem kr_m_deal (hg : kr_g κ μ p q) (hF : kr_F n q κ μ) (hf : kt_K_requireFounded κ = 0) (hd : 1 ≤ d ∧ d ≤ 7) {b c e : Int32} : (kt_K_deal κ d b c e = 0 ∨ kt_K_deal κ d b c e = 3 ∨ kt_K_deal κ d b c e = 4) ∧ (kq_M_deal μ d b c e) 38 0 = kw_c_deal (kt_K_deal κ d b c e) ∧ kr_Q (n + 1) (kq_K_deal κ d b c e) (kq_M_deal μ d b c e) := by
  have hT : ∀ x, kr_Q (n + 1) κ (kc_up (kc_up μ 38 0 (nI 0)) 38 0 x) := fun x => (((kr_N hg hF).congr kr_eqK.rf (kr_thr μ _)).congr kr_eqK.rf (kr_thr _ _)).mono
  have hg1 := hg.congr kr_eqK.rf (kr_thr μ (nI 0))
  unfold kt_K_deal kq_K_deal kq_M_deal
  rw [if_pos hf, if_pos hf]
  rcases kr_numbers hg1.1 hg1.2.2.2.1 hg1.2.2.2.2.2.1 b c e with ⟨b1, ⟨b2, b3, b4⟩, n1, n2, n3⟩ | ⟨b1, b2⟩
  · rw [if_neg b1, if_neg b1, b2, b3, b4, if_pos kr_i0, if_pos kr_i0, if_pos kr_i0]
    have hdl : kp_V_hasDealt κ d = μ 43 d := (hF.2.2.2.2.2.2.2 d hd.1 hd.2).2.2.1.1
    rw [hdl]
    by_cases h43 : μ 43 d = 0
    · rw [if_pos h43, if_pos h43, if_pos h43]
      obtain ⟨s, s1, s2, s3, s4⟩ := hF.2.2.1
      have hroom : kp_B_room κ = nI (250 - s) := by
        unfold kp_B_room
        rw [s2, pk_sub s1]
      rw [hroom, s3]
      by_cases hs : s = 250
      · subst hs
        rw [if_pos kr_i0, if_pos kr_i0, if_pos rfl]
        exact ⟨Or.inr (Or.inr rfl), kc_up_jj, hT _⟩
      · have hfull : ¬ nI s = nI 250 := fun e => hs ((nI_eq (by omega) (by decide)).mp e)
        rw [if_neg (nI_ne0 (by omega) (by omega)), if_neg (nI_ne0 (by omega) (by omega)), if_neg hfull]
        have ek : κ 8 d = μ 42 d := by
          obtain ⟨k, -, e1, e2⟩ := (hF.2.2.2.2.2.2.2 d hd.1 hd.2).1
          rw [e1, e2]
        unfold kp_V_isSilent
        rw [ek]
        by_cases hk : μ 42 d = nI 1
        · rw [if_pos hk, if_neg kr_i1, if_neg kr_i1, if_pos hk]
          exact ⟨Or.inl rfl, (kc_up_nk (by decide)).trans kc_up_jj, kr_passOver hg hF hd h43 hk⟩
        · rw [if_neg hk, if_pos kr_i0, if_pos kr_i0, if_neg hk]
          refine ⟨Or.inl rfl, ?_, kr_sendOut hg hF hd hk (by rw [s3]; exact hfull) n1 n2 n3⟩
          show kr_dM2 μ d b c e 38 0 = _
          have z6 := (kr_dM0_r (μ := μ) (d := d) (b := b) (c := c) (e := e)).2.2.2.2.2.1
          rw [kr_dM2_r.2.2 38 (by decide), (kr_putM (s := s) (by rw [kr_dM1_r.2.2 38 (by decide), z6 16 (by decide)]; exact s3) (by omega)).2.2.2.2.2.2.2.2 0 (by decide), kr_dM1_r.2.2 38 (by decide), kr_dM0_r.2.2.2.2.2.2.1]
          rfl
    · rw [if_neg h43, if_neg h43, if_neg h43]
      exact ⟨Or.inr (Or.inr rfl), kc_up_jj, hT _⟩
  · rw [if_pos b1, if_pos b1]
    rcases b2 with b2 | ⟨b2, b3 | ⟨b3, b4⟩⟩
    · rw [b2, if_neg kr_i1]
      exact ⟨Or.inr (Or.inl rfl), kc_up_jj, hT _⟩
    · rw [b2, if_pos kr_i0, b3, if_neg kr_i1]
      exact ⟨Or.inr (Or.inl rfl), kc_up_jj, hT _⟩
    · rw [b2, if_pos kr_i0, b3, if_pos kr_i0, b4, if_neg kr_i1]
      exact ⟨Or.inr (Or.inl rfl), kc_up_jj, hT _⟩
theorem kr_fK_deal (κ : kc_Sg) (d : Nat) (b c e : Int32) (hd : d ≤ 7) : ∀ j, 38 ≤ j → kq_K_deal κ d b c e j = κ j := by
  intro j hj
  unfold kq_K_deal kq_V_passOver
  (repeat' split) <;> first | rfl | (rw [kc_up_ne (by omega)]; done) | (rw [kr_dealC (by omega) (by omega), ke_sendOut (by omega) (by omega) (by omega) (by omega)]; done)
theorem kr_tK_deal (κ : kc_Sg) (d : Nat) (b c e : Int32) : ¬ kt_K_deal κ d b c e = 0 → kq_K_deal κ d b c e = κ := by
  unfold kt_K_deal kq_K_deal
  intro h
  (repeat' split) <;> first | rfl | (exfalso; apply h; simp [*])
theorem kr_fM_deal (μ : kc_Sg) (d : Nat) (b c e : Int32) : ∀ j, j < 38 ∨ j = 50 → kq_M_deal μ d b c e j = μ j := by
  intro j hj
  have key : kr_dM2 μ d b c e j = μ j := by
    rw [kr_dM2_r.2.2 j (by omega), ke_putc _ _ _ _ _ (by omega) (by omega), kr_dM1_r.2.2 j (by omega), kr_dM0_c (by omega) (by omega) (by omega)]
  have hu : ∀ x, kc_up (kc_up μ 38 0 (nI 0)) 38 0 x j = μ j := fun x => (kc_up_ne (by omega)).trans (kc_up_ne (by omega))
  unfold kr_dM2 kr_dM1 kr_dM0 at key
  unfold kq_M_deal
  split
  · split
    · split
      · split
        · split
          · exact hu _
          · split
            · exact (kc_up_ne (by omega)).trans (kc_up_ne (by omega))
            · exact key
        · exact hu _
      · exact hu _
    · exact hu _
  · exact hu _
end KR11
