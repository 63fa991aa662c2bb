/-! the simulation: look -/
section KR15
variable {n p q d : Nat} {κ μ : kc_Sg}
theorem kr_lookStep (hg : kr_g κ μ p q) (hF : kr_F n q κ μ) (hd : 1 ≤ d ∧ d ≤ 7) {i : Nat} (hi : 1 ≤ i ∧ i ≤ 7) (hr : ¬ μ 38 16 = nI 250) : kr_g (kq_B_add (kq_V_complain κ d i) (nI 2) (nI d) (nI i) (nI 0) (kq_V_complain κ d i 0 6)) (kc_up (kq_M_put μ (nI 2) d (nI i) (nI 0)) 47 (8 * i + d) (nI 1)) p q ∧ kr_F n q (kq_B_add (kq_V_complain κ d i) (nI 2) (nI d) (nI i) (nI 0) (kq_V_complain κ d i 0 6)) (kc_up (kq_M_put μ (nI 2) d (nI i) (nI 0)) 47 (8 * i + d) (nI 1)) := by
  have cK : ∀ j, j ≠ 12 → kq_V_complain κ d i j = κ j := fun j hj => kc_up_ne hj
  have c12 : ∀ f, kq_V_complain κ d i 12 f = if f = i then κ 12 i ||| kp_K_bit (nI d) else κ 12 f := fun f => kr_uu
  have hwk : kq_V_complain κ d i 0 6 = μ 38 5 := by
    obtain ⟨w, -, -, e1, e2⟩ := hF.1
    rw [cK 0 (by decide), e1, e2]
  have hbd := kr_postB (κ := kq_V_complain κ d i) (d := d) (w := nI i) (v := nI 0) (t := nI 2) (u := kq_V_complain κ d i 0 6) (hF.2.2.1.c (by rw [cK 2 (by decide)]) rfl (cK 7 (by decide)) rfl) hr (by decide +kernel) hwk
  have h38 := kr_putP (d := d) (t := nI 2) (w := nI i) (v := nI 0) hF hr
  have eK : ∀ j, j ≠ 2 → j ≠ 7 → kq_B_add (kq_V_complain κ d i) (nI 2) (nI d) (nI i) (nI 0) (kq_V_complain κ d i 0 6) j = kq_V_complain κ d i j := fun j a b => ke_addc a b
  have eM : ∀ j, j ≠ 38 → j ≠ 49 → kq_M_put μ (nI 2) d (nI i) (nI 0) j = μ j := fun j a b => ke_putc μ (nI 2) d (nI i) (nI 0) a b
  generalize kq_B_add (kq_V_complain κ d i) (nI 2) (nI d) (nI i) (nI 0) (kq_V_complain κ d i 0 6) = κ' at hbd eK ⊢
  generalize kq_M_put μ (nI 2) d (nI i) (nI 0) = ω at hbd h38 eM ⊢
  have fK : ∀ j, j ≠ 2 → j ≠ 7 → j ≠ 12 → κ' j = κ j := fun j a b c => (eK j a b).trans (cK j c)
  have fM : ∀ j, j ≠ 38 → j ≠ 49 → j ≠ 47 → kc_up ω 47 (8 * i + d) (nI 1) j = μ j := fun j a b c => (kc_up_ne c).trans (eM j a b)
  have g38 : ∀ x, x ≠ 16 → kc_up ω 47 (8 * i + d) (nI 1) 38 x = μ 38 x := fun x hx => by rw [kc_up_ne (by decide), h38 x hx]
  have e47 : ∀ x, kc_up ω 47 (8 * i + d) (nI 1) 47 x = if x = 8 * i + d then nI 1 else μ 47 x := fun x => by rw [kr_uu, eM 47 (by decide) (by decide)]
  have f12 : ∀ f, κ' 12 f = if f = i then κ 12 i ||| kp_K_bit (nI d) else κ 12 f := fun f => by rw [eK 12 (by decide) (by decide), c12]
  have hbd2 : kr_board κ' (kc_up ω 47 (8 * i + d) (nI 1)) := hbd.c rfl (kc_up_nk (by decide)) rfl (kc_up_ne (by decide))
  generalize kc_up ω 47 (8 * i + d) (nI 1) = μ' at fM g38 e47 hbd2 ⊢
  obtain ⟨a1, a2, a3, a4, a5, a6, a7, a8⟩ := hF
  refine ⟨?_, a1.c (by rw [fK 0 (by decide) (by decide) (by decide)]) (g38 5 (by decide)), by rw [g38 4 (by decide)]; exact a2, hbd2, fun x hx => ?_, by rw [fK 3 (by decide) (by decide) (by decide)]; exact a5, by rw [fK 3 (by decide) (by decide) (by decide)]; exact a6, fun x hx h8 => ?_, fun f f1 f2 => ?_⟩
  · unfold kr_g at hg ⊢
    rw [fK 1 (by decide) (by decide) (by decide), g38 1 (by decide), g38 2 (by decide), g38 3 (by decide)]
    exact hg
  · rw [fK 5 (by decide) (by decide) (by decide), fM 41 (by decide) (by decide) (by decide)]
    exact a4 x hx
  · rw [e47, if_neg (by omega), fM 48 (by decide) (by decide) (by decide)]
    exact a7 x hx h8
  · obtain ⟨s1, s2, s3, s4, s5⟩ := a8 f f1 f2
    have hz : kp_M_dealer μ' f = kp_M_dealer μ f := kr_dealer.c (by rw [fM 43 (by decide) (by decide) (by decide)]) (by rw [fM 42 (by decide) (by decide) (by decide)])
    refine ⟨s1.c (by rw [fK 8 (by decide) (by decide) (by decide)]) (by rw [fM 42 (by decide) (by decide) (by decide)]), s2.c (by rw [fK 4 (by decide) (by decide) (by decide)]) (by rw [fM 39 (by decide) (by decide) (by decide)]) (by rw [fM 40 (by decide) (by decide) (by decide)]), s3.c (by rw [fK 3 (by decide) (by decide) (by decide)]) (by rw [fK 3 (by decide) (by decide) (by decide)]) (by rw [fM 43 (by decide) (by decide) (by decide)]) (by rw [fM 42 (by decide) (by decide) (by decide)]), ?_, ?_⟩
    · by_cases h : f = i
      · subst h
        obtain ⟨⟨m, m1, m2⟩, c2, c3⟩ := s4
        refine ⟨⟨m ||| 2 ^ (d - 1), km_orlt m1 hd.2 hd.1, by rw [f12, if_pos rfl, m2, km_or m m1 d (by omega) hd.1]⟩, by rw [fK 13 (by decide) (by decide) (by decide)]; exact c2, fun x x1 x2 => ?_⟩
        obtain ⟨t1, t2, t3⟩ := c3 x x1 x2
        rw [f12, if_pos rfl, m2, kr_orAmong m1 hd ⟨x1, x2⟩, fK 13 (by decide) (by decide) (by decide), fM 48 (by decide) (by decide) (by decide), e47]
        by_cases hx : x = d
        · subst hx
          rw [if_pos rfl, if_pos rfl]
          exact ⟨rfl, t2, fun e => absurd e (by decide +kernel)⟩
        · rw [if_neg hx, if_neg (by omega), ← m2]
          exact ⟨t1, t2, t3⟩
      · exact s4.c (by rw [f12, if_neg h]) (by rw [fK 13 (by decide) (by decide) (by decide)]) (fun x x1 x2 => ⟨by rw [e47, if_neg (by omega)], by rw [fM 48 (by decide) (by decide) (by decide)]⟩)
    · rw [hz]
      exact s5.imp (fun h => h) (fun h => h.c (fK _ (by omega) (by omega) (by omega)) (fK _ (by omega) (by omega) (by omega)) (fK _ (by omega) (by omega) (by omega)) (fun x hx => ⟨by rw [fM 44 (by decide) (by decide) (by decide)], by rw [fM 45 (by decide) (by decide) (by decide)]⟩) (fun x _ _ => by rw [fM 46 (by decide) (by decide) (by decide)]))
/-- who is complained of -/
theorem kr_accused (hg : kr_g κ μ p q) (hF : kr_F n q κ μ) (hd : 1 ≤ d ∧ d ≤ 7) : ∃ m, m < 128 ∧ kp_V_accusedBy κ d = nI m ∧ ∀ i, 1 ≤ i → i ≤ 7 → m.testBit (i - 1) = decide (¬ kp_M_complains μ d i = 0) := by
  refine km_it (f := kf_V_accusedBy_1 κ d) (b := fun i => decide (¬ kp_M_complains μ d i = 0)) (fun i i1 i2 a => ?_)
  obtain ⟨hq, hp, g1, g2, g3, g4, g5⟩ := hg
  obtain ⟨s1, s2, s3, s4, s5⟩ := hF.2.2.2.2.2.2.2 i i1 i2
  have ek : κ 8 d = μ 42 d := by
    obtain ⟨j, -, e1, e2⟩ := (hF.2.2.2.2.2.2.2 d hd.1 hd.2).1
    rw [e1, e2]
  have t1 := (s4.2.2 d hd.1 hd.2).1
  have e : kf_V_accusedBy_1 κ d i a = if kp_M_complains μ d i = 0 then a else a ||| kp_K_bit (nI i) := by
    unfold kf_V_accusedBy_1 kp_M_complains
    rw [s3.2, t1]
    by_cases hz : kp_M_dealer μ i = 0
    · rw [if_pos hz, if_pos hz, if_pos kr_i0]
    · rw [if_neg hz, if_neg hz]
      have hdl : kr_deal q κ μ i := by
        rcases s5 with h | h
        · exact absurd (h.trans kr_i0) hz
        · exact h
      by_cases h47 : μ 47 (8 * i + d) = 0
      · rw [if_pos h47, if_pos h47]
        unfold kp_V_objectsTo
        rw [ek, kr_agree (k := 22 + i) (d := i) (p := p) (by omega) hp.2 g1 g3 g5 (nI d) _ hdl.2.1, (hdl.2.2 d hd.1 hd.2).1]
      · rw [if_neg h47, if_neg h47, if_pos kr_i0]
  rw [e]
  by_cases h : kp_M_complains μ d i = 0
  · have hdec : ¬ (decide (¬ kp_M_complains μ d i = 0) = true) := by simp [h]
    rw [if_pos h, if_neg hdec]
  · rw [if_neg h, if_pos (decide_eq_true h)]
theorem kr_lookAll {ν : kc_Sg} (hd : 1 ≤ d ∧ d ≤ 7) {m : Nat} (hm : m < 128) (hk : kp_V_accusedBy κ d = nI m) (hb : ∀ i, 1 ≤ i → i ≤ 7 → m.testBit (i - 1) = decide (¬ kp_M_complains ν d i = 0)) : ∀ c i κ' μ' s, 1 ≤ i → i + c = 8 → kr_g κ' μ' p q → kr_F n q κ' μ' → (μ' 38 1 = ν 38 1 ∧ μ' 38 3 = ν 38 3 ∧ μ' 42 = ν 42 ∧ μ' 43 = ν 43 ∧ μ' 45 = ν 45 ∧ μ' 46 = ν 46) → (∀ j, i ≤ j → j ≤ 7 → μ' 47 (8 * j + d) = ν 47 (8 * j + d)) → μ' 38 16 = nI s → s + km_s (fun j => decide (¬ kp_M_complains ν d j = 0)) c i ≤ 250 → kr_Q n (kc_it (kf_K_look_1 κ d) c i κ') (kc_it (kf_M_look_2 d) c i μ') ∧ kc_it (kf_M_look_2 d) c i μ' 38 0 = μ' 38 0 := by
  intro c
  induction c with
  | zero =>
    intro i κ' μ' s _ _ hg hF _ _ _ _
    exact ⟨kr_N hg hF, rfl⟩
  | succ c ih =>
    intro i κ' μ' s i1 i2 hg hF hE h47 h16 hs
    obtain ⟨x1, x3, x42, x43, x45, x46⟩ := hE
    have hc : kp_M_complains μ' d i = kp_M_complains ν d i := ke_complains x1 x3 x42 x43 x45 x46 (h47 i (Nat.le_refl _) (by omega))
    have hbb := km_bits hm (d := i) ⟨i1, by omega⟩
    have hs' : s + ((if decide (¬ kp_M_complains ν d i = 0) = true then 1 else 0) + km_s (fun j => decide (¬ kp_M_complains ν d j = 0)) c (i + 1)) ≤ 250 := hs
    show kr_Q n (kc_it (kf_K_look_1 κ d) c (i + 1) (kf_K_look_1 κ d i κ')) (kc_it (kf_M_look_2 d) c (i + 1) (kf_M_look_2 d i μ')) ∧ kc_it (kf_M_look_2 d) c (i + 1) (kf_M_look_2 d i μ') 38 0 = μ' 38 0
    by_cases h : kp_M_complains ν d i = 0
    · have hf : m.testBit (i - 1) = false := by
        rw [hb i i1 (by omega), h]
        decide
      have hdec : ¬ (decide (¬ kp_M_complains ν d i = 0) = true) := by simp [h]
      rw [if_neg hdec] at hs'
      rw [show kf_K_look_1 κ d i κ' = κ' by unfold kf_K_look_1; rw [hk, if_pos (hbb.2.1.mpr hf)], show kf_M_look_2 d i μ' = μ' by unfold kf_M_look_2; rw [hc, if_pos h]]
      exact ih (i + 1) κ' μ' s (by omega) (by omega) hg hF ⟨x1, x3, x42, x43, x45, x46⟩ (fun j a b => h47 j (by omega) b) h16 (by omega)
    · have ht : m.testBit (i - 1) = true := by
        rw [hb i i1 (by omega)]
        exact decide_eq_true h
      rw [if_pos (decide_eq_true h)] at hs'
      have hr : ¬ μ' 38 16 = nI 250 := by
        rw [h16]
        intro e
        have := (nI_eq (by omega) (by decide)).mp e
        omega
      rw [show kf_K_look_1 κ d i κ' = kq_B_add (kq_V_complain κ' d i) (nI 2) (nI d) (nI i) (nI 0) (kq_V_complain κ' d i 0 6) by unfold kf_K_look_1; rw [hk, if_neg (fun e => by rw [hbb.2.1.mp e] at ht; cases ht)], show kf_M_look_2 d i μ' = kc_up (kq_M_put μ' (nI 2) d (nI i) (nI 0)) 47 (8 * i + d) (nI 1) by unfold kf_M_look_2; rw [hc, if_neg h]]
      have hst := kr_lookStep hg hF hd (i := i) ⟨i1, by omega⟩ hr
      have h38 := kr_putP (d := d) (t := nI 2) (w := nI i) (v := nI 0) hF hr
      have eM : ∀ j, j ≠ 38 → j ≠ 49 → j ≠ 47 → kc_up (kq_M_put μ' (nI 2) d (nI i) (nI 0)) 47 (8 * i + d) (nI 1) j = μ' j := fun j a b e => (kc_up_ne e).trans (ke_putc μ' (nI 2) d (nI i) (nI 0) a b)
      have g38 : ∀ x, x ≠ 16 → kc_up (kq_M_put μ' (nI 2) d (nI i) (nI 0)) 47 (8 * i + d) (nI 1) 38 x = μ' 38 x := fun x hx => (kc_up_nk (by decide)).trans (h38 x hx)
      have hih := ih (i + 1) _ _ (s + 1) (by omega) (by omega) hst.1 hst.2 ⟨(g38 1 (by decide)).trans x1, (g38 3 (by decide)).trans x3, (eM 42 (by decide) (by decide) (by decide)).trans x42, (eM 43 (by decide) (by decide) (by decide)).trans x43, (eM 45 (by decide) (by decide) (by decide)).trans x45, (eM 46 (by decide) (by decide) (by decide)).trans x46⟩ (fun j a b => by
        rw [kc_up_nj (by omega), ke_putc μ' (nI 2) d (nI i) (nI 0) (by decide) (by decide)]
        exact h47 j (by omega) b) ((kc_up_nk (by decide)).trans (by rw [ke_put16, h16, nI_add])) (by omega)
      exact ⟨hih.1, hih.2.trans (g38 0 (by decide))⟩
theorem kr_m_look (hg : kr_g κ μ p q) (hF : kr_F n q κ μ) (hf : kt_K_requireFounded κ = 0) (hd : 1 ≤ d ∧ d ≤ 7) : (kt_K_look κ d = 0 ∨ kt_K_look κ d = 4) ∧ (kq_M_look μ d) 38 0 = kw_c_look (kt_K_look κ d) ∧ (kt_K_look κ d = 0 → kp_K_look κ d = kp_M_look μ d) ∧ kr_Q (n + 1) (kq_K_look κ d) (kq_M_look μ d) := by
  have hg0 := hg.congr kr_eqK.rf (kr_thr μ (nI 0))
  have hF0 := hF.congr kr_eqK.rf (kr_thr μ (nI 0))
  have e16 : (kc_up μ 38 0 (nI 0)) 38 16 = μ 38 16 := kc_up_nj (by decide)
  have e0 : (kc_up μ 38 0 (nI 0)) 38 0 = nI 0 := kc_up_jj
  have hcnt : kc_it (kf_M_look_1 μ d) 7 1 (nI 0) = nI (0 + km_s (fun i => decide (¬ kp_M_complains (kc_up μ 38 0 (nI 0)) d i = 0)) 7 1) := km_sn 7 1 0 (fun j a b z => by
    unfold kf_M_look_1
    by_cases h : kp_M_complains (kc_up μ 38 0 (nI 0)) d j = 0
    · have hdec : ¬ (decide (¬ kp_M_complains (kc_up μ 38 0 (nI 0)) d j = 0) = true) := by simp [h]
      rw [if_pos h, if_neg hdec]
    · rw [if_neg h, if_pos (decide_eq_true h)])
  unfold kt_K_look kq_K_look kp_K_look kq_M_look kp_M_look
  rw [if_pos hf, if_pos hf, if_pos hf, hcnt, Nat.zero_add]
  obtain ⟨m, m1, m2, m3⟩ := kr_accused hg0 hF0 hd
  obtain ⟨s, s1, s2, s3, s4⟩ := hF0.2.2.1
  have hroom : kp_B_room κ = nI (250 - s) := by
    unfold kp_B_room
    rw [s2, pk_sub s1]
  have hc := km_cof m3
  have h7 := km_c7 m
  rw [hroom, m2, km_cnt m m1, ← hc, ← e16, s3, nI_add]
  generalize kc_up μ 38 0 (nI 0) = ν at hg0 hF0 e0 m3 s3 hc ⊢
  by_cases h : s + km_c m ≤ 250
  · have ha : nI (km_c m) ≤ nI (250 - s) := nI_le (by omega) (by omega)
    have hb : nI (s + km_c m) ≤ nI 250 := nI_le h (by decide)
    rw [if_pos ha, if_pos ha, if_pos ha, if_pos hb, if_pos hb]
    have hl := kr_lookAll (κ := κ) (p := p) (q := q) (n := n) hd m1 m2 m3 7 1 κ ν s (Nat.le_refl _) rfl hg0 hF0 ⟨rfl, rfl, rfl, rfl, rfl, rfl⟩ (fun _ _ _ => rfl) s3 (by rw [← hc]; exact h)
    refine ⟨Or.inl rfl, ?_, fun _ => rfl, hl.1.mono⟩
    rw [hl.2, e0]
    rfl
  · have ha : ¬ nI (km_c m) ≤ nI (250 - s) := nI_ge (by omega) (by omega)
    have hb : ¬ nI (s + km_c m) ≤ nI 250 := nI_ge (by omega) (by omega)
    rw [if_neg ha, if_neg ha, if_neg ha, if_neg hb, if_neg hb]
    exact ⟨Or.inr rfl, kc_up_jj, fun e => absurd e (by decide), (kr_N hg0 hF0).thr _⟩
theorem kr_fK_look (κ : kc_Sg) (d : Nat) : ∀ j, 38 ≤ j → kq_K_look κ d j = κ j := by
  intro j hj
  unfold kq_K_look
  split
  · split
    · refine ke_it (fun i a => ?_) 7 1 κ
      unfold kf_K_look_1
      split
      · rfl
      · rw [ke_addc (by omega) (by omega)]
        exact kc_up_ne (by omega)
    · rfl
  · rfl
theorem kr_tK_look (κ : kc_Sg) (d : Nat) : ¬ kt_K_look κ d = 0 → kq_K_look κ d = κ := by
  unfold kt_K_look kq_K_look
  intro h
  split
  · rename_i h1
    rw [if_pos h1] at h
    split
    · rename_i h2
      rw [if_pos h2] at h
      exact absurd rfl h
    · rfl
  · rfl
theorem kr_fM_look (μ : kc_Sg) (d : Nat) : ∀ j, j < 38 ∨ j = 50 → kq_M_look μ d j = μ j := by
  intro j hj
  unfold kq_M_look
  split
  · rw [ke_it (fun i a => by
      unfold kf_M_look_2
      split
      · rfl
      · rw [kc_up_ne (by omega), ke_putc _ _ _ _ _ (by omega) (by omega)]) 7 1]
    exact kc_up_ne (by omega)
  · exact (kc_up_ne (by omega)).trans (kc_up_ne (by omega))
end KR15
