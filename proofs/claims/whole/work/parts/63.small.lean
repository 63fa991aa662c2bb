/-! the simulation: pieces that stay, and the small calls -/
section KRP
variable {n q d : Nat} {κ κ' μ μ' : kc_Sg}
theorem kr_kind.c (h : kr_kind κ μ d) (e1 : κ' 8 d = κ 8 d) (e2 : μ' 42 d = μ 42 d) : kr_kind κ' μ' d := by
  unfold kr_kind at h ⊢
  rw [e1, e2]
  exact h
theorem kr_share.c (h : kr_share q κ μ d) (e1 : κ' 4 d = κ 4 d) (e2 : μ' 39 d = μ 39 d) (e3 : μ' 40 d = μ 40 d) : kr_share q κ' μ' d := by
  unfold kr_share at h ⊢
  rw [e1, e2, e3]
  exact h
theorem kr_dealer.c (e1 : μ' 43 d = μ 43 d) (e2 : μ' 42 d = μ 42 d) : kp_M_dealer μ' d = kp_M_dealer μ d := by
  unfold kp_M_dealer
  rw [e1, e2]
theorem kr_done.c (h : kr_done κ μ d) (e1 : κ' 3 7 = κ 3 7) (e2 : κ' 3 8 = κ 3 8) (e3 : μ' 43 d = μ 43 d) (e4 : μ' 42 d = μ 42 d) : kr_done κ' μ' d := by
  unfold kr_done at h ⊢
  rw [e1, e2, e3, kr_dealer.c e3 e4]
  exact h
theorem kr_comp.c (h : kr_comp κ μ d) (e1 : κ' 12 d = κ 12 d) (e2 : κ' 13 d = κ 13 d) (e3 : ∀ k, 1 ≤ k → k ≤ 7 → μ' 47 (8 * d + k) = μ 47 (8 * d + k) ∧ μ' 48 (8 * d + k) = μ 48 (8 * d + k)) : kr_comp κ' μ' d := by
  obtain ⟨h1, h2, h3⟩ := h
  refine ⟨by rw [e1]; exact h1, by rw [e2]; exact h2, fun k a b => ?_⟩
  rw [(e3 k a b).1, (e3 k a b).2, e1, e2]
  exact h3 k a b
theorem kr_deal.c (h : kr_deal q κ μ d) (e1 : κ' (14 + d) = κ (14 + d)) (e2 : κ' (22 + d) = κ (22 + d)) (e3 : κ' (30 + d) = κ (30 + d)) (e4 : ∀ i, i < 4 → μ' 44 (4 * d + i) = μ 44 (4 * d + i) ∧ μ' 45 (4 * d + i) = μ 45 (4 * d + i)) (e5 : ∀ k, 1 ≤ k → k ≤ 7 → μ' 46 (8 * d + k) = μ 46 (8 * d + k)) : kr_deal q κ' μ' d := by
  obtain ⟨h1, h2, h3⟩ := h
  refine ⟨fun i hi => ?_, fun i hi => ?_, fun k a b => ?_⟩
  · rw [e1, (e4 i hi).1]
    exact h1 i hi
  · rw [e2, (e4 i hi).2]
    exact h2 i hi
  · rw [e3, e5 k a b]
    exact h3 k a b
theorem kr_week.c (h : kr_week n κ μ) (e1 : κ' 0 6 = κ 0 6) (e2 : μ' 38 5 = μ 38 5) : kr_week n κ' μ' := by
  unfold kr_week at h ⊢
  rw [e1, e2]
  exact h
theorem kr_board.c (h : kr_board κ μ) (e1 : κ' 2 1 = κ 2 1) (e2 : μ' 38 16 = μ 38 16) (e3 : κ' 7 = κ 7) (e4 : μ' 49 = μ 49) : kr_board κ' μ' := by
  unfold kr_board at h ⊢
  rw [e1, e2, e3, e4]
  exact h
theorem kr_edge.c (h : kr_edge μ) (e1 : μ' 47 = μ 47) (e2 : μ' 48 = μ 48) : kr_edge μ' := by
  unfold kr_edge at h ⊢
  rw [e1, e2]
  exact h
theorem kr_m1 {v : Nat} (h : v < 2 ^ 31) : ¬ nI v = -1 := by
  intro e
  have := congrArg Int32.toInt e
  rw [nI_toInt h] at this
  have e2 : (-1 : Int32).toInt = -1 := by decide +kernel
  omega
theorem kr_wiped {q : Nat} (hq : kr_q q) (h : kr_share q κ μ d) : (μ 40 d = nI 0 ∧ kp_K_isWiped κ d = nI 0 ∧ κ 4 d = μ 39 d ∧ kr_num q (μ 39 d)) ∨ (μ 40 d = nI 1 ∧ kp_K_isWiped κ d = nI 1 ∧ κ 4 d = -1) := by
  unfold kp_K_isWiped
  rcases h with ⟨h1, h2, v, h3, h4⟩ | ⟨h1, h2⟩
  · refine Or.inl ⟨h1, ?_, h2, v, h3, h4⟩
    rw [if_neg (by rw [h2, h4]; exact kr_m1 (by omega))]
  · refine Or.inr ⟨h1, ?_, h2⟩
    rw [if_pos h2]
end KRP
theorem kr_i0 : (nI 0 : Int32) = 0 := nI_0
theorem kr_i1 : ¬ (nI 1 : Int32) = 0 := by decide +kernel
section KRM
variable {n p q d : Nat} {κ μ : kc_Sg}
theorem kr_N (hg : kr_g κ μ p q) (hF : kr_F n q κ μ) : kr_Q n κ μ := Or.inr ⟨p, q, hg, Or.inr hF⟩
theorem kr_sound (hg : kr_g κ μ p q) (hF : kr_F n q κ μ) (hd : 1 ≤ d ∧ d ≤ 7) : kp_K_isSound κ d = kp_M_fitsSums μ d := by
  obtain ⟨hq, ⟨hp1, hp2⟩, g1, g2, g3, g4, g5⟩ := hg
  have hs := (hF.2.2.2.2.2.2.2 d hd.1 hd.2).2.1
  unfold kp_K_isSound kp_M_fitsSums
  rcases kr_wiped hq hs with ⟨h1, h2, h3, v, h4, h5⟩ | ⟨h1, h2, h3⟩
  · rw [h1, h2, if_pos kr_i0, if_pos kr_i0]
    unfold kp_G_agree
    rw [kr_elementAt (K := 41) (f := 0) (by omega) hp2 g1 g3 (nI d) (fun i hi => by rw [Nat.zero_add]; exact hF.2.2.2.1 i hi), kr_power (by omega) hp2 g3, g1, g5, h3]
    split
    · rw [if_neg kr_i1]
    · rw [if_pos kr_i0]
  · rw [h1, h2, if_neg kr_i1, if_neg kr_i1]
theorem kr_m_share (hg : kr_g κ μ p q) (hF : kr_F n q κ μ) (hf : kt_K_requireFounded κ = 0) (hd : 1 ≤ d ∧ d ≤ 7) : kt_K_share κ = 0 ∧ (kq_M_share μ d) 38 0 = nI 0 ∧ kp_K_share κ d = kp_M_share μ d ∧ kr_Q (n + 1) κ (kq_M_share μ d) := by
  have e : kq_M_share μ d = kc_up μ 38 0 (nI 0) := by
    unfold kq_M_share
    split <;> rfl
  rw [e]
  refine ⟨?_, kc_up_jj, ?_, (kr_N hg hF).thr _⟩
  · unfold kt_K_share
    rw [if_pos hf]
  · unfold kp_K_share kp_M_share
    rw [if_pos hf]
    rcases kr_wiped hg.1 (hF.2.2.2.2.2.2.2 d hd.1 hd.2).2.1 with ⟨h1, h2, h3, -⟩ | ⟨h1, h2, h3⟩
    · rw [h1, if_pos kr_i0, h3]
    · rw [h1, if_neg kr_i1, h3]
theorem kr_m_fits (hg : kr_g κ μ p q) (hF : kr_F n q κ μ) (hf : kt_K_requireFounded κ = 0) (hd : 1 ≤ d ∧ d ≤ 7) : kt_K_fits κ = 0 ∧ (kq_M_fits μ d) 38 0 = nI 0 ∧ kp_K_fits κ d = kp_M_fits μ d ∧ kr_Q (n + 1) κ (kq_M_fits μ d) := by
  have e : kq_M_fits μ d = kc_up μ 38 0 (nI 0) := by
    unfold kq_M_fits
    split <;> rfl
  rw [e]
  refine ⟨?_, kc_up_jj, ?_, (kr_N hg hF).thr _⟩
  · unfold kt_K_fits
    rw [if_pos hf]
  · unfold kp_K_fits kp_M_fits
    have h := kr_sound (hg.congr kr_eqK.rf (kr_thr μ (nI 0))) (hF.congr kr_eqK.rf (kr_thr μ (nI 0))) hd
    rw [if_pos hf, h]
    rcases kz_M_fitsSums (kc_up μ 38 0 (nI 0)) d with e | e
    · rw [e, if_pos kr_i0]
    · rw [e, if_neg kr_i1]
theorem kr_m_element (hg : kr_g κ μ p q) (hF : kr_F n q κ μ) (hf : kt_K_requireFounded κ = 0) (hd : 1 ≤ d ∧ d ≤ 7) : kt_K_element κ = 0 ∧ (kq_M_element μ) 38 0 = nI 0 ∧ kp_K_element κ d = kp_M_element μ d ∧ kr_Q (n + 1) κ (kq_M_element μ) := by
  refine ⟨?_, kc_up_jj, ?_, (kr_N hg hF).thr _⟩
  · unfold kt_K_element
    rw [if_pos hf]
  · unfold kp_K_element kp_M_element
    obtain ⟨hq, ⟨hp1, hp2⟩, g1, g2, g3, g4, g5⟩ := hg.congr kr_eqK.rf (kr_thr μ (nI 0))
    have hF2 := hF.congr kr_eqK.rf (kr_thr μ (nI 0))
    rw [if_pos hf]
    exact kr_elementAt (by omega) hp2 g1 g3 (nI d) (fun i hi => by rw [Nat.zero_add]; exact hF2.2.2.2.1 i hi)
theorem kr_m_wipe (hg : kr_g κ μ p q) (hF : kr_F n q κ μ) (hf : kt_K_requireFounded κ = 0) (hd : 1 ≤ d ∧ d ≤ 7) : (kt_K_wipe κ d = 0 ∨ kt_K_wipe κ d = 4) ∧ (kq_M_wipe μ d) 38 0 = kw_c_wipe (kt_K_wipe κ d) ∧ kr_Q (n + 1) (kq_K_wipe κ d) (kq_M_wipe μ d) := by
  unfold kt_K_wipe kq_M_wipe kq_K_wipe
  rw [if_pos hf, if_pos hf]
  rcases kr_wiped hg.1 (hF.2.2.2.2.2.2.2 d hd.1 hd.2).2.1 with ⟨h1, h2, h3, -⟩ | ⟨h1, h2, h3⟩
  · rw [h1, h2, if_pos kr_i0, if_pos kr_i0, if_pos kr_i0]
    refine ⟨Or.inl rfl, (kc_up_nk (by decide)).trans kc_up_jj, ?_⟩
    have hg2 : kr_g (kc_up κ 4 d (-1)) (kc_up (kc_up μ 38 0 (nI 0)) 40 d (nI 1)) p q := by
      unfold kr_g at hg ⊢
      rw [kc_up_ne (by decide : 1 ≠ 4), kc_up_ne (by decide : 38 ≠ 40), kc_up_nj (by decide : 1 ≠ 0), kc_up_nj (by decide : 2 ≠ 0), kc_up_nj (by decide : 3 ≠ 0)]
      exact hg
    refine (kr_N hg2 ?_).mono
    obtain ⟨a1, a2, a3, a4, a5, a6, a7, a8⟩ := hF
    refine ⟨a1.c rfl rfl, a2, a3.c rfl rfl rfl rfl, a4, a5, a6, a7.c rfl rfl, fun e b1 b2 => ?_⟩
    obtain ⟨s1, s2, s3, s4, s5⟩ := a8 e b1 b2
    refine ⟨s1.c rfl rfl, ?_, s3.c rfl rfl rfl rfl, s4.c rfl rfl (fun _ _ _ => ⟨rfl, rfl⟩), s5.imp (fun h => h) (fun h => h.c (kc_up_ne (by omega)) (kc_up_ne (by omega)) (kc_up_ne (by omega)) (fun _ _ => ⟨rfl, rfl⟩) (fun _ _ _ => rfl))⟩
    by_cases h : e = d
    · subst h
      exact Or.inr ⟨kc_up_jj, kc_up_jj⟩
    · exact s2.c (kc_up_nj h) rfl ((kc_up_nj h).trans rfl)
  · rw [h1, h2, if_neg kr_i1, if_neg kr_i1, if_neg kr_i1]
    exact ⟨Or.inr rfl, kc_up_jj, (((kr_N hg hF).congr kr_eqK.rf (kr_thr μ _)).congr kr_eqK.rf (kr_thr _ _)).mono⟩
end KRM
