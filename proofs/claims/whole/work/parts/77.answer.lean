/-! the simulation: answer, its main part -/
section KR13
variable {n p q d k : Nat} {κ μ : kc_Sg}
/-- the end of an answer: both boards have it; is it taken? -/
theorem kr_take (hg : kr_g κ μ p q) (hF : kr_F n q κ μ) (hd : 1 ≤ d ∧ d ≤ 7) (hk : 1 ≤ k ∧ k ≤ 7) (hdl : ¬ kp_M_dealer μ d = nI 0) {V : Int32} (hV : kr_num q V) : kp_V_settle κ d k V = (if μ 47 (8 * d + k) = 0 then nI 0 else if μ 48 (8 * d + k) = 0 then (if kp_M_goodShare μ d (nI k) V = 0 then nI 0 else nI 1) else nI 0) ∧ kr_Q (n + 1) (kq_V_settle κ d k V) (if μ 47 (8 * d + k) = 0 then μ else if μ 48 (8 * d + k) = 0 then (if kp_M_goodShare μ d (nI k) V = 0 then μ else kc_up (kc_up μ 48 (8 * d + k) (nI 1)) 46 (8 * d + k) V) else μ) := by
  have hQ := (kr_N hg hF).mono
  obtain ⟨s1, s2, s3, s4, s5⟩ := hF.2.2.2.2.2.2.2 d hd.1 hd.2
  obtain ⟨⟨a, a1, a2⟩, ⟨b, b1, b2⟩, s43⟩ := s4
  obtain ⟨t1, t2, t3⟩ := s43 k hk.1 hk.2
  have hdl2 : kr_deal q κ μ d := by
    rcases s5 with h | h
    · exact absurd h hdl
    · exact h
  obtain ⟨hq, hp, g1, g2, g3, g4, g5⟩ := hg
  have hag := kr_agree (k := 22 + d) (d := d) (p := p) (by omega) hp.2 g1 g3 g5 (nI k) V hdl2.2.1
  unfold kp_V_settle kq_V_settle
  rw [hag, ← t1, ← t2, a2, b2, kr_open a1 b1 hk]
  have hA := km_bits a1 hk
  have hB := km_bits b1 hk
  by_cases h47 : kp_K_isAmong (nI a) (nI k) = 0
  · have e : (if b.testBit (k - 1) = true then nI 0 else kp_K_isAmong (nI a) (nI k)) = 0 := by
      split
      · exact kr_i0
      · exact h47
    rw [if_pos h47, if_pos h47, if_pos e, if_pos e]
    exact ⟨rfl, hQ⟩
  · rw [if_neg h47, if_neg h47]
    cases hb : b.testBit (k - 1) with
    | true =>
      have h48 : ¬ kp_K_isAmong (nI b) (nI k) = 0 := fun e => by
        rw [hB.2.1.mp e] at hb
        cases hb
      rw [if_pos (rfl : true = true), if_pos kr_i0, if_pos kr_i0, if_neg h48, if_neg h48]
      exact ⟨rfl, hQ⟩
    | false =>
      rw [if_neg Bool.false_ne_true, if_neg h47, if_neg h47, if_pos (hB.2.1.mpr hb), if_pos (hB.2.1.mpr hb)]
      by_cases hgs : kp_M_goodShare μ d (nI k) V = 0
      · rw [if_pos hgs, if_pos hgs, if_pos hgs]
        exact ⟨rfl, hQ⟩
      · rw [if_neg hgs, if_neg hgs, if_neg hgs, ← b2]
        have h := kr_settled ⟨hq, hp, g1, g2, g3, g4, g5⟩ hF hd hk hV (by rw [← t1, a2]; exact fun e => h47 (e.trans kr_i0)) hdl
        exact ⟨rfl, (kr_N h.1 h.2).mono⟩
theorem kr_m_answer (hg : kr_g κ μ p q) (hF : kr_F n q κ μ) (hf : kt_K_requireFounded κ = 0) (hd : 1 ≤ d ∧ d ≤ 7) (hk : 1 ≤ k ∧ k ≤ 7) : (kt_K_answer κ d k = 0 ∨ kt_K_answer κ d k = 3 ∨ kt_K_answer κ d k = 4) ∧ (kq_M_answer μ d k) 38 0 = kw_c_answer (kt_K_answer κ d k) ∧ (kt_K_answer κ d k = 0 → kp_K_answer κ d k = kp_M_answer μ d k) ∧ kr_Q (n + 1) (kq_K_answer κ d k) (kq_M_answer μ d k) := by
  have hE : kr_eqM μ (kc_up (kc_up μ 38 0 (nI 0)) 38 0 (nI 0)) := (kr_thr μ _).tr (kr_thr _ _)
  have hg0 := hg.congr kr_eqK.rf hE
  have hF0 := hF.congr kr_eqK.rf hE
  unfold kt_K_answer kq_K_answer kp_K_answer kq_M_answer kp_M_answer
  rw [if_pos hf, if_pos hf, if_pos hf]
  have e16 : (kc_up (kc_up μ 38 0 (nI 0)) 38 0 (nI 0)) 38 16 = μ 38 16 := hE.1 16 (by decide)
  have e42 : (kc_up (kc_up μ 38 0 (nI 0)) 38 0 (nI 0)) 42 = μ 42 := hE.2 42 (by decide) (by decide)
  have e0 : (kc_up (kc_up μ 38 0 (nI 0)) 38 0 (nI 0)) 38 0 = nI 0 := kc_up_jj
  generalize kc_up (kc_up μ 38 0 (nI 0)) 38 0 (nI 0) = ν at hg0 hF0 e16 e42 e0 ⊢
  have hT : ∀ x, kr_Q (n + 1) κ (kc_up ν 38 0 x) := fun x => (kr_N hg0 hF0).thr x
  have hdl : kp_K_isAmong (kp_V_dealers κ) (nI d) = kp_M_dealer ν d := (hF0.2.2.2.2.2.2.2 d hd.1 hd.2).2.2.1.2
  rw [hdl]
  by_cases hz : kp_M_dealer ν d = 0
  · rw [if_pos hz, if_pos hz, if_pos hz, if_pos hz, if_pos hz]
    exact ⟨Or.inr (Or.inl rfl), kc_up_jj, fun e => absurd e (by decide), hT _⟩
  rw [if_neg hz, if_neg hz, if_neg hz, if_neg hz, if_neg hz]
  obtain ⟨s, s1, s2, s3, s4⟩ := hF0.2.2.1
  have hroom : kp_B_room κ = nI (250 - s) := by
    unfold kp_B_room
    rw [s2, pk_sub s1]
  rw [hroom, ← e16, s3]
  by_cases hs : s = 250
  · subst hs
    rw [if_pos kr_i0, if_pos kr_i0, if_pos kr_i0, if_pos rfl, if_pos rfl]
    exact ⟨Or.inr (Or.inr rfl), kc_up_jj, fun e => absurd e (by decide), hT _⟩
  have hfull : ¬ nI s = nI 250 := fun e => hs ((nI_eq (by omega) (by decide)).mp e)
  have hnz : ¬ nI (250 - s) = 0 := nI_ne0 (by omega) (by omega)
  rw [if_neg hnz, if_neg hnz, if_neg hnz, if_neg hfull, if_neg hfull, ← e42]
  have hz' : ¬ kp_M_dealer ν d = nI 0 := fun e => hz (e.trans kr_i0)
  have hdl2 : kr_deal q κ ν d := by
    rcases (hF0.2.2.2.2.2.2.2 d hd.1 hd.2).2.2.2.2 with h | h
    · exact absurd h hz'
    · exact h
  by_cases h6 : ν 42 d = nI 6
  · have ek : κ 8 d = nI 6 := by
      obtain ⟨j, -, e1, e2⟩ := (hF0.2.2.2.2.2.2.2 d hd.1 hd.2).1
      rw [e1, ← e2, h6]
    have esh : kp_V_shownBy κ d k = -1 := by
      unfold kp_V_shownBy
      rw [if_pos ek]
    rw [if_pos h6, if_pos h6, if_pos esh, if_pos esh, if_pos esh]
    exact ⟨Or.inl rfl, e0, fun _ => rfl, (kr_N hg0 hF0).mono⟩
  · obtain ⟨h1, h2⟩ := kr_shown hg0 hF0 hd hk hdl2 h6
    rw [← h1, if_neg h6, if_neg h6]
    generalize kp_V_shownBy κ d k = V at h2 ⊢
    obtain ⟨v, v1, v2⟩ := h2
    have hne : ¬ V = -1 := by
      rw [v2]
      exact kr_m1 (by have := hg.1; omega)
    rw [if_neg hne, if_neg hne, if_neg hne]
    have hwk : κ 0 6 = ν 38 5 := by
      obtain ⟨w, -, -, e1, e2⟩ := hF0.1
      rw [e1, e2]
    have h2 := kr_addF (d := d) (t := nI 3) (w := nI k) (v := V) (u := κ 0 6) hg0 hF0 (by rw [s3]; exact hfull) (by decide +kernel) hwk
    have e02 : kq_M_put ν (nI 3) d (nI k) V 38 0 = nI 0 := by
      rw [kr_putP hF0 (by rw [s3]; exact hfull) 0 (by decide), e0]
    have hdz : kp_M_dealer (kq_M_put ν (nI 3) d (nI k) V) d = kp_M_dealer ν d := kr_dealer.c (by rw [ke_putc _ _ _ _ _ (by decide) (by decide)]) (by rw [ke_putc _ _ _ _ _ (by decide) (by decide)])
    generalize kq_M_put ν (nI 3) d (nI k) V = ω at h2 e02 hdz ⊢
    generalize kq_B_add κ (nI 3) (nI d) (nI k) V (κ 0 6) = κ2 at h2 ⊢
    obtain ⟨k1, k2⟩ := kr_take h2.1 h2.2 hd hk (by rw [hdz]; exact hz') ⟨v, v1, v2⟩
    refine ⟨Or.inl rfl, ?_, fun _ => k1, k2⟩
    split
    · exact e02
    · split
      · split
        · exact e02
        · exact (kc_up_nk (by decide)).trans ((kc_up_nk (by decide)).trans e02)
      · exact e02
theorem kr_fK_answer (κ : kc_Sg) (d k : Nat) (hd : d ≤ 7) : ∀ j, 38 ≤ j → kq_K_answer κ d k j = κ j := by
  intro j hj
  unfold kq_K_answer
  split
  · split
    · rfl
    · split
      · rfl
      · split
        · rfl
        · unfold kq_V_settle
          split
          · exact ke_addc (by omega) (by omega)
          · split
            · exact ke_addc (by omega) (by omega)
            · exact (kc_up_ne (by omega)).trans ((kc_up_ne (by omega)).trans (ke_addc (by omega) (by omega)))
  · rfl
theorem kr_tK_answer (κ : kc_Sg) (d k : Nat) : ¬ kt_K_answer κ d k = 0 → kq_K_answer κ d k = κ := by
  unfold kt_K_answer kq_K_answer
  intro h
  split
  · rename_i h1
    rw [if_pos h1] at h
    split
    · rfl
    · rename_i h2
      rw [if_neg h2] at h
      split
      · rfl
      · rename_i h3
        rw [if_neg h3] at h
        exfalso
        apply h
        split <;> rfl
  · rfl
theorem kr_fM_answer (μ : kc_Sg) (d k : Nat) : ∀ j, j < 38 ∨ j = 50 → kq_M_answer μ d k j = μ j := by
  intro j hj
  have h0 : kc_up (kc_up μ 38 0 (nI 0)) 38 0 (nI 0) j = μ j := (kc_up_ne (by omega)).trans (kc_up_ne (by omega))
  have hp : ∀ t d w v, kq_M_put (kc_up (kc_up μ 38 0 (nI 0)) 38 0 (nI 0)) t d w v j = μ j := fun t d w v => (ke_putc _ _ _ _ _ (by omega) (by omega)).trans h0
  unfold kq_M_answer
  generalize (if (μ 42 d) = (nI 5) then (kp_M_valueAt (kc_up (kc_up μ 38 0 (nI 0)) 38 0 (nI 0)) d (nI k)) else (kp_M_sent (kc_up (kc_up μ 38 0 (nI 0)) 38 0 (nI 0)) d (nI k))) = V
  split
  · exact (kc_up_ne (by omega)).trans h0
  · split
    · exact (kc_up_ne (by omega)).trans h0
    · split
      · exact h0
      · split
        · exact hp _ _ _ _
        · split
          · split
            · exact hp _ _ _ _
            · exact (kc_up_ne (by omega)).trans ((kc_up_ne (by omega)).trans (hp _ _ _ _))
          · exact hp _ _ _ _
end KR13
