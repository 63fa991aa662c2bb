/-! the simulation: answer -/
section KR12
variable {n p q d : Nat} {κ μ : kc_Sg}
theorem kr_putP {t w v : Int32} (hF : kr_F n q κ μ) (hr : ¬ μ 38 16 = nI 250) : ∀ i, i ≠ 16 → kq_M_put μ t d w v 38 i = μ 38 i := by
  obtain ⟨s, s1, s2, s3, s4⟩ := hF.2.2.1
  have hs : s < 250 := by
    by_cases h : s = 250
    · rw [h] at s3
      exact absurd s3 hr
    · omega
  exact (kr_putM s3 hs).2.2.2.2.2.2.2.2
/-- one more row on both boards -/
theorem kr_addF (hg : kr_g κ μ p q) (hF : kr_F n q κ μ) (hr : ¬ μ 38 16 = nI 250) {t w v u : Int32} (ht : ¬ t = nI 1) (hu : u = μ 38 5) : kr_g (kq_B_add κ t (nI d) w v u) (kq_M_put μ t d w v) p q ∧ kr_F n q (kq_B_add κ t (nI d) w v u) (kq_M_put μ t d w v) := by
  have hbd := kr_postB (d := d) (w := w) (v := v) hF.2.2.1 hr ht hu
  have h38 := kr_putP (d := d) (t := t) (w := w) (v := v) hF hr
  have eK : ∀ j, j ≠ 2 → j ≠ 7 → kq_B_add κ t (nI d) w v u j = κ j := fun j a b => ke_addc a b
  have eM : ∀ j, j ≠ 38 → j ≠ 49 → kq_M_put μ t d w v j = μ j := fun j a b => ke_putc μ t d w v a b
  generalize kq_B_add κ t (nI d) w v u = κ' at hbd eK ⊢
  generalize kq_M_put μ t d w v = μ' at hbd h38 eM ⊢
  obtain ⟨a1, a2, a3, a4, a5, a6, a7, a8⟩ := hF
  refine ⟨?_, a1.c (by rw [eK 0 (by decide) (by decide)]) (h38 5 (by decide)), by rw [h38 4 (by decide)]; exact a2, hbd, fun i hi => ?_, by rw [eK 3 (by decide) (by decide)]; exact a5, by rw [eK 3 (by decide) (by decide)]; exact a6, a7.c (eM 47 (by decide) (by decide)) (eM 48 (by decide) (by decide)), fun f f1 f2 => ?_⟩
  · unfold kr_g at hg ⊢
    rw [eK 1 (by decide) (by decide), h38 1 (by decide), h38 2 (by decide), h38 3 (by decide)]
    exact hg
  · rw [eK 5 (by decide) (by decide), eM 41 (by decide) (by decide)]
    exact a4 i hi
  · obtain ⟨s1, s2, s3, s4, s5⟩ := a8 f f1 f2
    have hz : kp_M_dealer μ' f = kp_M_dealer μ f := kr_dealer.c (by rw [eM 43 (by decide) (by decide)]) (by rw [eM 42 (by decide) (by decide)])
    refine ⟨s1.c (by rw [eK 8 (by decide) (by decide)]) (by rw [eM 42 (by decide) (by decide)]), s2.c (by rw [eK 4 (by decide) (by decide)]) (by rw [eM 39 (by decide) (by decide)]) (by rw [eM 40 (by decide) (by decide)]), s3.c (by rw [eK 3 (by decide) (by decide)]) (by rw [eK 3 (by decide) (by decide)]) (by rw [eM 43 (by decide) (by decide)]) (by rw [eM 42 (by decide) (by decide)]), s4.c (by rw [eK 12 (by decide) (by decide)]) (by rw [eK 13 (by decide) (by decide)]) (fun k _ _ => ⟨by rw [eM 47 (by decide) (by decide)], by rw [eM 48 (by decide) (by decide)]⟩), ?_⟩
    rw [hz]
    exact s5.imp (fun h => h) (fun h => h.c (eK _ (by omega) (by omega)) (eK _ (by omega) (by omega)) (eK _ (by omega) (by omega)) (fun i hi => ⟨by rw [eM 44 (by decide) (by decide)], by rw [eM 45 (by decide) (by decide)]⟩) (fun k _ _ => by rw [eM 46 (by decide) (by decide)]))
/-- an answer is taken -/
theorem kr_settled (hg : kr_g κ μ p q) (hF : kr_F n q κ μ) (hd : 1 ≤ d ∧ d ≤ 7) {k : Nat} (hk : 1 ≤ k ∧ k ≤ 7) {v : Int32} (hv : kr_num q v) (h47 : ¬ μ 47 (8 * d + k) = nI 0) (hdl : ¬ kp_M_dealer μ d = nI 0) : kr_g (kc_up (kc_up κ 13 d (κ 13 d ||| kp_K_bit (nI k))) (30 + d) k v) (kc_up (kc_up μ 48 (8 * d + k) (nI 1)) 46 (8 * d + k) v) p q ∧ kr_F n q (kc_up (kc_up κ 13 d (κ 13 d ||| kp_K_bit (nI k))) (30 + d) k v) (kc_up (kc_up μ 48 (8 * d + k) (nI 1)) 46 (8 * d + k) v) := by
  have eK : ∀ j, j ≠ 13 → j ≠ 30 + d → kc_up (kc_up κ 13 d (κ 13 d ||| kp_K_bit (nI k))) (30 + d) k v j = κ j := fun j a b => (kc_up_ne b).trans (kc_up_ne a)
  have eM : ∀ j, j ≠ 48 → j ≠ 46 → kc_up (kc_up μ 48 (8 * d + k) (nI 1)) 46 (8 * d + k) v j = μ j := fun j a b => (kc_up_ne b).trans (kc_up_ne a)
  have e13 : ∀ f, kc_up (kc_up κ 13 d (κ 13 d ||| kp_K_bit (nI k))) (30 + d) k v 13 f = if f = d then κ 13 d ||| kp_K_bit (nI k) else κ 13 f := fun f => by
    rw [kc_up_ne (by omega), kr_uu]
  have e30 : kc_up (kc_up κ 13 d (κ 13 d ||| kp_K_bit (nI k))) (30 + d) k v (30 + d) k = v := kc_up_jj
  have e30n : ∀ x, x ≠ k → kc_up (kc_up κ 13 d (κ 13 d ||| kp_K_bit (nI k))) (30 + d) k v (30 + d) x = κ (30 + d) x := fun x hx => by
    rw [kc_up_nj hx, kc_up_ne (by omega)]
  have e48 : ∀ x, kc_up (kc_up μ 48 (8 * d + k) (nI 1)) 46 (8 * d + k) v 48 x = if x = 8 * d + k then nI 1 else μ 48 x := fun x => by
    rw [kc_up_ne (by decide), kr_uu]
  have e46 : ∀ x, kc_up (kc_up μ 48 (8 * d + k) (nI 1)) 46 (8 * d + k) v 46 x = if x = 8 * d + k then v else μ 46 x := fun x => by
    rw [kr_uu, kc_up_ne (by decide : 46 ≠ 48)]
  generalize kc_up (kc_up κ 13 d (κ 13 d ||| kp_K_bit (nI k))) (30 + d) k v = κ' at eK e13 e30 e30n ⊢
  generalize kc_up (kc_up μ 48 (8 * d + k) (nI 1)) 46 (8 * d + k) v = μ' at eM e48 e46 ⊢
  obtain ⟨a1, a2, a3, a4, a5, a6, a7, a8⟩ := hF
  refine ⟨?_, a1.c (by rw [eK 0 (by decide) (by omega)]) (by rw [eM 38 (by decide) (by decide)]), by rw [eM 38 (by decide) (by decide)]; exact a2, a3.c (by rw [eK 2 (by decide) (by omega)]) (by rw [eM 38 (by decide) (by decide)]) (eK 7 (by decide) (by omega)) (eM 49 (by decide) (by decide)), fun i hi => ?_, by rw [eK 3 (by decide) (by omega)]; exact a5, by rw [eK 3 (by decide) (by omega)]; exact a6, fun i hi h8 => ?_, fun f f1 f2 => ?_⟩
  · unfold kr_g at hg ⊢
    rw [eK 1 (by decide) (by omega), eM 38 (by decide) (by decide)]
    exact hg
  · rw [eK 5 (by decide) (by omega), eM 41 (by decide) (by decide)]
    exact a4 i hi
  · rw [eM 47 (by decide) (by decide), e48 i, if_neg (by omega)]
    exact a7 i hi h8
  · obtain ⟨s1, s2, s3, s4, s5⟩ := a8 f f1 f2
    have hz : kp_M_dealer μ' f = kp_M_dealer μ f := kr_dealer.c (by rw [eM 43 (by decide) (by decide)]) (by rw [eM 42 (by decide) (by decide)])
    refine ⟨s1.c (by rw [eK 8 (by decide) (by omega)]) (by rw [eM 42 (by decide) (by decide)]), s2.c (by rw [eK 4 (by decide) (by omega)]) (by rw [eM 39 (by decide) (by decide)]) (by rw [eM 40 (by decide) (by decide)]), s3.c (by rw [eK 3 (by decide) (by omega)]) (by rw [eK 3 (by decide) (by omega)]) (by rw [eM 43 (by decide) (by decide)]) (by rw [eM 42 (by decide) (by decide)]), ?_, ?_⟩
    · by_cases h : f = d
      · subst h
        obtain ⟨c1, ⟨m, m1, m2⟩, c3⟩ := s4
        refine ⟨by rw [eK 12 (by decide) (by omega)]; exact c1, ⟨m ||| 2 ^ (k - 1), km_orlt m1 hk.2 hk.1, by rw [e13, if_pos rfl, m2, km_or m m1 k (by omega) hk.1]⟩, fun x x1 x2 => ?_⟩
        obtain ⟨t1, t2, t3⟩ := c3 x x1 x2
        rw [eK 12 (by decide) (by omega), e13, if_pos rfl, m2, kr_orAmong m1 hk ⟨x1, x2⟩, eM 47 (by decide) (by decide), e48]
        by_cases hx : x = k
        · subst hx
          rw [if_pos rfl, if_pos rfl]
          exact ⟨t1, rfl, fun h => absurd h h47⟩
        · rw [if_neg hx, if_neg (by omega), ← m2]
          exact ⟨t1, t2, t3⟩
      · exact s4.c (by rw [eK 12 (by decide) (by omega)]) (by rw [e13, if_neg h]) (fun x x1 x2 => ⟨by rw [eM 47 (by decide) (by decide)], by rw [e48, if_neg (by omega)]⟩)
    · rw [hz]
      refine s5.imp (fun h => h) (fun hh => ?_)
      by_cases h : f = d
      · subst h
        obtain ⟨c1, c2, c3⟩ := hh
        refine ⟨fun i hi => ?_, fun i hi => ?_, fun x x1 x2 => ?_⟩
        · rw [eK (14 + f) (by omega) (by omega), eM 44 (by decide) (by decide)]
          exact c1 i hi
        · rw [eK (22 + f) (by omega) (by omega), eM 45 (by decide) (by decide)]
          exact c2 i hi
        · rw [e46]
          by_cases hx : x = k
          · subst hx
            rw [if_pos rfl, e30]
            exact ⟨rfl, hv⟩
          · rw [if_neg (by omega), e30n x hx]
            exact c3 x x1 x2
      · exact hh.c (eK _ (by omega) (by omega)) (eK _ (by omega) (by omega)) (eK _ (by omega) (by omega)) (fun i hi => ⟨by rw [eM 44 (by decide) (by decide)], by rw [eM 45 (by decide) (by decide)]⟩) (fun x x1 x2 => by rw [e46, if_neg (by omega)])
theorem kr_open {a b k : Nat} (ha : a < 128) (hb : b < 128) (hk : 1 ≤ k ∧ k ≤ 7) : kp_K_isAmong (nI a &&& (nI b ^^^ (-1))) (nI k) = if b.testBit (k - 1) = true then nI 0 else kp_K_isAmong (nI a) (nI k) := by
  unfold kp_K_isAmong
  rw [Int32.and_assoc, km_not b hb k (by omega) hk.1]
  cases b.testBit (k - 1)
  · rw [if_neg Bool.false_ne_true, if_neg Bool.false_ne_true]
  · rw [if_pos (rfl : true = true), if_pos (rfl : true = true), Int32.and_zero, if_pos rfl]
/-- what the dealer shows -/
theorem kr_shown (hg : kr_g κ μ p q) (hF : kr_F n q κ μ) (hd : 1 ≤ d ∧ d ≤ 7) {k : Nat} (hk : 1 ≤ k ∧ k ≤ 7) (hdl : kr_deal q κ μ d) (h6 : ¬ μ 42 d = nI 6) : kp_V_shownBy κ d k = (if μ 42 d = nI 5 then kp_M_valueAt μ d (nI k) else kp_M_sent μ d (nI k)) ∧ kr_num q (kp_V_shownBy κ d k) := by
  obtain ⟨hq, hp, g1, g2, g3, g4, g5⟩ := hg
  have ek : κ 8 d = μ 42 d := by
    obtain ⟨j, -, e1, e2⟩ := (hF.2.2.2.2.2.2.2 d hd.1 hd.2).1
    rw [e1, e2]
  have hv := kr_valueAt (k := 14 + d) (r := d) hq g2 g4 hk.2 hdl.1
  have hs := kr_sent (d := d) (k := k) hq g2 g4 hv.1 (by rw [hv.1]; exact hv.2) ek
  unfold kp_V_shownBy kp_V_rightShare
  rw [ek, if_neg h6]
  by_cases h2 : μ 42 d = nI 2
  · rw [if_pos h2, if_neg (show ¬ μ 42 d = nI 5 by rw [h2]; decide +kernel), hs.1]
    exact ⟨rfl, hs.2⟩
  · rw [if_neg h2]
    by_cases h5 : μ 42 d = nI 5
    · rw [if_pos h5, hv.1]
      exact ⟨rfl, hv.2⟩
    · rw [if_neg h5]
      have e0 : kp_V_isCheated κ d k = 0 := by
        unfold kp_V_isCheated
        rw [ek, if_neg h2, if_neg h5, if_neg h6]
        split <;> exact kr_i0
      rw [if_pos e0] at hs
      rw [hs.1]
      exact ⟨rfl, hs.2⟩
end KR12
