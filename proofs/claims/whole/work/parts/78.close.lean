/-! the simulation: close -/
theorem kr_row' {F : Nat → kc_Sg → kc_Sg} {k : Nat} {ix : Nat → Nat} {g : kc_Sg → Nat → Int32} (r1 : ∀ i a, F i a k (ix i) = g a i) (r2 : ∀ i a x, x ≠ ix i → F i a k x = a k x) (inj : ∀ i j, i ≠ j → ix i ≠ ix j) (hg : ∀ i j a, i ≠ j → g (F j a) i = g a i) : ∀ n i0 σ, (∀ j, i0 ≤ j → j < i0 + n → kc_it F n i0 σ k (ix j) = g σ j) ∧ ∀ x, (∀ j, i0 ≤ j → j < i0 + n → x ≠ ix j) → kc_it F n i0 σ k x = σ k x := by
  intro n
  induction n with
  | zero =>
    intro i0 σ
    exact ⟨fun j h1 h2 => by omega, fun x _ => rfl⟩
  | succ n ih =>
    intro i0 σ
    obtain ⟨a, b⟩ := ih (i0 + 1) (F i0 σ)
    refine ⟨fun j h1 h2 => ?_, fun x hx => ?_⟩
    · show kc_it F n (i0 + 1) (F i0 σ) k (ix j) = g σ j
      by_cases h : j = i0
      · subst h
        rw [b (ix j) (fun e h3 h4 => inj j e (by omega)), r1]
      · rw [a j (by omega) (by omega), hg j i0 σ h]
    · show kc_it F n (i0 + 1) (F i0 σ) k x = σ k x
      rw [b x (fun j h3 h4 => hx j (by omega) (by omega)), r2 i0 σ x (hx i0 (Nat.le_refl _) (by omega))]
section KR14
variable {n p q d : Nat} {κ μ : kc_Sg}
theorem kr_acc1 : ∀ c i, (∀ j, i ≤ j → j < i + c → μ 47 (8 * d + j) = 0 ∨ ¬ μ 48 (8 * d + j) = 0) → kp_acc μ d c i = nI 1
  | 0, _, _ => rfl
  | c + 1, i, h => by
    show (if μ 47 (8 * d + i) = 0 then kp_acc μ d c (i + 1) else if μ 48 (8 * d + i) = 0 then nI 0 else kp_acc μ d c (i + 1)) = nI 1
    have ih := kr_acc1 c (i + 1) (fun j a b => h j (by omega) (by omega))
    rcases h i (Nat.le_refl _) (by omega) with h1 | h1
    · rw [if_pos h1, ih]
    · rw [if_neg h1, ih]
      split <;> rfl
theorem kr_acc0 : ∀ c i, (∃ j, i ≤ j ∧ j < i + c ∧ ¬ μ 47 (8 * d + j) = 0 ∧ μ 48 (8 * d + j) = 0) → kp_acc μ d c i = nI 0
  | 0, _, h => by
    obtain ⟨j, a, b, -⟩ := h
    omega
  | c + 1, i, h => by
    show (if μ 47 (8 * d + i) = 0 then kp_acc μ d c (i + 1) else if μ 48 (8 * d + i) = 0 then nI 0 else kp_acc μ d c (i + 1)) = nI 0
    obtain ⟨j, a, b, h1, h2⟩ := h
    by_cases hj : j = i
    · subst hj
      rw [if_neg h1, if_pos h2]
    · have ih := kr_acc0 c (i + 1) ⟨j, by omega, by omega, h1, h2⟩
      rw [ih]
      split
      · rfl
      · split <;> rfl
/-- a dealing is accepted alike -/
theorem kr_accept (hF : kr_F n q κ μ) (hd : 1 ≤ d ∧ d ≤ 7) : (¬ kp_K_isAmong (κ 3 8) (nI d) = 0 ∧ κ (22 + d) 0 = nI 1 ∧ κ 12 d = κ 13 d) ↔ ¬ kp_M_accepted μ d = 0 := by
  obtain ⟨s1, s2, s3, s4, s5⟩ := hF.2.2.2.2.2.2.2 d hd.1 hd.2
  obtain ⟨⟨a, a1, a2⟩, ⟨b, b1, b2⟩, s43⟩ := s4
  unfold kp_M_accepted
  rw [s3.2, a2, b2]
  by_cases hz : kp_M_dealer μ d = 0
  · rw [if_pos hz]
    exact ⟨fun h => absurd hz h.1, fun h => absurd kr_i0 h⟩
  · rw [if_neg hz]
    have hc : κ (22 + d) 0 = μ 45 (4 * d) := by
      rcases s5 with h | h
      · exact absurd (h.trans kr_i0) hz
      · exact h.2.1 0 (by decide)
    rw [hc]
    by_cases h1 : μ 45 (4 * d) = nI 1
    · rw [if_pos h1]
      have key : a = b ↔ ∀ j, 1 ≤ j → j < 1 + 7 → μ 47 (8 * d + j) = 0 ∨ ¬ μ 48 (8 * d + j) = 0 := by
        constructor
        · intro e j j1 j2
          obtain ⟨t1, t2, t3⟩ := s43 j j1 (by omega)
          rw [← t1, ← t2, a2, b2, e]
          by_cases h : kp_K_isAmong (nI b) (nI j) = 0
          · exact Or.inl h
          · exact Or.inr h
        · intro h
          refine km_ext a1 b1 (fun j j1 j2 => ?_)
          obtain ⟨t1, t2, t3⟩ := s43 j j1 j2
          have hA := km_bits a1 (d := j) ⟨j1, j2⟩
          have hB := km_bits b1 (d := j) ⟨j1, j2⟩
          have hj := h j j1 (by omega)
          rw [← t1, ← t2, a2, b2] at t3 hj
          cases ha : a.testBit (j - 1) with
          | false => exact (hB.1.mp (t3 (hA.1.mpr ha))).symm
          | true =>
            rcases hj with hj | hj
            · rw [hA.2.1.mp hj] at ha
              cases ha
            · cases hb : b.testBit (j - 1) with
              | false => exact absurd (hB.2.1.mpr hb) hj
              | true => rfl
      by_cases he : ∀ j, 1 ≤ j → j < 1 + 7 → μ 47 (8 * d + j) = 0 ∨ ¬ μ 48 (8 * d + j) = 0
      · rw [kr_acc1 7 1 he]
        exact ⟨fun _ => kr_i1, fun _ => ⟨hz, h1, by rw [key.mpr he]⟩⟩
      · have hex : ∃ j, 1 ≤ j ∧ j < 1 + 7 ∧ ¬ μ 47 (8 * d + j) = 0 ∧ μ 48 (8 * d + j) = 0 := Classical.byContradiction (fun z => he (fun j j1 j2 => Classical.byContradiction (fun y => z ⟨j, j1, j2, fun e => y (Or.inl e), Classical.byContradiction (fun x => y (Or.inr x))⟩)))
        rw [kr_acc0 7 1 hex]
        exact ⟨fun h => absurd (key.mp ((nI_eq (by omega) (by omega)).mp h.2.2)) he, fun h => absurd kr_i0 h⟩
    · rw [if_neg h1]
      exact ⟨fun h => absurd h.2.1 h1, fun h => absurd kr_i0 h⟩
/-- what both sides keep while dealings are taken over -/
def kr_J (q : Nat) (κ μ κ' μ' : kc_Sg) : Prop := (∀ j, j ≠ 4 → j ≠ 5 → κ' j = κ j) ∧ (∀ j, j ≠ 39 → j ≠ 41 → μ' j = μ j) ∧ (∀ j, j < 4 → κ' 5 j = μ' 41 j) ∧ ∀ s, 1 ≤ s → s ≤ 7 → kr_share q κ' μ' s
theorem kr_over (hg : kr_g κ μ p q) {κ' μ' : kc_Sg} (hJ : kr_J q κ μ κ' μ') (hd : 1 ≤ d ∧ d ≤ 7) (hdl : kr_deal q κ μ d) : kr_J q κ μ (kq_K_takeOver κ' d) (kc_it (kf_M_close_3 d) 4 0 (kc_it (kf_M_close_2 d) 7 1 μ')) := by
  obtain ⟨hq, hp, g1, g2, g3, g4, g5⟩ := hg
  obtain ⟨j1, j2, j3, j4⟩ := hJ
  have K1 := kr_row' (F := kf_K_takeOver_1 d) (k := 4) (ix := fun i => i) (g := fun a i => if kp_K_isWiped a i = 0 then kp_G_addNumbers a (a 4 i) (kp_V_hadFrom a d i) else a 4 i) (fun i a => by
    unfold kf_K_takeOver_1
    show (if kp_K_isWiped a i = 0 then _ else a) 4 i = if kp_K_isWiped a i = 0 then _ else _
    split
    · rw [kc_up_jj]
    · rfl) (fun i a x hx => by
    unfold kf_K_takeOver_1
    split
    · rw [kc_up_nj hx]
    · rfl) (fun i j h => h) (fun i j a hij => by
    show (if kp_K_isWiped (kf_K_takeOver_1 d j a) i = 0 then kp_G_addNumbers (kf_K_takeOver_1 d j a) (kf_K_takeOver_1 d j a 4 i) (kp_V_hadFrom (kf_K_takeOver_1 d j a) d i) else kf_K_takeOver_1 d j a 4 i) = if kp_K_isWiped a i = 0 then kp_G_addNumbers a (a 4 i) (kp_V_hadFrom a d i) else a 4 i
    unfold kf_K_takeOver_1
    split
    · unfold kp_K_isWiped kp_G_addNumbers kp_V_hadFrom
      rw [kc_up_nj hij, kc_up_ne (by decide : 1 ≠ 4), kc_up_ne (by omega : 30 + d ≠ 4)]
    · rfl) 7 1 κ'
  have c1 : ∀ j σ, j ≠ 4 → kc_it (kf_K_takeOver_1 d) 7 1 σ j = σ j := fun j σ hj => ke_it (fun i a => by
    unfold kf_K_takeOver_1
    split
    · rw [kc_up_ne hj]
    · rfl) 7 1 σ
  have K2 := kr_row' (F := kf_K_takeOver_2 d) (k := 5) (ix := fun i => i) (g := fun a i => kp_G_multiply a (a 5 i) (a (22 + d) i)) (fun i a => kc_up_jj) (fun i a x hx => kc_up_nj hx) (fun i j h => h) (fun i j a hij => by
    unfold kf_K_takeOver_2 kp_G_multiply
    rw [kc_up_nj hij, kc_up_ne (by decide : 1 ≠ 5), kc_up_ne (by omega : 22 + d ≠ 5)]) 4 0 (kc_it (kf_K_takeOver_1 d) 7 1 κ')
  have c2 : ∀ j σ, j ≠ 5 → kc_it (kf_K_takeOver_2 d) 4 0 σ j = σ j := fun j σ hj => ke_it (fun i a => by
    unfold kf_K_takeOver_2
    rw [kc_up_ne hj]) 4 0 σ
  have M1 := kr_row' (F := kf_M_close_2 d) (k := 39) (ix := fun i => i) (g := fun a i => kc_rem ((a 39 i) + (a 46 ((8 * d) + i))) (a 38 2)) (fun i a => kc_up_jj) (fun i a x hx => kc_up_nj hx) (fun i j h => h) (fun i j a hij => by
    unfold kf_M_close_2
    rw [kc_up_nj hij, kc_up_ne (by decide : 46 ≠ 39), kc_up_ne (by decide : 38 ≠ 39)]) 7 1 μ'
  have e1 : ∀ j σ, j ≠ 39 → kc_it (kf_M_close_2 d) 7 1 σ j = σ j := fun j σ hj => ke_it (fun i a => by
    unfold kf_M_close_2
    rw [kc_up_ne hj]) 7 1 σ
  have M2 := kr_row' (F := kf_M_close_3 d) (k := 41) (ix := fun i => i) (g := fun a i => Int64.toInt32 (kc_lrem ((Int32.toInt64 (a 41 i)) * (Int32.toInt64 (a 45 ((4 * d) + i)))) (Int32.toInt64 (a 38 1)))) (fun i a => kc_up_jj) (fun i a x hx => kc_up_nj hx) (fun i j h => h) (fun i j a hij => by
    unfold kf_M_close_3
    rw [kc_up_nj hij, kc_up_ne (by decide : 45 ≠ 41), kc_up_ne (by decide : 38 ≠ 41)]) 4 0 (kc_it (kf_M_close_2 d) 7 1 μ')
  have e2 : ∀ j σ, j ≠ 41 → kc_it (kf_M_close_3 d) 4 0 σ j = σ j := fun j σ hj => ke_it (fun i a => by
    unfold kf_M_close_3
    rw [kc_up_ne hj]) 4 0 σ
  unfold kq_K_takeOver
  refine ⟨fun j h4 h5 => ?_, fun j h39 h41 => ?_, fun j hj => ?_, fun s s1 s2 => ?_⟩
  · rw [c2 j _ h5, c1 j _ h4]
    exact j1 j h4 h5
  · rw [e2 j _ h41, e1 j _ h39]
    exact j2 j h39 h41
  · refine (K2.1 j (by omega) (by omega)).trans (Eq.trans ?_ (M2.1 j (by omega) (by omega)).symm)
    show kp_G_multiply (kc_it (kf_K_takeOver_1 d) 7 1 κ') (kc_it (kf_K_takeOver_1 d) 7 1 κ' 5 j) (kc_it (kf_K_takeOver_1 d) 7 1 κ' (22 + d) j) = _
    unfold kp_G_multiply
    rw [c1 1 _ (by decide), c1 5 _ (by decide), c1 (22 + d) _ (by omega), e1 41 _ (by decide), e1 45 _ (by decide), e1 38 _ (by decide), j1 1 (by decide) (by decide), j1 (22 + d) (by omega) (by omega), j2 45 (by decide) (by decide), j2 38 (by decide) (by decide), j3 j hj, hdl.2.1 j hj, g1, g3]
  · have hk : kc_it (kf_K_takeOver_2 d) 4 0 (kc_it (kf_K_takeOver_1 d) 7 1 κ') 4 s = if kp_K_isWiped κ' s = 0 then kp_G_addNumbers κ' (κ' 4 s) (kp_V_hadFrom κ' d s) else κ' 4 s := by
      rw [c2 4 _ (by decide)]
      exact K1.1 s s1 (by omega)
    have hm : kc_it (kf_M_close_3 d) 4 0 (kc_it (kf_M_close_2 d) 7 1 μ') 39 s = kc_rem (μ' 39 s + μ' 46 (8 * d + s)) (μ' 38 2) := by
      rw [e2 39 _ (by decide)]
      exact M1.1 s s1 (by omega)
    have h40 : kc_it (kf_M_close_3 d) 4 0 (kc_it (kf_M_close_2 d) 7 1 μ') 40 = μ' 40 := by
      rw [e2 40 _ (by decide), e1 40 _ (by decide)]
    unfold kr_share
    rw [hk, hm, h40]
    rcases kr_wiped hq (j4 s s1 s2) with ⟨a1, a2, a3, v, a4, a5⟩ | ⟨a1, a2, a3⟩
    · obtain ⟨h1, h, h2, h3⟩ := hdl.2.2 s s1 s2
      left
      refine ⟨a1, ?_, ?_⟩
      · unfold kp_V_hadFrom
        rw [a2, if_pos kr_i0, a3, a5, j1 (30 + d) (by omega) (by omega), h1, j2 46 (by decide) (by decide), h3, j2 38 (by decide) (by decide), g4, kr_addN (κ := κ') (q := q) (by rw [j1 1 (by decide) (by decide)]; exact g2) (by omega) (by omega) (by omega), nI_add, kp_remN (by omega) (by omega) (by omega)]
      · rw [a5, j2 46 (by decide) (by decide), h3, j2 38 (by decide) (by decide), g4, nI_add, kp_remN (by omega) (by omega) (by omega)]
        exact ⟨_, Nat.mod_lt _ (by omega), rfl⟩
    · right
      rw [a2, if_neg kr_i1]
      exact ⟨a1, a3⟩
theorem ke_accepted {σ τ : kc_Sg} (h42 : τ 42 = σ 42) (h43 : τ 43 = σ 43) (h45 : τ 45 = σ 45) (h47 : τ 47 = σ 47) (h48 : τ 48 = σ 48) : kp_M_accepted τ d = kp_M_accepted σ d := by
  have e : ∀ c i, kp_acc τ d c i = kp_acc σ d c i := by
    intro c
    induction c with
    | zero =>
      intro i
      rfl
    | succ c ih =>
      intro i
      show (if τ 47 (8 * d + i) = 0 then kp_acc τ d c (i + 1) else if τ 48 (8 * d + i) = 0 then nI 0 else kp_acc τ d c (i + 1)) = (if σ 47 (8 * d + i) = 0 then kp_acc σ d c (i + 1) else if σ 48 (8 * d + i) = 0 then nI 0 else kp_acc σ d c (i + 1))
      rw [h47, h48, ih]
  unfold kp_M_accepted
  rw [kr_dealer.c (by rw [h43]) (by rw [h42]), h45, e]
theorem kr_takeAll (hg : kr_g κ μ p q) (hF : kr_F n q κ μ) {m : Nat} (hm : m < 128) (hb : ∀ d, 1 ≤ d → d ≤ 7 → m.testBit (d - 1) = decide (¬ kp_M_accepted μ d = 0)) (hk : kp_V_accepted κ = nI m) : ∀ c i κ' μ' a, 1 ≤ i → i + c = 8 → kr_J q κ μ κ' μ' → kr_J q κ μ (kc_it (kf_K_close_1 κ) c i κ') (kc_it kf_M_close_1 c i (a, μ')).2 ∧ (kc_it kf_M_close_1 c i (a, μ')).1 = kc_it (fun i z => if decide (¬ kp_M_accepted μ i = 0) = true then z ||| kp_K_bit (nI i) else z) c i a := by
  intro c
  induction c with
  | zero =>
    intro i κ' μ' a _ _ hJ
    exact ⟨hJ, rfl⟩
  | succ c ih =>
    intro i κ' μ' a i1 i2 hJ
    have hac : kp_M_accepted μ' i = kp_M_accepted μ i := ke_accepted (hJ.2.1 42 (by decide) (by decide)) (hJ.2.1 43 (by decide) (by decide)) (hJ.2.1 45 (by decide) (by decide)) (hJ.2.1 47 (by decide) (by decide)) (hJ.2.1 48 (by decide) (by decide))
    have hbb := km_bits hm (d := i) ⟨i1, by omega⟩
    show kr_J q κ μ (kc_it (kf_K_close_1 κ) c (i + 1) (kf_K_close_1 κ i κ')) (kc_it kf_M_close_1 c (i + 1) (kf_M_close_1 i (a, μ'))).2 ∧ (kc_it kf_M_close_1 c (i + 1) (kf_M_close_1 i (a, μ'))).1 = kc_it (fun i z => if decide (¬ kp_M_accepted μ i = 0) = true then z ||| kp_K_bit (nI i) else z) c (i + 1) (if decide (¬ kp_M_accepted μ i = 0) = true then a ||| kp_K_bit (nI i) else a)
    by_cases h : kp_M_accepted μ i = 0
    · have hf : m.testBit (i - 1) = false := by
        rw [hb i i1 (by omega), h]
        decide
      rw [show kf_K_close_1 κ i κ' = κ' by unfold kf_K_close_1; rw [hk, if_pos (hbb.2.1.mpr hf)], show kf_M_close_1 i (a, μ') = (a, μ') by unfold kf_M_close_1; rw [show ((a, μ') : Int32 × kc_Sg).2 = μ' from rfl, hac, if_pos h], if_neg (by simp [h])]
      exact ih (i + 1) κ' μ' a (by omega) (by omega) hJ
    · have ht : m.testBit (i - 1) = true := by
        rw [hb i i1 (by omega)]
        exact decide_eq_true h
      rw [show kf_K_close_1 κ i κ' = kq_K_takeOver κ' i by unfold kf_K_close_1; rw [hk, if_neg (fun e => by rw [hbb.2.1.mp e] at ht; cases ht)], show kf_M_close_1 i (a, μ') = (a ||| kp_K_bit (nI i), kc_it (kf_M_close_3 i) 4 0 (kc_it (kf_M_close_2 i) 7 1 μ')) by unfold kf_M_close_1; rw [show ((a, μ') : Int32 × kc_Sg).2 = μ' from rfl, hac, if_neg h]; rfl, if_pos (decide_eq_true h)]
      have hdl : kr_deal q κ μ i := by
        rcases (hF.2.2.2.2.2.2.2 i i1 (by omega)).2.2.2.2 with z | z
        · refine absurd ?_ h
          unfold kp_M_accepted
          rw [z, if_pos kr_i0]
          exact kr_i0
        · exact z
      exact ih (i + 1) _ _ _ (by omega) (by omega) (kr_over hg hJ ⟨i1, by omega⟩ hdl)
theorem kr_close (hg : kr_g κ μ p q) (hF : kr_F n q κ μ) : kp_V_accepted κ = (kc_it kf_M_close_1 7 1 (nI 0, μ)).1 ∧ kr_Q (n + 1) (kc_up (kq_V_begin (kc_it (kf_K_close_1 κ) 7 1 κ)) 0 6 ((kq_V_begin (kc_it (kf_K_close_1 κ) 7 1 κ)) 0 6 + nI 1)) (kq_M_newWeek (kc_it kf_M_close_1 7 1 (nI 0, μ)).2) ∧ (kq_M_newWeek (kc_it kf_M_close_1 7 1 (nI 0, μ)).2) 38 0 = μ 38 0 := by
  obtain ⟨m, m1, m2, m3⟩ : ∃ m, m < 128 ∧ kp_V_accepted κ = nI m ∧ ∀ d, 1 ≤ d → d ≤ 7 → m.testBit (d - 1) = decide (¬ kp_M_accepted μ d = 0) := by
    refine km_it (f := kf_V_accepted_1 κ) (b := fun d => decide (¬ kp_M_accepted μ d = 0)) (fun i i1 i2 a => ?_)
    have hA := kr_accept hF ⟨i1, i2⟩
    unfold kf_V_accepted_1
    by_cases h : kp_M_accepted μ i = 0
    · have hdec : ¬ (decide (¬ kp_M_accepted μ i = 0) = true) := by simp [h]
      rw [if_neg hdec]
      by_cases x1 : kp_K_isAmong (κ 3 8) (nI i) = 0
      · rw [if_pos x1]
      · rw [if_neg x1]
        by_cases x2 : κ (22 + i) 0 = nI 1
        · rw [if_pos x2]
          by_cases x3 : κ 12 i = κ 13 i
          · exact absurd h (hA.mp ⟨x1, x2, x3⟩)
          · rw [if_neg x3]
        · rw [if_neg x2]
    · obtain ⟨x1, x2, x3⟩ := hA.mpr h
      rw [if_neg x1, if_pos x2, if_pos x3, if_pos (decide_eq_true h)]
  have hJ0 : kr_J q κ μ κ μ := ⟨fun _ _ _ => rfl, fun _ _ _ => rfl, hF.2.2.2.1, fun s a b => (hF.2.2.2.2.2.2.2 s a b).2.1⟩
  obtain ⟨hJ, hmask⟩ := kr_takeAll hg hF m1 m3 m2 7 1 κ μ (nI 0) (Nat.le_refl _) rfl hJ0
  obtain ⟨m', d1, d2, d3⟩ := km_it (f := fun i z => if decide (¬ kp_M_accepted μ i = 0) = true then z ||| kp_K_bit (nI i) else z) (b := fun d => decide (¬ kp_M_accepted μ d = 0)) (fun i i1 i2 a => rfl)
  refine ⟨by rw [m2, hmask, d2]; exact kr_masks m1 d1 m3 d3, ?_⟩
  generalize (kc_it kf_M_close_1 7 1 (nI 0, μ)).2 = ω at hJ ⊢
  generalize kc_it (kf_K_close_1 κ) 7 1 κ = χ at hJ ⊢
  obtain ⟨j1, j2, j3, j4⟩ := hJ
  obtain ⟨w1, w2, w3, w4⟩ := kr_newWeek ω
  obtain ⟨b1, b2, b3⟩ := kr_begin (σ := χ)
  have eM : ∀ j, j ≠ 38 → j ≠ 42 → j ≠ 43 → j ≠ 47 → j ≠ 48 → kq_M_newWeek ω j = ω j := w4
  have eK : ∀ j, j ≠ 0 → j ≠ 3 → j ≠ 8 → j ≠ 12 → j ≠ 13 → kc_up (kq_V_begin χ) 0 6 (kq_V_begin χ 0 6 + nI 1) j = χ j := fun j h0 h3 h8 h12 h13 => by
    rw [kc_up_ne h0, kr_beginC h3 h8 h12 h13]
  have e06 : kc_up (kq_V_begin χ) 0 6 (kq_V_begin χ 0 6 + nI 1) 0 6 = κ 0 6 + nI 1 := by
    rw [kc_up_jj, kr_beginC (by decide) (by decide) (by decide) (by decide), j1 0 (by decide) (by decide)]
  have hk8 : (∀ i, i < 8 → kc_up (kq_V_begin χ) 0 6 (kq_V_begin χ 0 6 + nI 1) 8 i = nI 0 ∧ kc_up (kq_V_begin χ) 0 6 (kq_V_begin χ 0 6 + nI 1) 12 i = nI 0 ∧ kc_up (kq_V_begin χ) 0 6 (kq_V_begin χ 0 6 + nI 1) 13 i = nI 0) ∧ kc_up (kq_V_begin χ) 0 6 (kq_V_begin χ 0 6 + nI 1) 3 7 = nI 0 ∧ kc_up (kq_V_begin χ) 0 6 (kq_V_begin χ 0 6 + nI 1) 3 8 = nI 0 := by
    rw [kc_up_ne (by decide : 8 ≠ 0), kc_up_ne (by decide : 12 ≠ 0), kc_up_ne (by decide : 13 ≠ 0), kc_up_ne (by decide : 3 ≠ 0)]
    exact ⟨b1, b2, b3⟩
  generalize kc_up (kq_V_begin χ) 0 6 (kq_V_begin χ 0 6 + nI 1) = κ' at eK e06 hk8 ⊢
  generalize kq_M_newWeek ω = μ' at w1 w2 w3 eM ⊢
  have e38 : ∀ i, i ≠ 5 → μ' 38 i = μ 38 i := fun i hi => by rw [w3 i hi, j2 38 (by decide) (by decide)]
  refine ⟨?_, e38 0 (by decide)⟩
  obtain ⟨⟨w, v1, v2, v3, v4⟩, a2, a3, a4, a5, a6, a7, a8⟩ := hF
  refine kr_N (p := p) (q := q) ?_ ⟨⟨w + 1, by omega, by omega, ?_, ?_⟩, by rw [e38 4 (by decide)]; exact a2, a3.c (by rw [eK 2 (by decide) (by decide) (by decide) (by decide) (by decide), j1 2 (by decide) (by decide)]) (e38 16 (by decide)) (by rw [eK 7 (by decide) (by decide) (by decide) (by decide) (by decide), j1 7 (by decide) (by decide)]) (by rw [eM 49 (by decide) (by decide) (by decide) (by decide) (by decide), j2 49 (by decide) (by decide)]), fun i hi => ?_, ⟨0, by decide, hk8.2.1⟩, ⟨0, by decide, hk8.2.2⟩, fun i hi _ => w1.2 i hi, fun f f1 f2 => ?_⟩
  · unfold kr_g at hg ⊢
    rw [eK 1 (by decide) (by decide) (by decide) (by decide) (by decide), j1 1 (by decide) (by decide), e38 1 (by decide), e38 2 (by decide), e38 3 (by decide)]
    exact hg
  · rw [e06, v3, nI_add]
  · rw [w2, j2 38 (by decide) (by decide), v4, nI_add]
  · rw [eK 5 (by decide) (by decide) (by decide) (by decide) (by decide), eM 41 (by decide) (by decide) (by decide) (by decide) (by decide)]
    exact j3 i hi
  · obtain ⟨k1, k2, k3, k4⟩ := kr_fresh hk8 w1 ⟨f1, f2⟩
    exact ⟨k1, (j4 f f1 f2).c (by rw [eK 4 (by decide) (by decide) (by decide) (by decide) (by decide)]) (by rw [eM 39 (by decide) (by decide) (by decide) (by decide) (by decide)]) (by rw [eM 40 (by decide) (by decide) (by decide) (by decide) (by decide)]), k2, k3, Or.inl k4⟩
theorem kr_z_close (h : kr_Q n κ μ) (hn : n < 512) (hz : μ 38 4 = 0) : (kt_K_close κ = 0 ∨ kt_K_close κ = 1) ∧ (kq_M_close_z μ) 38 0 = kw_c_close (kt_K_close κ) ∧ (kt_K_close κ = 0 → kp_K_close κ = kp_M_close_z) ∧ kr_Q (n + 1) (kq_K_close κ) (kq_M_close_z μ) := by
  rcases kr_fd h hn with ⟨hb, hf⟩ | ⟨-, h4, -⟩
  · unfold kt_K_close kq_K_close
    rw [if_neg (by rw [hf]; decide), if_neg (by rw [hf]; decide), hf]
    exact ⟨Or.inr rfl, kc_up_jj, fun e => absurd e (by decide), h.thr _⟩
  · exact absurd hz h4
theorem kr_m_close (h : kr_Q n κ μ) (hn : n < 512) (hz : ¬ μ 38 4 = 0) : (kt_K_close κ = 0 ∨ kt_K_close κ = 1) ∧ (kq_M_close μ) 38 0 = kw_c_close (kt_K_close κ) ∧ (kt_K_close κ = 0 → kp_K_close κ = kp_M_close μ) ∧ kr_Q (n + 1) (kq_K_close κ) (kq_M_close μ) := by
  rcases kr_fd h hn with ⟨hb, -⟩ | ⟨hf, -, p, q, hg, hF⟩
  · exact absurd hb.2.2.2.2.2.1 hz
  · obtain ⟨c1, c2, c3⟩ := kr_close (hg.congr kr_eqK.rf (kr_thr μ (nI 0))) (hF.congr kr_eqK.rf (kr_thr μ (nI 0)))
    unfold kt_K_close kq_K_close kp_K_close kq_M_close kp_M_close
    rw [if_pos hf, if_pos hf, if_pos hf]
    refine ⟨Or.inl rfl, ?_, fun _ => c1, c2⟩
    rw [c3, kc_up_jj]
    rfl
theorem kr_fM_close_z (μ : kc_Sg) : ∀ j, j < 38 ∨ j = 50 → kq_M_close_z μ j = μ j := fun j hj => kc_up_ne (by omega)
theorem kr_cl1 {j : Nat} (h39 : j ≠ 39) (h41 : j ≠ 41) : ∀ c i (a : Int32 × kc_Sg), (kc_it kf_M_close_1 c i a).2 j = a.2 j := by
  intro c
  induction c with
  | zero =>
    intro i a
    rfl
  | succ c ih =>
    intro i a
    show (kc_it kf_M_close_1 c (i + 1) (kf_M_close_1 i a)).2 j = a.2 j
    rw [ih]
    unfold kf_M_close_1
    split
    · rfl
    · show kc_it (kf_M_close_3 i) 4 0 (kc_it (kf_M_close_2 i) 7 1 a.2) j = a.2 j
      rw [ke_it (fun i s => by unfold kf_M_close_3; rw [kc_up_ne h41]) 4 0, ke_it (fun i s => by unfold kf_M_close_2; rw [kc_up_ne h39]) 7 1]
theorem kr_fM_close (μ : kc_Sg) : ∀ j, j < 38 ∨ j = 50 → kq_M_close μ j = μ j := by
  intro j hj
  unfold kq_M_close
  rw [(kr_newWeek _).2.2.2 j (by omega) (by omega) (by omega) (by omega) (by omega), kr_cl1 (by omega) (by omega)]
  exact kc_up_ne (by omega)
theorem kr_fK_close (κ : kc_Sg) : ∀ j, 38 ≤ j → kq_K_close κ j = κ j := by
  intro j hj
  unfold kq_K_close
  split
  · rw [kc_up_ne (by omega), kr_beginC (by omega) (by omega) (by omega) (by omega), ke_it (fun i s => by
      unfold kf_K_close_1
      split
      · rfl
      · exact ke_takeOver (by omega) (by omega)) 7 1]
  · rfl
theorem kr_tK_close (κ : kc_Sg) : ¬ kt_K_close κ = 0 → kq_K_close κ = κ := by
  unfold kt_K_close kq_K_close
  intro h
  split
  · rename_i h1
    rw [if_pos h1] at h
    exact absurd rfl h
  · rfl
end KR14
