/-! the simulation: recover, reconstruct -/
section KR9
variable {n p q d : Nat} {κ μ : kc_Sg}
theorem kr_soundMask : ∃ m, m < 128 ∧ kp_K_sound κ = nI m ∧ ∀ d, 1 ≤ d → d ≤ 7 → m.testBit (d - 1) = decide (¬ kp_K_isSound κ d = 0) := by
  refine km_it (f := kf_K_sound_1 κ) (b := fun d => decide (¬ kp_K_isSound κ d = 0)) (fun i h1 h2 a => ?_)
  unfold kf_K_sound_1
  by_cases h : kp_K_isSound κ i = 0
  · rw [if_pos h, if_neg (by simp [h])]
  · rw [if_neg h, if_pos (by simp [h])]
theorem kr_soundOpen (hg : kr_g κ μ p q) (hF : kr_F n q κ μ) (hd : 1 ≤ d ∧ d ≤ 7) (h : ¬ kp_K_isSound κ d = 0) : κ 4 d = μ 39 d ∧ kr_num q (μ 39 d) := by
  rcases kr_wiped hg.1 (hF.2.2.2.2.2.2.2 d hd.1 hd.2).2.1 with ⟨h1, h2, h3, h4⟩ | ⟨h1, h2, h3⟩
  · exact ⟨h3, h4⟩
  · refine absurd ?_ h
    unfold kp_K_isSound
    rw [h2, if_neg kr_i1]
    exact kr_i0
theorem kr_sub {a b i : Nat} (h : a &&& b = a) (hi : a.testBit i = true) : b.testBit i = true := by
  rw [← h, Nat.testBit_and] at hi
  cases hb : b.testBit i
  · rw [hb] at hi
    simp at hi
  · rfl
theorem kr_m_recover (hg : kr_g κ μ p q) (hF : kr_F n q κ μ) (hf : kt_K_requireFounded κ = 0) (hd : 1 ≤ d ∧ d ≤ 7) : (kt_K_recover κ d = 0 ∨ kt_K_recover κ d = 4) ∧ (kq_M_recover μ d) 38 0 = kw_c_recover (kt_K_recover κ d) ∧ (kt_K_recover κ d = 0 → kp_K_recover κ d = kp_M_recover μ d) ∧ kr_Q (n + 1) (kq_K_recover κ d) (kq_M_recover μ d) := by
  have hT : ∀ x, kr_Q (n + 1) κ (kc_up (kc_up μ 38 0 (nI 0)) 38 0 x) := fun x => (((kr_N hg hF).congr kr_eqK.rf (kr_thr μ _)).congr kr_eqK.rf (kr_thr _ _)).mono
  have hg1 := hg.congr kr_eqK.rf (kr_thr μ (nI 0))
  have hF1 := hF.congr kr_eqK.rf (kr_thr μ (nI 0))
  unfold kt_K_recover kq_K_recover kp_K_recover kq_M_recover kp_M_recover
  rw [if_pos hf, if_pos hf, if_pos hf]
  rcases kr_wiped hg.1 (hF.2.2.2.2.2.2.2 d hd.1 hd.2).2.1 with ⟨h1, h2, h3, -⟩ | ⟨h1, h2, h3⟩
  · rw [h1, h2, if_pos kr_i0, if_pos kr_i0, if_pos kr_i0, if_pos kr_i0]
    exact ⟨Or.inr rfl, kc_up_jj, fun e => absurd e (by decide), hT _⟩
  · rw [h1, h2, if_neg kr_i1, if_neg kr_i1, if_neg kr_i1, if_neg kr_i1, if_neg kr_i1]
    obtain ⟨m, c1, c2, c3⟩ := kr_soundMask (κ := κ)
    have hsd : kp_K_isSound κ d = 0 := by
      unfold kp_K_isSound
      rw [h2, if_neg kr_i1]
      exact kr_i0
    obtain ⟨m', d1, d2, d3⟩ : ∃ m', m' < 128 ∧ kc_it (kf_M_recover_1 μ d) 7 1 (nI 0) = nI m' ∧ ∀ e, 1 ≤ e → e ≤ 7 → m'.testBit (e - 1) = decide (¬ kp_K_isSound κ e = 0) := by
      refine km_it (f := kf_M_recover_1 μ d) (b := fun e => decide (¬ kp_K_isSound κ e = 0)) (fun i a b z => ?_)
      unfold kf_M_recover_1
      by_cases hid : i = d
      · subst hid
        rw [if_pos rfl, if_neg (by simp [hsd])]
      · rw [if_neg (fun e => hid ((nI_eq (by omega) (by omega)).mp e)), ← kr_sound hg1 hF1 ⟨a, b⟩]
        by_cases h : kp_K_isSound κ i = 0
        · rw [if_pos h, if_neg (by simp [h])]
        · rw [if_neg h, if_pos (by simp [h])]
          rfl
    rw [c2, d2, ← kr_masks c1 d1 c3 d3, km_cnt m c1, km_four m c1]
    obtain ⟨l1, l2, l3, l4⟩ := km_least m c1
    have hc7 := km_c7 m
    by_cases h4 : 4 ≤ km_c m
    · have hle : nI 4 ≤ nI (km_c m) := nI_le h4 (by omega)
      rw [if_pos hle, if_pos hle, if_pos hle, if_pos h4, if_neg (l4 h4), if_neg (l4 h4)]
      generalize hL : (kp_K_leastFour (nI m)).toNatClampNeg = M at l1 l2 l3
      have hi := kr_interp (κ := κ) (μ := kc_up μ 38 0 (nI 0)) hg1.1 hg1.2.2.2.1 hg1.2.2.2.2.2.1 l2 hd.2 (fun i a b ht => by
        have h := kr_sub l3 ht
        rw [c3 i a b] at h
        exact kr_soundOpen hg1 hF1 ⟨a, b⟩ (of_decide_eq_true h))
      rw [l1, hi.1]
      refine ⟨Or.inl rfl, ?_, fun _ => rfl, ?_⟩
      · rw [kc_up_nk (by decide), kc_up_nk (by decide), kc_up_jj]
        rfl
      · generalize kp_M_interpolate (kc_up μ 38 0 (nI 0)) (nI M) (nI d) = w at hi
        have hg2 : kr_g (kc_up κ 4 d w) (kc_up (kc_up (kc_up μ 38 0 (nI 0)) 39 d w) 40 d (nI 0)) p q := by
          unfold kr_g at hg1 ⊢
          rw [kc_up_ne (by decide : 1 ≠ 4), kc_up_ne (by decide : 38 ≠ 40), kc_up_ne (by decide : 38 ≠ 39)]
          exact hg1
        refine (kr_N hg2 ?_).mono
        obtain ⟨a1, a2, a3, a4, a5, a6, a7, a8⟩ := hF
        refine ⟨a1.c rfl rfl, a2, a3.c rfl rfl rfl rfl, a4, a5, a6, a7.c rfl rfl, fun e b1 b2 => ?_⟩
        obtain ⟨s1, s2, s3, s4, s5⟩ := a8 e b1 b2
        refine ⟨s1.c rfl rfl, ?_, s3.c rfl rfl rfl rfl, s4.c rfl rfl (fun _ _ _ => ⟨rfl, rfl⟩), s5.imp (fun h => h) (fun h => h.c (kc_up_ne (by omega)) (kc_up_ne (by omega)) (kc_up_ne (by omega)) (fun _ _ => ⟨rfl, rfl⟩) (fun _ _ _ => rfl))⟩
        by_cases h : e = d
        · subst h
          refine Or.inl ⟨kc_up_jj, ?_, ?_⟩
          · rw [kc_up_jj, kc_up_nk (by decide), kc_up_jj]
          · rw [kc_up_nk (by decide), kc_up_jj]
            exact hi.2
        · refine s2.c (kc_up_nj h) ?_ ?_
          · rw [kc_up_nk (by decide), kc_up_nj h, kc_up_nk (by decide)]
          · rw [kc_up_nj h, kc_up_nk (by decide), kc_up_nk (by decide)]
    · have hle : ¬ nI 4 ≤ nI (km_c m) := nI_ge (by omega) (by decide)
      rw [if_neg hle, if_neg hle, if_neg hle, if_neg h4, if_pos kr_i0, if_pos kr_i0]
      exact ⟨Or.inr rfl, kc_up_jj, fun e => absurd e (by decide), hT _⟩
theorem kr_upup {σ : kc_Sg} {k i : Nat} {x y : Int32} : kc_up (kc_up σ k i x) k i y = kc_up σ k i y := by
  funext j l
  by_cases h : j = k
  · subst h
    by_cases h2 : l = i
    · subst h2
      rw [kc_up_jj, kc_up_jj]
    · rw [kc_up_nj h2, kc_up_nj h2, kc_up_nj h2]
  · rw [kc_up_ne h, kc_up_ne h, kc_up_ne h]
theorem kr_rec1 {m : Nat} (hm : m < 128) (x : Int32) : ∀ c i, 1 ≤ i → i + c ≤ 8 → (∀ j, i ≤ j → j < i + c → m.testBit (j - 1) = true → μ 40 j = 0) → kc_it (kf_M_reconstruct_1 (nI m)) c i (kc_up μ 38 0 x) = kc_up μ 38 0 x
  | 0, _, _, _, _ => rfl
  | c + 1, i, h1, h2, h => by
    show kc_it (kf_M_reconstruct_1 (nI m)) c (i + 1) (kf_M_reconstruct_1 (nI m) i (kc_up μ 38 0 x)) = _
    have e : kf_M_reconstruct_1 (nI m) i (kc_up μ 38 0 x) = kc_up μ 38 0 x := by
      unfold kf_M_reconstruct_1
      by_cases ht : m.testBit (i - 1) = true
      · rw [if_pos ((km_shr m hm i (by omega) h1).mpr ht), kc_up_nk (by decide), if_pos (h i (Nat.le_refl _) (by omega) ht)]
      · rw [if_neg (fun e => ht ((km_shr m hm i (by omega) h1).mp e))]
    rw [e, kr_rec1 hm x c (i + 1) (by omega) (by omega) (fun j a b => h j (by omega) (by omega))]
theorem kr_rec2 {m : Nat} (hm : m < 128) : ∀ c i x, 1 ≤ i → i + c ≤ 8 → (∃ j, i ≤ j ∧ j < i + c ∧ m.testBit (j - 1) = true ∧ ¬ μ 40 j = 0) → kc_it (kf_M_reconstruct_1 (nI m)) c i (kc_up μ 38 0 x) = kc_up μ 38 0 (nI 2)
  | 0, _, _, _, _, h => by
    obtain ⟨j, a, b, -⟩ := h
    omega
  | c + 1, i, x, h1, h2, h => by
    show kc_it (kf_M_reconstruct_1 (nI m)) c (i + 1) (kf_M_reconstruct_1 (nI m) i (kc_up μ 38 0 x)) = _
    by_cases hh : m.testBit (i - 1) = true ∧ ¬ μ 40 i = 0
    · have e : kf_M_reconstruct_1 (nI m) i (kc_up μ 38 0 x) = kc_up μ 38 0 (nI 2) := by
        unfold kf_M_reconstruct_1
        rw [if_pos ((km_shr m hm i (by omega) h1).mpr hh.1), kc_up_nk (by decide), if_neg hh.2, kr_upup]
      rw [e]
      by_cases ht : ∃ j, i + 1 ≤ j ∧ j < i + 1 + c ∧ m.testBit (j - 1) = true ∧ ¬ μ 40 j = 0
      · exact kr_rec2 hm c (i + 1) _ (by omega) (by omega) ht
      · exact kr_rec1 hm _ c (i + 1) (by omega) (by omega) (fun j a b d => Classical.byContradiction (fun z => ht ⟨j, a, b, d, z⟩))
    · have e : kf_M_reconstruct_1 (nI m) i (kc_up μ 38 0 x) = kc_up μ 38 0 x := by
        unfold kf_M_reconstruct_1
        by_cases ht : m.testBit (i - 1) = true
        · rw [if_pos ((km_shr m hm i (by omega) h1).mpr ht), kc_up_nk (by decide), if_pos (Classical.byContradiction (fun z => hh ⟨ht, z⟩))]
        · rw [if_neg (fun e => ht ((km_shr m hm i (by omega) h1).mp e))]
      rw [e]
      obtain ⟨j, a, b, d1, d2⟩ := h
      refine kr_rec2 hm c (i + 1) x (by omega) (by omega) ⟨j, ?_, by omega, d1, d2⟩
      by_cases hj : j = i
      · subst hj
        exact absurd ⟨d1, d2⟩ hh
      · omega
theorem kr_and (a b : Nat) : nI a &&& nI b = nI (a &&& b) := by
  apply Int32.toBitVec_inj.mp
  rw [Int32.toBitVec_and]
  show BitVec.ofNat 32 a &&& BitVec.ofNat 32 b = BitVec.ofNat 32 (a &&& b)
  rw [BitVec.ofNat_and]
theorem kr_and0 {a b : Nat} (ha : a < 128) : (nI a &&& nI b = 0) ↔ ∀ d, 1 ≤ d → d ≤ 7 → a.testBit (d - 1) = true → b.testBit (d - 1) = false := by
  have hl : a &&& b < 128 := Nat.lt_of_le_of_lt Nat.and_le_left ha
  rw [kr_and]
  constructor
  · intro h d h1 h2 h3
    have e := kp_nI0 (by omega) h
    have : (a &&& b).testBit (d - 1) = false := by rw [e, Nat.zero_testBit]
    rw [Nat.testBit_and, h3, Bool.true_and] at this
    exact this
  · intro h
    have e : a &&& b = 0 := km_ext hl (by decide) (fun d h1 h2 => by
      rw [Nat.testBit_and, Nat.zero_testBit]
      cases ht : a.testBit (d - 1)
      · rfl
      · rw [h d h1 h2 ht, Bool.and_false])
    rw [e]
    exact kr_i0
theorem kr_mf (h : kr_Q n κ μ) (hn : n < 512) (hz : ¬ μ 38 4 = 0) : ¬ μ 38 1 = 0 ∧ ¬ μ 38 2 = 0 := by
  rcases kr_fd h hn with ⟨hb, -⟩ | ⟨-, -, p, q, hg, -⟩
  · exact absurd hb.2.2.2.2.2.1 hz
  · exact hg.mz
theorem kr_z_reconstruct (h : kr_Q n κ μ) (hn : n < 512) (hz : μ 38 4 = 0) (c : Int32) : (kt_K_reconstruct κ c = 0 ∨ kt_K_reconstruct κ c = 1 ∨ kt_K_reconstruct κ c = 3) ∧ (kq_M_reconstruct_z μ) 38 0 = kw_c_reconstruct (kt_K_reconstruct κ c) ∧ (kt_K_reconstruct κ c = 0 → kp_K_reconstruct κ c = kp_M_reconstruct_z) ∧ kr_Q (n + 1) κ (kq_M_reconstruct_z μ) := by
  rcases kr_fd h hn with ⟨hb, hf⟩ | ⟨-, h4, -⟩
  · have ht : kt_K_reconstruct κ c = 1 := by
      unfold kt_K_reconstruct
      rw [if_neg (by rw [hf]; decide), hf]
    rw [ht]
    exact ⟨Or.inr (Or.inl rfl), kc_up_jj, fun e => absurd e (by decide), h.thr _⟩
  · exact absurd hz h4
theorem kr_m_reconstruct (h : kr_Q n κ μ) (hn : n < 512) (hz : ¬ μ 38 4 = 0) (c : Int32) : (kt_K_reconstruct κ c = 0 ∨ kt_K_reconstruct κ c = 1 ∨ kt_K_reconstruct κ c = 3) ∧ (kq_M_reconstruct μ c) 38 0 = kw_c_reconstruct (kt_K_reconstruct κ c) ∧ (kt_K_reconstruct κ c = 0 → kp_K_reconstruct κ c = kp_M_reconstruct μ c) ∧ kr_Q (n + 1) κ (kq_M_reconstruct μ c) := by
  rcases kr_fd h hn with ⟨hb, -⟩ | ⟨hf, h4, p, q, hg, hF⟩
  · exact absurd hb.2.2.2.2.2.1 hz
  unfold kt_K_reconstruct kq_M_reconstruct kp_K_reconstruct kp_M_reconstruct
  rw [if_pos hf, if_pos hf]
  by_cases h1 : c < 0
  · rw [if_pos h1, if_pos h1, if_pos h1, if_pos h1]
    exact ⟨Or.inr (Or.inr rfl), kc_up_jj, fun e => absurd e (by decide), h.thr _⟩
  rw [if_neg h1, if_neg h1, if_neg h1, if_neg h1]
  by_cases h2 : nI 127 < c
  · rw [if_pos h2, if_pos h2, if_pos h2, if_pos h2]
    exact ⟨Or.inr (Or.inr rfl), kc_up_jj, fun e => absurd e (by decide), h.thr _⟩
  rw [if_neg h2, if_neg h2, if_neg h2, if_neg h2]
  obtain ⟨m, hm, rfl⟩ := nI_of h1
  have hm8 : m < 128 := by
    rw [nI_ltI (by decide) hm] at h2
    omega
  have hc7 := km_c7 m
  rw [km_cnt m hm8, km_four m hm8]
  obtain ⟨l1, l2, l3, l4⟩ := km_least m hm8
  by_cases h3 : km_c m < 4
  · have hle : nI (km_c m) < nI 4 := nI_lt h3 (by decide)
    rw [if_pos hle, if_pos hle, if_neg (show ¬ 4 ≤ km_c m by omega), if_pos kr_i0, if_pos kr_i0]
    exact ⟨Or.inr (Or.inr rfl), kc_up_jj, fun e => absurd e (by decide), h.thr _⟩
  · have hle : ¬ nI (km_c m) < nI 4 := nI_nlt (by omega) (by omega)
    rw [if_neg hle, if_neg hle, if_pos (show 4 ≤ km_c m by omega), if_neg (l4 (by omega)), if_neg (l4 (by omega))]
    obtain ⟨mw, w1, w2, w3⟩ := kr_wipedMask (κ := κ)
    rw [w2]
    by_cases h5 : nI m &&& nI mw = 0
    · have ho := (kr_and0 (b := mw) hm8).mp h5
      have hop : ∀ i, 1 ≤ i → i ≤ 7 → m.testBit (i - 1) = true → μ 40 i = nI 0 ∧ κ 4 i = μ 39 i ∧ kr_num q (μ 39 i) := fun i a b ht => by
        have := ho i a b ht
        rw [w3 i a b] at this
        rcases kr_wiped hg.1 (hF.2.2.2.2.2.2.2 i a b).2.1 with ⟨e1, e2, e3, e4⟩ | ⟨e1, e2, e3⟩
        · exact ⟨e1, e3, e4⟩
        · exact absurd e3 (of_decide_eq_false this)
      have hl := kr_rec1 (μ := μ) hm8 (nI 0) 7 1 (Nat.le_refl _) (Nat.le_refl _) (fun j a b ht => (hop j a (by omega) ht).1.trans kr_i0)
      rw [if_pos h5, if_pos h5, hl, kc_up_jj, if_pos kr_i0, if_pos kr_i0]
      have hg1 := hg.congr kr_eqK.rf (kr_thr μ (nI 0))
      generalize hL : (kp_K_leastFour (nI m)).toNatClampNeg = M at l1 l2 l3
      have hi := kr_interp (κ := κ) (μ := kc_up μ 38 0 (nI 0)) (x := 0) hg1.1 hg1.2.2.2.1 hg1.2.2.2.2.2.1 l2 (by decide) (fun i a b ht => by
        rw [kc_up_ne (by decide)]
        exact (hop i a b (kr_sub l3 ht)).2)
      rw [l1, hi.1]
      exact ⟨Or.inl rfl, kc_up_jj, fun _ => rfl, h.thr _⟩
    · have hex : ∃ j, 1 ≤ j ∧ j < 1 + 7 ∧ m.testBit (j - 1) = true ∧ ¬ μ 40 j = 0 := Classical.byContradiction (fun z => h5 ((kr_and0 (b := mw) hm8).mpr (fun d a b ht => by
        rw [w3 d a b]
        apply decide_eq_false
        intro e
        rcases kr_wiped hg.1 (hF.2.2.2.2.2.2.2 d a b).2.1 with ⟨e1, e2, e3, v, e4, e5⟩ | ⟨e1, e2, e3⟩
        · rw [e3, e5] at e
          exact kr_m1 (by have := hg.1; omega) e
        · exact z ⟨d, a, by omega, ht, by rw [e1]; exact kr_i1⟩)))
      have hl := kr_rec2 (μ := μ) hm8 7 1 (nI 0) (Nat.le_refl _) (Nat.le_refl _) hex
      rw [if_neg h5, if_neg h5, hl, kc_up_jj, if_neg (by decide +kernel), if_neg (by decide +kernel)]
      exact ⟨Or.inr (Or.inr rfl), kc_up_jj, fun e => absurd e (by decide), h.thr _⟩
theorem kr_fM_reconstruct_z (μ : kc_Sg) : ∀ j, j < 38 ∨ j = 50 → kq_M_reconstruct_z μ j = μ j := fun j hj => kc_up_ne (by omega)
theorem kr_fM_reconstruct (μ : kc_Sg) (c : Int32) : ∀ j, j < 38 ∨ j = 50 → kq_M_reconstruct μ c j = μ j := by
  intro j hj
  have e : kc_it (kf_M_reconstruct_1 c) 7 1 (kc_up μ 38 0 (nI 0)) j = μ j := by
    rw [ke_it (fun i s => by
      unfold kf_M_reconstruct_1
      (repeat' split) <;> first | rfl | (rw [kc_up_ne (by omega)])) 7 1, kc_up_ne (by omega)]
  unfold kq_M_reconstruct
  (repeat' split) <;> first | exact e | (rw [kc_up_ne (by omega)])
theorem kr_fM_recover (μ : kc_Sg) (d : Nat) : ∀ j, j < 38 ∨ j = 50 → kq_M_recover μ d j = μ j := by
  intro j hj
  unfold kq_M_recover
  (repeat' split) <;> first | rfl | (repeat rw [kc_up_ne (by omega)])
theorem kr_fK_recover (κ : kc_Sg) (d : Nat) : ∀ j, 38 ≤ j → kq_K_recover κ d j = κ j := by
  intro j hj
  unfold kq_K_recover
  (repeat' split) <;> first | rfl | (repeat rw [kc_up_ne (by omega)])
theorem kr_tK_recover (κ : kc_Sg) (d : Nat) : ¬ kt_K_recover κ d = 0 → kq_K_recover κ d = κ := by
  unfold kt_K_recover kq_K_recover
  intro h
  (repeat' split) <;> first | rfl | (exfalso; apply h; simp [*])
end KR9
