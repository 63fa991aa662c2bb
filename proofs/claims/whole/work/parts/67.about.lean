/-! the simulation: about; loops that write a row; found -/
def km_t (f : Nat → Nat) : Nat → Nat → Nat
  | 0, _ => 0
  | n + 1, i => f i + km_t f n (i + 1)
theorem km_tc {f g : Nat → Nat} : ∀ n i, (∀ j, i ≤ j → j < i + n → f j = g j) → km_t f n i = km_t g n i
  | 0, _, _ => rfl
  | n + 1, i, h => by
    show f i + km_t f n (i + 1) = g i + km_t g n (i + 1)
    rw [h i (Nat.le_refl _) (by omega), km_tc n (i + 1) (fun j h1 h2 => h j (by omega) (by omega))]
theorem km_blocks (b : Nat → Bool) : ∀ c d, km_s b (8 * c) (8 * d) = km_t (fun e => km_s b 8 (8 * e)) c d
  | 0, _ => rfl
  | c + 1, d => by
    rw [show 8 * (c + 1) = 8 + 8 * c by omega, km_sadd, show 8 * d + 8 = 8 * (d + 1) by omega, km_blocks b c (d + 1)]
    rfl
theorem km_shift (b : Nat → Bool) (s : Nat) : ∀ n i, km_s b n (s + i) = km_s (fun k => b (s + k)) n i
  | 0, _ => rfl
  | n + 1, i => by
    show (if b (s + i) then 1 else 0) + km_s b n (s + i + 1) = (if b (s + i) then 1 else 0) + km_s (fun k => b (s + k)) n (i + 1)
    rw [show s + i + 1 = s + (i + 1) by omega, km_shift b s n (i + 1)]
theorem km_none {b : Nat → Bool} : ∀ n i, (∀ j, i ≤ j → j < i + n → b j = false) → km_s b n i = 0
  | 0, _, _ => rfl
  | n + 1, i, h => by
    show (if b i then 1 else 0) + km_s b n (i + 1) = 0
    rw [h i (Nat.le_refl _) (by omega), km_none n (i + 1) (fun j h1 h2 => h j (by omega) (by omega))]
    rfl
section KR6
variable {n p q d : Nat} {κ μ : kc_Sg}
theorem kr_countN {k : Nat} {m : Nat → Nat} (h : ∀ i, 1 ≤ i → i ≤ 7 → m i < 128 ∧ κ k i = nI (m i)) : ∀ c i s, 1 ≤ i → i + c ≤ 8 → kc_it (kf_V_countAll_1 κ k) c i (nI s) = nI (s + km_t (fun e => km_c (m e)) c i)
  | 0, _, _, _, _ => rfl
  | c + 1, i, s, h1, h2 => by
    show kc_it (kf_V_countAll_1 κ k) c (i + 1) (nI s + kp_JI_bitCount (κ k i)) = nI (s + (km_c (m i) + km_t (fun e => km_c (m e)) c (i + 1)))
    obtain ⟨a, b⟩ := h i h1 (by omega)
    rw [b, km_cnt _ a, nI_add, kr_countN h c (i + 1) _ (by omega) (by omega), Nat.add_assoc]
theorem kr_count {k : Nat} {m : Nat → Nat} (h : ∀ i, 1 ≤ i → i ≤ 7 → m i < 128 ∧ κ k i = nI (m i)) : kp_V_countAll κ k = nI (km_t (fun e => km_c (m e)) 7 1) := by
  have e := kr_countN h 7 1 0 (Nat.le_refl _) (Nat.le_refl _)
  rw [Nat.zero_add] at e
  exact e
/-- the reference counts the same, over its 64 cells -/
theorem kr_cells {k : Nat} {m : Nat → Nat} {f : Nat → Int32 → Int32} (h : ∀ i, 1 ≤ i → i ≤ 7 → m i < 128 ∧ ∀ e, 1 ≤ e → e ≤ 7 → kp_K_isAmong (nI (m i)) (nI e) = μ k (8 * i + e)) (hz : ∀ i, i < 64 → (i < 8 ∨ i % 8 = 0) → μ k i = nI 0) (hf : ∀ i a, f i a = a + (if μ k i = 0 then nI 0 else nI 1)) : kc_it f 64 0 (nI 0) = nI (km_t (fun e => km_c (m e)) 7 1) := by
  have e1 : kc_it f 64 0 (nI 0) = nI (0 + km_s (fun i => decide (¬ μ k i = 0)) 64 0) := km_sn 64 0 0 (fun j a b z => by
    rw [hf]
    by_cases h : μ k j = 0
    · rw [if_pos h, if_neg (by simp [h])]
    · rw [if_neg h, if_pos (by simp [h])])
  rw [e1, Nat.zero_add, show (64 : Nat) = 8 * 8 from rfl, show km_s (fun i => decide (¬ μ k i = 0)) (8 * 8) 0 = km_s (fun i => decide (¬ μ k i = 0)) (8 * 8) (8 * 0) from rfl, km_blocks]
  show nI (km_s (fun i => decide (¬ μ k i = 0)) 8 (8 * 0) + km_t _ 7 1) = _
  rw [km_none 8 (8 * 0) (fun j a b => by
    rw [hz j (by omega) (Or.inl (by omega))]
    simp [kr_i0]), Nat.zero_add, km_tc 7 1 (g := fun e => km_c (m e)) (fun e a b => ?_)]
  show (if decide (¬ μ k (8 * e) = 0) = true then 1 else 0) + km_s (fun i => decide (¬ μ k i = 0)) 7 (8 * e + 1) = km_c (m e)
  rw [hz (8 * e) (by omega) (Or.inr (by omega)), km_shift, km_cof (m := m e) (b := fun c => decide (¬ μ k (8 * e + c) = 0)) (fun c c1 c2 => ?_)]
  · simp [kr_i0]
  · obtain ⟨h1, h2⟩ := h e a (by omega)
    have hb := km_bits h1 (d := c) ⟨c1, c2⟩
    show _ = decide (¬ μ k (8 * e + c) = 0)
    rw [← h2 c c1 c2]
    cases ht : (m e).testBit (c - 1) with
    | false =>
      rw [(hb.2.1).mpr ht]
      simp
    | true =>
      rw [(hb.2.2).mpr ht]
      simp [kr_i1]
theorem kr_about1 {j : Int32} {b : Nat → Bool} (h : ∀ i, 1 ≤ i → i ≤ 7 → ((if j = nI 4 then kp_M_dealer (kc_up μ 38 0 (nI 0)) i else if j = nI 5 then μ 40 i else if μ 42 i ≤ 0 then nI 0 else nI 1) = 0 ↔ b i = false)) : ∃ m, m < 128 ∧ kc_it (kf_M_about_1 μ j) 7 1 (nI 0) = nI m ∧ ∀ d, 1 ≤ d → d ≤ 7 → m.testBit (d - 1) = b d := by
  refine km_it (f := kf_M_about_1 μ j) (b := b) (fun i h1 h2 a => ?_)
  unfold kf_M_about_1
  cases hb : b i with
  | false => rw [if_pos ((h i h1 h2).mpr hb), if_neg (by decide)]
  | true =>
    rw [if_neg (fun e => by rw [(h i h1 h2).mp e] at hb; cases hb), if_pos rfl]
    rfl
theorem kr_masks {m m' : Nat} {b : Nat → Bool} (h : m < 128) (h' : m' < 128) (e : ∀ d, 1 ≤ d → d ≤ 7 → m.testBit (d - 1) = b d) (e' : ∀ d, 1 ≤ d → d ≤ 7 → m'.testBit (d - 1) = b d) : nI m = nI m' := by
  rw [km_ext h h' (fun d a b => (e d a b).trans (e' d a b).symm)]
theorem kr_wipedMask : ∃ m, m < 128 ∧ kp_K_wiped κ = nI m ∧ ∀ d, 1 ≤ d → d ≤ 7 → m.testBit (d - 1) = decide (κ 4 d = -1) := by
  refine km_it (f := kf_K_wiped_1 κ) (b := fun d => decide (κ 4 d = -1)) (fun i h1 h2 a => ?_)
  unfold kf_K_wiped_1 kp_K_isWiped
  by_cases h : κ 4 i = -1
  · rw [if_pos h, if_neg kr_i1, if_pos (by simp [h])]
  · rw [if_neg h, if_pos kr_i0, if_neg (by simp [h])]
theorem kr_zeroMask {m : Nat} (h : m < 128) (e : ∀ d, 1 ≤ d → d ≤ 7 → m.testBit (d - 1) = false) : nI m = nI 0 := by
  rw [km_ext (b := 0) h (by decide) (fun d a b => by rw [e d a b, Nat.zero_testBit])]
theorem kr_ab (hR : kr_R n κ) {x v : Int32} (h0 : ¬ x < 0) (h6 : x ≤ nI 6) (hv : ∀ μ, kr_Q n κ μ → v = kp_M_about μ x) (hK : ∀ l : Launch, l.stackTraces = false → ∀ V : kc_V, kc_G V → kx_Met l y_K_about b_K_about 2 (some .int) (kx_rm 6) V [.ref (kc_ad V 0), .int x] κ 0 (some (.int v)) κ) : ∃ (tag : Nat) (σ1 σ2 : kc_Sg) (d : Nat) (v b : Int32), (tag = 0 ∨ tag = 3) ∧ d ≤ 5 ∧ (∀ l : Launch, l.stackTraces = false → ∀ V : kc_V, kc_G V → kx_Met l y_K_about b_K_about 2 (some .int) (kx_rm 6) V [.ref (kc_ad V 0), .int x] κ tag (some (.int v)) σ1) ∧ (∀ (l : Launch) (V : kc_V), kc_G V → kc_Met l y_M_about b_M_about 5 (some .int) (kc_rm d) V [.ref (kc_ad V 38), .int x] (if tag = 0 then kc_up σ1 50 0 v else κ) (some (.int b)) σ2) ∧ σ2 38 0 = kw_c_about tag ∧ (tag = 0 → σ2 50 0 = b) ∧ kr_R (n + 1) σ2 := by
  have e : kq_M_about (kc_up κ 50 0 v) x = kc_up (kc_up κ 50 0 v) 38 0 (nI 0) := by
    unfold kq_M_about
    rw [if_neg h0, if_pos h6]
    (repeat' split) <;> rfl
  have hQ : kr_Q n κ (kc_up κ 50 0 v) := kr_Q.congr kr_eqK.rf ⟨fun i hi => kc_up_nk (by decide), fun k a b => kc_up_ne (by omega)⟩ hR
  refine ⟨0, κ, kc_up (kc_up κ 50 0 v) 38 0 (nI 0), 2, v, v, Or.inl rfl, by decide, hK, fun l V hV => ?_, kc_up_jj, fun _ => ?_, ?_⟩
  · rw [if_pos rfl, ← e]
    have h := kk_M_about l hV (kc_up κ 50 0 v) x
    rw [← hv _ hQ] at h
    exact h
  · rw [kc_up_nk (by decide), kc_up_jj]
  · exact (kr_Q.thr hQ _).congr (fun k hk => by rw [kc_up_ne (by omega), kc_up_ne (by omega)]) kr_eqM.rf
theorem kr_blank.mAbout (h : kr_blank κ μ) {x : Int32} (h0 : ¬ x < 0) (h6 : x ≤ nI 6) : kp_M_about μ x = nI 0 := by
  unfold kp_M_about
  rw [if_neg h0, if_pos h6, if_pos h.2.2.2.2.2.1]
theorem kr_fM.about (h4 : ¬ μ 38 4 = 0) {j : Nat} (h6 : j ≤ 6) : kp_M_about μ (nI j) = if j = 0 then μ 38 5 else if j = 1 then μ 38 16 else if 4 ≤ j then kc_it (kf_M_about_1 μ (nI j)) 7 1 (nI 0) else kc_it (kf_M_about_2 μ (nI j)) 64 0 (nI 0) := by
  unfold kp_M_about
  rw [if_neg (nI_pos (by omega)), if_pos (nI_le h6 (by decide)), if_neg h4]
  rcases (show j = 0 ∨ j = 1 ∨ j = 2 ∨ j = 3 ∨ j = 4 ∨ j = 5 ∨ j = 6 by omega) with rfl | rfl | rfl | rfl | rfl | rfl | rfl
  · rw [if_pos kr_i0, if_pos rfl]
  · rw [if_neg kr_i1, if_pos rfl, if_neg (by decide), if_pos rfl]
  · rw [if_neg (by decide +kernel), if_neg (by decide +kernel), if_neg (by decide +kernel), if_neg (by decide), if_neg (by decide), if_neg (by decide)]
  · rw [if_neg (by decide +kernel), if_neg (by decide +kernel), if_neg (by decide +kernel), if_neg (by decide), if_neg (by decide), if_neg (by decide)]
  · rw [if_neg (by decide +kernel), if_neg (by decide +kernel), if_pos (by decide +kernel), if_neg (by decide), if_neg (by decide), if_pos (by decide)]
  · rw [if_neg (by decide +kernel), if_neg (by decide +kernel), if_pos (by decide +kernel), if_neg (by decide), if_neg (by decide), if_pos (by decide)]
  · rw [if_neg (by decide +kernel), if_neg (by decide +kernel), if_pos (by decide +kernel), if_neg (by decide), if_neg (by decide), if_pos (by decide)]
theorem kr_c12 (hF : kr_F n q κ μ) : ∃ m : Nat → Nat, ∀ i, 1 ≤ i → i ≤ 7 → m i < 128 ∧ κ 12 i = nI (m i) := by
  refine ⟨fun i => (κ 12 i).toNatClampNeg, fun i h1 h2 => ?_⟩
  obtain ⟨m, a, b⟩ := (hF.2.2.2.2.2.2.2 i h1 h2).2.2.2.1.1
  have e : (κ 12 i).toNatClampNeg = m := by
    rw [b, nI_clamp (by omega)]
  show (κ 12 i).toNatClampNeg < 128 ∧ κ 12 i = nI (κ 12 i).toNatClampNeg
  rw [e]
  exact ⟨a, b⟩
theorem kr_c13 (hF : kr_F n q κ μ) : ∃ m : Nat → Nat, ∀ i, 1 ≤ i → i ≤ 7 → m i < 128 ∧ κ 13 i = nI (m i) := by
  refine ⟨fun i => (κ 13 i).toNatClampNeg, fun i h1 h2 => ?_⟩
  obtain ⟨m, a, b⟩ := (hF.2.2.2.2.2.2.2 i h1 h2).2.2.2.1.2.1
  have e : (κ 13 i).toNatClampNeg = m := by
    rw [b, nI_clamp (by omega)]
  show (κ 13 i).toNatClampNeg < 128 ∧ κ 13 i = nI (κ 13 i).toNatClampNeg
  rw [e]
  exact ⟨a, b⟩
theorem kr_vals (h : kr_Q n κ μ) (hn : n < 512) : kp_K_about_0 κ = kp_M_about μ (nI 0) ∧ kp_K_about_1 κ = kp_M_about μ (nI 1) ∧ kp_K_about_2 κ = kp_M_about μ (nI 2) ∧ kp_K_about_3 κ = kp_M_about μ (nI 3) ∧ kp_K_about_4 κ = kp_M_about μ (nI 4) ∧ kp_K_about_5 κ = kp_M_about μ (nI 5) ∧ kp_K_about_6 κ = kp_M_about μ (nI 6) := by
  unfold kp_K_about_0 kp_K_about_1 kp_K_about_2 kp_K_about_3 kp_K_about_4 kp_K_about_5 kp_K_about_6 kp_B_size kp_V_complaintCount kp_V_settledCount kp_V_dealers
  rcases kr_fd h hn with ⟨hb, hf⟩ | ⟨hf, h4, p, q, hg, hF⟩
  · have hm : ∀ j, j ≤ 6 → kp_M_about μ (nI j) = nI 0 := fun j hj => hb.mAbout (nI_pos (by omega)) (nI_le hj (by decide))
    rw [hm 0 (by decide), hm 1 (by decide), hm 2 (by decide), hm 3 (by decide), hm 4 (by decide), hm 5 (by decide), hm 6 (by decide)]
    obtain ⟨b1, b2, b3, b4, b5, -⟩ := hb
    refine ⟨b1.trans kr_i0.symm, b2, ?_, ?_, b5.trans kr_i0.symm, ?_, ?_⟩
    · rw [kr_count (m := fun _ => 0) (fun i a b => ⟨by decide, ((b3 i (by omega)).2.2.1).trans kr_i0.symm⟩)]
      decide +kernel
    · rw [kr_count (m := fun _ => 0) (fun i a b => ⟨by decide, ((b3 i (by omega)).2.2.2).trans kr_i0.symm⟩)]
      decide +kernel
    · obtain ⟨m, c1, c2, c3⟩ := kr_wipedMask (κ := κ)
      rw [c2]
      refine kr_zeroMask c1 (fun d a b => ?_)
      rw [c3 d a b, (b3 d (by omega)).1]
      decide +kernel
    · obtain ⟨m, c1, c2, c3⟩ := kr_faulty (κ := κ) (k := fun _ => 0) (fun i a b => ⟨by decide, ((b3 i (by omega)).2.1).trans kr_i0.symm⟩)
      rw [c2]
      exact kr_zeroMask c1 (fun d a b => by rw [c3 d a b]; decide)
  · rw [kr_fM.about h4 (by decide), kr_fM.about h4 (by decide), kr_fM.about h4 (by decide), kr_fM.about h4 (by decide), kr_fM.about h4 (by decide), kr_fM.about h4 (by decide), kr_fM.about h4 (by decide)]
    have hF0 := hF
    obtain ⟨⟨w, w1, w2, w3, w4⟩, f2, ⟨s, s1, s2, s3, s4⟩, f4, f5, ⟨m8, k1, k2⟩, f7, f8⟩ := hF
    refine ⟨?_, ?_, ?_, ?_, ?_, ?_, ?_⟩
    · rw [if_pos rfl, w3, w4]
    · rw [if_neg (by decide), if_pos rfl, s2, s3]
    · rw [if_neg (by decide), if_neg (by decide), if_neg (by decide)]
      obtain ⟨m, hm⟩ := kr_c12 hF0
      rw [kr_count hm, kr_cells (k := 47) (m := m) (f := kf_M_about_2 μ (nI 2)) (fun i a b => ⟨(hm i a b).1, fun e c1 c2 => by rw [← (hm i a b).2]; exact ((f8 i a b).2.2.2.1.2.2 e c1 c2).1⟩) (fun i a b => (f7 i a b).1) (fun i a => by unfold kf_M_about_2; rw [if_pos rfl])]
    · rw [if_neg (by decide), if_neg (by decide), if_neg (by decide)]
      obtain ⟨m, hm⟩ := kr_c13 hF0
      rw [kr_count hm, kr_cells (k := 48) (m := m) (f := kf_M_about_2 μ (nI 3)) (fun i a b => ⟨(hm i a b).1, fun e c1 c2 => by rw [← (hm i a b).2]; exact ((f8 i a b).2.2.2.1.2.2 e c1 c2).2.1⟩) (fun i a b => (f7 i a b).2) (fun i a => by unfold kf_M_about_2; rw [if_neg (by decide +kernel)])]
    · rw [if_neg (by decide), if_neg (by decide), if_pos (by decide)]
      obtain ⟨m, c1, c2, c3⟩ := kr_about1 (μ := μ) (j := nI 4) (b := fun d => m8.testBit (d - 1)) (fun i a b => by
        rw [if_pos rfl, show kp_M_dealer (kc_up μ 38 0 (nI 0)) i = kp_M_dealer μ i from rfl, ← (f8 i a b).2.2.1.2, k2]
        exact (km_bits k1 ⟨a, b⟩).2.1)
      rw [k2, c2]
      exact kr_masks k1 c1 (fun d a b => rfl) c3
    · rw [if_neg (by decide), if_neg (by decide), if_pos (by decide)]
      obtain ⟨m', d1, d2, d3⟩ := kr_wipedMask (κ := κ)
      obtain ⟨m, c1, c2, c3⟩ := kr_about1 (μ := μ) (j := nI 5) (b := fun d => decide (κ 4 d = -1)) (fun i a b => by
        rw [if_neg (by decide +kernel), if_pos rfl]
        rcases kr_wiped hg.1 (f8 i a b).2.1 with ⟨e1, e2, e3, v, e4, e5⟩ | ⟨e1, e2, e3⟩
        · rw [e1, e3, e5]
          exact ⟨fun _ => decide_eq_false (kr_m1 (by have := hg.1; omega)), fun _ => kr_i0⟩
        · rw [e1, e3]
          exact ⟨fun h => absurd h kr_i1, fun h => by simp at h⟩)
      rw [d2, c2]
      exact kr_masks d1 c1 d3 c3
    · rw [if_neg (by decide), if_neg (by decide), if_pos (by decide)]
      obtain ⟨k, hk⟩ := kr_kinds hF0
      obtain ⟨m', d1, d2, d3⟩ := kr_faulty (κ := κ) (k := k) (fun i a b => ⟨(hk i a b).1, (hk i a b).2.1⟩)
      obtain ⟨m, c1, c2, c3⟩ := kr_about1 (μ := μ) (j := nI 6) (b := fun d => decide (k d ≠ 0)) (fun i a b => by
        obtain ⟨e1, e2, e3⟩ := hk i a b
        rw [if_neg (by decide +kernel), if_neg (by decide +kernel), e3]
        by_cases hz : k i = 0
        · rw [hz, if_pos (by decide +kernel)]
          exact ⟨fun _ => by simp [hz], fun _ => kr_i0⟩
        · rw [if_neg (nI_nle (by omega) (by omega))]
          exact ⟨fun h => absurd h kr_i1, fun h => by simp [hz] at h⟩)
      rw [d2, c2]
      exact kr_masks d1 c1 d3 c3
theorem kr_s_about : kl_S_about kr_R := by
  intro n σ x hn hR
  by_cases hx : x.toInt < 0 ∨ 6 < x.toInt
  · have e : kq_M_about σ x = kc_up σ 38 0 (nI 1) := by
      unfold kq_M_about
      by_cases h0 : x < 0
      · rw [if_pos h0]
      · rw [if_neg h0, if_neg (fun h6 => by
          rw [Int32.lt_iff_toInt_lt, Int32.toInt_zero] at h0
          rw [Int32.le_iff_toInt_le, nI_toInt (by decide)] at h6
          omega)]
    refine ⟨3, σ, kc_up σ 38 0 (nI 1), 2, kp_K_about_x, kp_M_about σ x, Or.inr rfl, by decide, fun l hlt V hV => kx_K_about_x l hlt hV σ x hx, fun l V hV => ?_, kc_up_jj, fun h => absurd h (by decide), (kr_Q.thr hR _).congr (fun k hk => kc_up_ne (by omega)) kr_eqM.rf⟩
    rw [if_neg (by decide), ← e]
    exact kk_M_about l hV σ x
  · have h0 : ¬ x < 0 := by
      rw [Int32.lt_iff_toInt_lt, Int32.toInt_zero]
      omega
    have h6 : x ≤ nI 6 := by
      rw [Int32.le_iff_toInt_le, nI_toInt (by decide)]
      omega
    obtain ⟨j, hj, rfl⟩ := nI_of2 (x := x) (M := nI 6) (n := 6) (by decide +kernel) h0 h6
    rcases (show j = 0 ∨ j = 1 ∨ j = 2 ∨ j = 3 ∨ j = 4 ∨ j = 5 ∨ j = 6 by omega) with rfl | rfl | rfl | rfl | rfl | rfl | rfl
    · exact kr_ab hR h0 h6 (fun μ h => (kr_vals h hn).1) (fun l hlt V hV => kx_K_about_0 l hlt hV σ _ rfl)
    · exact kr_ab hR h0 h6 (fun μ h => (kr_vals h hn).2.1) (fun l hlt V hV => kx_K_about_1 l hlt hV σ _ rfl)
    · exact kr_ab hR h0 h6 (fun μ h => (kr_vals h hn).2.2.1) (fun l hlt V hV => kx_K_about_2 l hlt hV σ _ rfl)
    · exact kr_ab hR h0 h6 (fun μ h => (kr_vals h hn).2.2.2.1) (fun l hlt V hV => kx_K_about_3 l hlt hV σ _ rfl)
    · exact kr_ab hR h0 h6 (fun μ h => (kr_vals h hn).2.2.2.2.1) (fun l hlt V hV => kx_K_about_4 l hlt hV σ _ rfl)
    · exact kr_ab hR h0 h6 (fun μ h => (kr_vals h hn).2.2.2.2.2.1) (fun l hlt V hV => kx_K_about_5 l hlt hV σ _ rfl)
    · exact kr_ab hR h0 h6 (fun μ h => (kr_vals h hn).2.2.2.2.2.2) (fun l hlt V hV => kx_K_about_6 l hlt hV σ _ rfl)
end KR6
