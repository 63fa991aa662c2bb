/-! the simulation: class (κ) and reference (μ) side by side -/
def kr_blank (κ μ : kc_Sg) : Prop := κ 0 6 = 0 ∧ κ 2 1 = nI 0 ∧ (∀ i, i < 8 → κ 4 i = 0 ∧ κ 8 i = 0 ∧ κ 12 i = 0 ∧ κ 13 i = 0) ∧ κ 3 7 = 0 ∧ κ 3 8 = 0 ∧ μ 38 4 = 0 ∧ μ 38 16 = nI 0
def kr_g (κ μ : kc_Sg) (p q : Nat) : Prop := kr_q q ∧ (q < p ∧ p < 2 ^ 31) ∧ κ 1 0 = nI p ∧ κ 1 1 = nI q ∧ μ 38 1 = nI p ∧ μ 38 2 = nI q ∧ μ 38 3 = κ 1 2
def kr_deal (q : Nat) (κ μ : kc_Sg) (d : Nat) : Prop := (∀ i, i < 4 → κ (14 + d) i = μ 44 (4 * d + i) ∧ kr_num q (μ 44 (4 * d + i))) ∧ (∀ i, i < 4 → κ (22 + d) i = μ 45 (4 * d + i)) ∧ ∀ k, 1 ≤ k → k ≤ 7 → κ (30 + d) k = μ 46 (8 * d + k) ∧ kr_num q (μ 46 (8 * d + k))
def kr_kind (κ μ : kc_Sg) (d : Nat) : Prop := ∃ k, k ≤ 6 ∧ κ 8 d = nI k ∧ μ 42 d = nI k
def kr_share (q : Nat) (κ μ : kc_Sg) (d : Nat) : Prop := (μ 40 d = nI 0 ∧ κ 4 d = μ 39 d ∧ kr_num q (μ 39 d)) ∨ (μ 40 d = nI 1 ∧ κ 4 d = -1)
def kr_done (κ μ : kc_Sg) (d : Nat) : Prop := kp_K_isAmong (κ 3 7) (nI d) = μ 43 d ∧ kp_K_isAmong (κ 3 8) (nI d) = kp_M_dealer μ d
def kr_comp (κ μ : kc_Sg) (d : Nat) : Prop := (∃ m, m < 128 ∧ κ 12 d = nI m) ∧ (∃ m, m < 128 ∧ κ 13 d = nI m) ∧ ∀ k, 1 ≤ k → k ≤ 7 → kp_K_isAmong (κ 12 d) (nI k) = μ 47 (8 * d + k) ∧ kp_K_isAmong (κ 13 d) (nI k) = μ 48 (8 * d + k) ∧ (μ 47 (8 * d + k) = nI 0 → μ 48 (8 * d + k) = nI 0)
def kr_seat (q : Nat) (κ μ : kc_Sg) (d : Nat) : Prop := kr_kind κ μ d ∧ kr_share q κ μ d ∧ kr_done κ μ d ∧ kr_comp κ μ d ∧ (kp_M_dealer μ d = nI 0 ∨ kr_deal q κ μ d)
def kr_board (κ μ : kc_Sg) : Prop := ∃ s, s ≤ 250 ∧ κ 2 1 = nI s ∧ μ 38 16 = nI s ∧ ∀ i, i < 9 * s → κ 7 i = μ 49 i
def kr_week (n : Nat) (κ μ : kc_Sg) : Prop := ∃ w, 1 ≤ w ∧ w ≤ n + 1 ∧ κ 0 6 = nI w ∧ μ 38 5 = nI w
def kr_edge (μ : kc_Sg) : Prop := ∀ i, i < 64 → (i < 8 ∨ i % 8 = 0) → μ 47 i = nI 0 ∧ μ 48 i = nI 0
def kr_F (n q : Nat) (κ μ : kc_Sg) : Prop := kr_week n κ μ ∧ μ 38 4 = nI 1 ∧ kr_board κ μ ∧ (∀ i, i < 4 → κ 5 i = μ 41 i) ∧ (∃ m, m < 128 ∧ κ 3 7 = nI m) ∧ (∃ m, m < 128 ∧ κ 3 8 = nI m) ∧ kr_edge μ ∧ ∀ d, 1 ≤ d → d ≤ 7 → kr_seat q κ μ d
def kr_Q (n : Nat) (κ μ : kc_Sg) : Prop := (κ 1 0 = nI 1 ∧ κ 1 1 = nI 1 ∧ μ 38 1 = 0 ∧ kr_blank κ μ) ∨ ∃ p q, kr_g κ μ p q ∧ (kr_blank κ μ ∨ kr_F n q κ μ)
def kr_R (n : Nat) (σ : kc_Sg) : Prop := kr_Q n σ σ
def kr_eqK (κ κ' : kc_Sg) : Prop := ∀ k, k < 38 → κ' k = κ k
def kr_eqM (μ μ' : kc_Sg) : Prop := (∀ i, 1 ≤ i → μ' 38 i = μ 38 i) ∧ ∀ k, 39 ≤ k → k < 50 → μ' k = μ k
section KRC
variable {n p q d : Nat} {κ κ' μ μ' : kc_Sg}
theorem kr_blank.congr (hK : kr_eqK κ κ') (hM : kr_eqM μ μ') (h : kr_blank κ μ) : kr_blank κ' μ' := by
  unfold kr_blank at h ⊢
  rw [hK 0 (by decide), hK 2 (by decide), hK 4 (by decide), hK 8 (by decide), hK 12 (by decide), hK 13 (by decide), hK 3 (by decide), hM.1 4 (by decide), hM.1 16 (by decide)]
  exact h
theorem kr_g.congr (hK : kr_eqK κ κ') (hM : kr_eqM μ μ') (h : kr_g κ μ p q) : kr_g κ' μ' p q := by
  unfold kr_g at h ⊢
  rw [hK 1 (by decide), hM.1 1 (by decide), hM.1 2 (by decide), hM.1 3 (by decide)]
  exact h
theorem kr_seat.congr (hK : kr_eqK κ κ') (hM : kr_eqM μ μ') (hd : 1 ≤ d ∧ d ≤ 7) (h : kr_seat q κ μ d) : kr_seat q κ' μ' d := by
  unfold kr_seat kr_kind kr_share kr_done kr_comp kr_deal kp_M_dealer at h ⊢
  rw [hK 8 (by decide), hK 4 (by decide), hK 3 (by decide), hK 12 (by decide), hK 13 (by decide), hK (14 + d) (by omega), hK (22 + d) (by omega), hK (30 + d) (by omega), hM.2 42 (by decide) (by decide), hM.2 40 (by decide) (by decide), hM.2 39 (by decide) (by decide), hM.2 43 (by decide) (by decide), hM.2 44 (by decide) (by decide), hM.2 45 (by decide) (by decide), hM.2 46 (by decide) (by decide), hM.2 47 (by decide) (by decide), hM.2 48 (by decide) (by decide)]
  exact h
theorem kr_F.congr (hK : kr_eqK κ κ') (hM : kr_eqM μ μ') (h : kr_F n q κ μ) : kr_F n q κ' μ' := by
  obtain ⟨h1, h2, h3, h4, h5, h6, h7, h8⟩ := h
  refine ⟨?_, ?_, ?_, ?_, ?_, ?_, ?_, fun d a b => (h8 d a b).congr hK hM ⟨a, b⟩⟩
  · unfold kr_week at h1 ⊢
    rw [hK 0 (by decide), hM.1 5 (by decide)]
    exact h1
  · rw [hM.1 4 (by decide)]
    exact h2
  · unfold kr_board at h3 ⊢
    rw [hK 2 (by decide), hK 7 (by decide), hM.1 16 (by decide), hM.2 49 (by decide) (by decide)]
    exact h3
  · rw [hK 5 (by decide), hM.2 41 (by decide) (by decide)]
    exact h4
  · rw [hK 3 (by decide)]
    exact h5
  · rw [hK 3 (by decide)]
    exact h6
  · unfold kr_edge at h7 ⊢
    rw [hM.2 47 (by decide) (by decide), hM.2 48 (by decide) (by decide)]
    exact h7
theorem kr_Q.congr (hK : kr_eqK κ κ') (hM : kr_eqM μ μ') (h : kr_Q n κ μ) : kr_Q n κ' μ' := by
  rcases h with ⟨h1, h2, h3, h4⟩ | ⟨p, q, hg, h⟩
  · exact Or.inl ⟨by rw [hK 1 (by decide)]; exact h1, by rw [hK 1 (by decide)]; exact h2, by rw [hM.1 1 (by decide)]; exact h3, h4.congr hK hM⟩
  · refine Or.inr ⟨p, q, hg.congr hK hM, ?_⟩
    rcases h with h | h
    · exact Or.inl (h.congr hK hM)
    · exact Or.inr (h.congr hK hM)
end KRC
theorem kr_eqK.rf {κ : kc_Sg} : kr_eqK κ κ := fun _ _ => rfl
theorem kr_eqM.rf {μ : kc_Sg} : kr_eqM μ μ := ⟨fun _ _ => rfl, fun _ _ _ => rfl⟩
theorem kr_eqM.tr {μ μ' μ'' : kc_Sg} (h : kr_eqM μ μ') (h2 : kr_eqM μ' μ'') : kr_eqM μ μ'' := ⟨fun i hi => (h2.1 i hi).trans (h.1 i hi), fun k a b => (h2.2 k a b).trans (h.2 k a b)⟩
theorem kr_thr (μ : kc_Sg) (x : Int32) : kr_eqM μ (kc_up μ 38 0 x) := ⟨fun i hi => kc_up_nj (by omega), fun k a b => kc_up_ne (by omega)⟩
theorem kr_F.mono {n q : Nat} {κ μ : kc_Sg} (h : kr_F n q κ μ) : kr_F (n + 1) q κ μ := by
  obtain ⟨⟨w, a, b, c⟩, h2⟩ := h
  exact ⟨⟨w, a, by omega, c⟩, h2⟩
theorem kr_Q.mono {n : Nat} {κ μ : kc_Sg} (h : kr_Q n κ μ) : kr_Q (n + 1) κ μ := by
  rcases h with h | ⟨p, q, hg, h | h⟩
  · exact Or.inl h
  · exact Or.inr ⟨p, q, hg, Or.inl h⟩
  · exact Or.inr ⟨p, q, hg, Or.inr h.mono⟩
/-- nothing changed but what the reference says of the call -/
theorem kr_Q.thr {n : Nat} {κ μ : kc_Sg} (h : kr_Q n κ μ) (x : Int32) : kr_Q (n + 1) κ (kc_up μ 38 0 x) := (h.congr kr_eqK.rf (kr_thr μ x)).mono
theorem kr_zero : kr_R 0 kl_s0 := Or.inl ⟨rfl, rfl, rfl, rfl, rfl, fun i _ => ⟨rfl, rfl, rfl, rfl⟩, rfl, rfl, rfl, rfl⟩
section KRX
variable {n : Nat} {κ μ σ σ1 σ2 : kc_Sg} {tag : Nat} {x v : Int32}
theorem kr_nz (h : kr_Q n κ μ) : ¬ κ 1 0 = 0 ∧ ¬ κ 1 1 = 0 := by
  rcases h with ⟨h1, h2, -⟩ | ⟨p, q, ⟨h3, h4, h5, h6, -⟩, -⟩
  · rw [h1, h2]
    decide +kernel
  · rw [h5, h6]
    exact ⟨nI_ne0 (by omega) h4.2, nI_ne0 (by omega) (by omega)⟩
theorem kr_g.mz {p q : Nat} (h : kr_g κ μ p q) : ¬ μ 38 1 = 0 ∧ ¬ μ 38 2 = 0 := by
  obtain ⟨h1, h2, h3, h4, h5, h6, h7⟩ := h
  rw [h5, h6]
  exact ⟨nI_ne0 (by omega) h2.2, nI_ne0 (by omega) (by omega)⟩
theorem kr_bdk (h : kr_Q n κ μ) : kc_bd κ := by
  have k : ∀ s, s ≤ 250 → κ 2 1 = nI s → kc_bd κ := fun s hs e => by
    have e2 : kb κ = s := by
      unfold kb
      rw [e, nI_clamp (by omega)]
    exact ⟨by rw [e2]; exact e, by omega⟩
  rcases h with ⟨-, -, -, h4⟩ | ⟨p, q, -, h4 | h4⟩
  · exact k 0 (by omega) h4.2.1
  · exact k 0 (by omega) h4.2.1
  · obtain ⟨s, h1, h2, -⟩ := h4.2.2.1
    exact k s h1 h2
theorem kr_bdm (h : kr_Q n κ μ) : kc_mbe μ := by
  have k : ∀ s, s ≤ 250 → μ 38 16 = nI s → kc_mbe μ := fun s hs e => by
    have e2 : mb μ = s := by
      unfold mb
      rw [e, nI_clamp (by omega)]
    exact ⟨by rw [e2]; exact e, by omega⟩
  rcases h with ⟨-, -, -, h4⟩ | ⟨p, q, -, h4 | h4⟩
  · exact k 0 (by omega) h4.2.2.2.2.2.2
  · exact k 0 (by omega) h4.2.2.2.2.2.2
  · obtain ⟨s, h1, -, h2, -⟩ := h4.2.2.1
    exact k s h1 h2
/-- founded or not -/
theorem kr_fd (h : kr_Q n κ μ) (hn : n < 512) : (kr_blank κ μ ∧ kt_K_requireFounded κ = 1) ∨ (kt_K_requireFounded κ = 0 ∧ ¬ μ 38 4 = 0 ∧ ∃ p q, kr_g κ μ p q ∧ kr_F n q κ μ) := by
  have hb : kr_blank κ μ → kt_K_requireFounded κ = 1 := fun h => by
    unfold kt_K_requireFounded
    rw [if_pos h.1]
  rcases h with ⟨-, -, -, h4⟩ | ⟨p, q, hg, h4 | h4⟩
  · exact Or.inl ⟨h4, hb h4⟩
  · exact Or.inl ⟨h4, hb h4⟩
  · obtain ⟨w, h1, h2, h3, -⟩ := h4.1
    refine Or.inr ⟨?_, by rw [h4.2.1]; decide +kernel, p, q, hg, h4⟩
    unfold kt_K_requireFounded
    rw [if_neg (by rw [h3]; exact nI_ne0 h1 (by omega))]
theorem kr_seatN (h : kt_K_requireSeat x = 0) : ∃ d, (1 ≤ d ∧ d ≤ 7) ∧ x = nI d := by
  unfold kt_K_requireSeat at h
  split at h
  · cases h
  · rename_i h1
    split at h
    · rename_i h2
      obtain ⟨j, hj, rfl⟩ := nI_of2 (x := x) (M := nI 7) (n := 7) (by decide +kernel) (fun q => h1 (by
        rw [Int32.lt_iff_toInt_lt] at q ⊢
        rw [nI_toInt (by decide)]
        rw [Int32.toInt_zero] at q
        omega)) h2
      refine ⟨j, ⟨?_, hj⟩, rfl⟩
      rw [nI_ltI (by omega) (by omega)] at h1
      omega
    · cases h
theorem kr_noSeat : (kp_M_noSeat x = 0 ∧ kt_K_requireSeat x = 0) ∨ (¬ kp_M_noSeat x = 0 ∧ kt_K_requireSeat x = 2) := by
  unfold kp_M_noSeat kt_K_requireSeat
  split
  · exact Or.inr ⟨by decide +kernel, rfl⟩
  · split
    · exact Or.inl ⟨by decide +kernel, rfl⟩
    · exact Or.inr ⟨by decide +kernel, rfl⟩
theorem kr_first0 (h4 : ¬ μ 38 4 = 0) (hs : kt_K_requireSeat x = 0) : kp_M_first μ x = nI 0 := by
  unfold kp_M_first
  rw [if_neg h4]
  rcases kr_noSeat (x := x) with h | h
  · rw [if_pos h.1]
  · rw [hs] at h
    cases h.2
theorem kr_first1 (h4 : μ 38 4 = 0) : kp_M_first μ x = nI 1 := by
  unfold kp_M_first
  rw [if_pos h4]
theorem kr_first2 (h4 : ¬ μ 38 4 = 0) (hs : ¬ kt_K_requireSeat x = 0) : kp_M_first μ x = nI 2 ∧ kt_K_requireSeat x = 2 := by
  unfold kp_M_first
  rw [if_neg h4]
  rcases kr_noSeat (x := x) with h | h
  · exact absurd h.2 hs
  · exact ⟨if_neg h.1, h.2⟩
theorem kr_seat0 {d : Nat} (hd : 1 ≤ d ∧ d ≤ 7) : kt_K_requireSeat (nI d) = 0 := by
  unfold kt_K_requireSeat
  rw [if_neg (nI_nlt hd.1 (by omega)), if_pos (nI_le hd.2 (by omega))]
/-- from both results to the law's one world -/
theorem kr_in (h : kr_Q n σ σ) (f1 : ∀ j, 38 ≤ j → σ1 j = σ j) : kr_Q n σ (if tag = 0 then kc_up σ1 50 0 v else σ) := by
  refine h.congr kr_eqK.rf ?_
  split
  · exact ⟨fun i hi => by rw [kc_up_ne (by decide), f1 38 (by decide)], fun k a b => by rw [kc_up_ne (by omega), f1 k (by omega)]⟩
  · exact kr_eqM.rf
theorem kr_inV (h : kr_Q n σ σ) (f1 : ∀ j, 38 ≤ j → σ1 j = σ j) : kr_Q n σ (if tag = 0 then σ1 else σ) := by
  refine h.congr kr_eqK.rf ?_
  split
  · exact ⟨fun i hi => by rw [f1 38 (by decide)], fun k a b => by rw [f1 k (by omega)]⟩
  · exact kr_eqM.rf
theorem kr_out (f2 : ¬ tag = 0 → σ1 = σ) (f3 : ∀ j, j < 38 → σ2 j = (if tag = 0 then kc_up σ1 50 0 v else σ) j) (h : kr_Q n σ1 σ2) : kr_R n σ2 := by
  refine h.congr (fun k hk => ?_) kr_eqM.rf
  rw [f3 k hk]
  split
  · rw [kc_up_ne (by omega)]
  · rename_i h0
    rw [f2 h0]
theorem kr_outV (f2 : ¬ tag = 0 → σ1 = σ) (f3 : ∀ j, j < 38 → σ2 j = (if tag = 0 then σ1 else σ) j) (h : kr_Q n σ1 σ2) : kr_R n σ2 := by
  refine h.congr (fun k hk => ?_) kr_eqM.rf
  rw [f3 k hk]
  split
  · rfl
  · rename_i h0
    rw [f2 h0]
end KRX
