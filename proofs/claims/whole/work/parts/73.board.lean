/-! the simulation: the board; deal -/
section KR10
variable {n p q d : Nat} {κ μ : kc_Sg}
theorem kr_kb {s : Nat} (h : κ 2 1 = nI s) (hs : s ≤ 250) : kb κ = s := by
  unfold kb
  rw [h, nI_clamp (by omega)]
theorem kr_mb {s : Nat} (h : μ 38 16 = nI s) (hs : s ≤ 250) : mb μ = s := by
  unfold mb
  rw [h, nI_clamp (by omega)]
/-- the class's board after one more row -/
theorem kr_addB {s : Nat} {t b w v u : Int32} (h : κ 2 1 = nI s) (hs : s < 250) : kq_B_add κ t b w v u 2 1 = nI (s + 1) ∧ (∀ i, i < 9 * s → kq_B_add κ t b w v u 7 i = κ 7 i) ∧ kq_B_add κ t b w v u 7 (9 * s) = t ∧ kq_B_add κ t b w v u 7 (9 * s + 1) = b ∧ kq_B_add κ t b w v u 7 (9 * s + 2) = w ∧ kq_B_add κ t b w v u 7 (9 * s + 3) = v ∧ kq_B_add κ t b w v u 7 (9 * s + 4) = u ∧ ∀ r, r < 4 → kq_B_add κ t b w v u 7 (9 * s + 5 + r) = nI 0 := by
  have hk := kr_kb h (by omega)
  unfold kq_B_add
  rw [hk, if_pos (nI_lt hs (by decide)), show s * 9 = 9 * s by omega]
  have hr := kr_row (F := kf_B_add_1 κ) (k := 7) (ix := fun i => 9 * s + i) (g := fun _ _ => nI 0) (fun i a => by
    unfold kf_B_add_1
    rw [hk, show s * 9 = 9 * s by omega, kc_up_jj]) (fun i a x hx => by
    unfold kf_B_add_1
    rw [hk, show s * 9 = 9 * s by omega, kc_up_nj hx]) (fun i j h => by omega) (fun i j a => rfl) 4 5 (kc_up (kc_up (kc_up (kc_up (kc_up κ 7 (9 * s) t) 7 (9 * s + 1) b) 7 (9 * s + 2) w) 7 (9 * s + 3) v) 7 (9 * s + 4) u)
  have h2 : kc_it (kf_B_add_1 κ) 4 5 (kc_up (kc_up (kc_up (kc_up (kc_up κ 7 (9 * s) t) 7 (9 * s + 1) b) 7 (9 * s + 2) w) 7 (9 * s + 3) v) 7 (9 * s + 4) u) 2 1 = nI s := by
    rw [ke_it (fun i a => by unfold kf_B_add_1; rw [kc_up_ne (by decide)]) 4 5, kc_up_ne (by decide), kc_up_ne (by decide), kc_up_ne (by decide), kc_up_ne (by decide), kc_up_ne (by decide), h]
  refine ⟨by rw [kc_up_jj, h2, nI_add], fun i hi => ?_, ?_, ?_, ?_, ?_, ?_, fun r hr2 => ?_⟩
  · rw [kc_up_ne (by decide), hr.2 i (fun j a b => by omega), kc_up_nj (by omega), kc_up_nj (by omega), kc_up_nj (by omega), kc_up_nj (by omega), kc_up_nj (by omega)]
  · rw [kc_up_ne (by decide), hr.2 (9 * s) (fun j a b => by omega), kc_up_nj (by omega), kc_up_nj (by omega), kc_up_nj (by omega), kc_up_nj (by omega), kc_up_jj]
  · rw [kc_up_ne (by decide), hr.2 (9 * s + 1) (fun j a b => by omega), kc_up_nj (by omega), kc_up_nj (by omega), kc_up_nj (by omega), kc_up_jj]
  · rw [kc_up_ne (by decide), hr.2 (9 * s + 2) (fun j a b => by omega), kc_up_nj (by omega), kc_up_nj (by omega), kc_up_jj]
  · rw [kc_up_ne (by decide), hr.2 (9 * s + 3) (fun j a b => by omega), kc_up_nj (by omega), kc_up_jj]
  · rw [kc_up_ne (by decide), hr.2 (9 * s + 4) (fun j a b => by omega), kc_up_jj]
  · rw [kc_up_ne (by decide), show 9 * s + 5 + r = 9 * s + (5 + r) by omega]
    exact hr.1 (5 + r) (by omega) (by omega)
theorem kr_putM {s : Nat} {t w v : Int32} (h : μ 38 16 = nI s) (hs : s < 250) : kq_M_put μ t d w v 38 16 = nI (s + 1) ∧ (∀ i, i < 9 * s → kq_M_put μ t d w v 49 i = μ 49 i) ∧ kq_M_put μ t d w v 49 (9 * s) = t ∧ kq_M_put μ t d w v 49 (9 * s + 1) = nI d ∧ kq_M_put μ t d w v 49 (9 * s + 2) = w ∧ kq_M_put μ t d w v 49 (9 * s + 3) = v ∧ kq_M_put μ t d w v 49 (9 * s + 4) = μ 38 5 ∧ (∀ r, r < 4 → kq_M_put μ t d w v 49 (9 * s + 5 + r) = if t = nI 1 then μ 45 (4 * d + r) else nI 0) ∧ ∀ i, i ≠ 16 → kq_M_put μ t d w v 38 i = μ 38 i := by
  have hk := kr_mb h (by omega)
  have h16 := ke_put16 μ t d w v
  unfold kq_M_put at h16 ⊢
  rw [hk] at h16 ⊢
  have hr := kr_row (F := kf_M_put_1 μ t d) (k := 49) (ix := fun i => 9 * s + 5 + i) (g := fun a i => if t = nI 1 then a 45 (4 * d + i) else nI 0) (fun i a => by
    unfold kf_M_put_1
    rw [hk, kc_up_jj]) (fun i a x hx => by
    unfold kf_M_put_1
    rw [hk, kc_up_nj hx]) (fun i j h => by omega) (fun i j a => by
    unfold kf_M_put_1
    rw [kc_up_ne (by decide)]) 4 0 (kc_up (kc_up (kc_up (kc_up (kc_up μ 49 (9 * s) t) 49 (9 * s + 1) (nI d)) 49 (9 * s + 2) w) 49 (9 * s + 3) v) 49 (9 * s + 4) (μ 38 5))
  refine ⟨by rw [h16, h, nI_add], fun i hi => ?_, ?_, ?_, ?_, ?_, ?_, fun r hr2 => ?_, fun i hi => ?_⟩
  · rw [kc_up_ne (by decide), hr.2 i (fun j a b => by omega), kc_up_nj (by omega), kc_up_nj (by omega), kc_up_nj (by omega), kc_up_nj (by omega), kc_up_nj (by omega)]
  · rw [kc_up_ne (by decide), hr.2 (9 * s) (fun j a b => by omega), kc_up_nj (by omega), kc_up_nj (by omega), kc_up_nj (by omega), kc_up_nj (by omega), kc_up_jj]
  · rw [kc_up_ne (by decide), hr.2 (9 * s + 1) (fun j a b => by omega), kc_up_nj (by omega), kc_up_nj (by omega), kc_up_nj (by omega), kc_up_jj]
  · rw [kc_up_ne (by decide), hr.2 (9 * s + 2) (fun j a b => by omega), kc_up_nj (by omega), kc_up_nj (by omega), kc_up_jj]
  · rw [kc_up_ne (by decide), hr.2 (9 * s + 3) (fun j a b => by omega), kc_up_nj (by omega), kc_up_jj]
  · rw [kc_up_ne (by decide), hr.2 (9 * s + 4) (fun j a b => by omega), kc_up_jj]
  · rw [kc_up_ne (by decide)]
    refine (hr.1 r (by omega) (by omega)).trans ?_
    rw [kc_up_ne (by decide), kc_up_ne (by decide), kc_up_ne (by decide), kc_up_ne (by decide), kc_up_ne (by decide)]
  · rw [kc_up_nj hi, ke_it (fun i a => by unfold kf_M_put_1; rw [kc_up_ne (by decide)]) 4 0, kc_up_ne (by decide), kc_up_ne (by decide), kc_up_ne (by decide), kc_up_ne (by decide), kc_up_ne (by decide)]
/-- a row that is no dealing -/
theorem kr_postB (hb : kr_board κ μ) (hr : ¬ μ 38 16 = nI 250) {t w v u : Int32} (ht : ¬ t = nI 1) (hu : u = μ 38 5) : kr_board (kq_B_add κ t (nI d) w v u) (kq_M_put μ t d w v) := by
  obtain ⟨s, s1, s2, s3, s4⟩ := hb
  have hs : s < 250 := by
    by_cases h : s = 250
    · rw [h] at s3
      exact absurd s3 hr
    · omega
  obtain ⟨a1, a2, a3, a4, a5, a6, a7, a8⟩ := kr_addB (t := t) (b := nI d) (w := w) (v := v) (u := u) s2 hs
  obtain ⟨b1, b2, b3, b4, b5, b6, b7, b8, -⟩ := kr_putM (d := d) (t := t) (w := w) (v := v) s3 hs
  refine ⟨s + 1, by omega, a1, b1, fun i hi => ?_⟩
  by_cases h : i < 9 * s
  · rw [a2 i h, b2 i h]
    exact s4 i h
  · rcases (show i = 9 * s ∨ i = 9 * s + 1 ∨ i = 9 * s + 2 ∨ i = 9 * s + 3 ∨ i = 9 * s + 4 ∨ ∃ r, r < 4 ∧ i = 9 * s + 5 + r by
      by_cases h5 : i < 9 * s + 5
      · omega
      · exact Or.inr (Or.inr (Or.inr (Or.inr (Or.inr ⟨i - (9 * s + 5), by omega, by omega⟩))))) with rfl | rfl | rfl | rfl | rfl | ⟨r, hr, rfl⟩
    · rw [a3, b3]
    · rw [a4, b4]
    · rw [a5, b5]
    · rw [a6, b6]
    · rw [a7, b7, hu]
    · rw [a8 r hr, b8 r hr, if_neg ht]
/-- the row of a dealing -/
theorem kr_dealB (hb : kr_board κ μ) (hr : ¬ μ 38 16 = nI 250) {k : Nat} {u : Int32} (hu : u = μ 38 5) (h2 : k ≠ 2) (h7 : k ≠ 7) (hc : ∀ i, i < 4 → κ k i = μ 45 (4 * d + i)) : kr_board (kq_B_addDealing κ (nI d) u k) (kq_M_put μ (nI 1) d (nI 0) (nI 0)) := by
  obtain ⟨s, s1, s2, s3, s4⟩ := hb
  have hs : s < 250 := by
    by_cases h : s = 250
    · rw [h] at s3
      exact absurd s3 hr
    · omega
  obtain ⟨a1, a2, a3, a4, a5, a6, a7, a8⟩ := kr_addB (t := nI 1) (b := nI d) (w := nI 0) (v := nI 0) (u := u) s2 hs
  obtain ⟨b1, b2, b3, b4, b5, b6, b7, b8, -⟩ := kr_putM (d := d) (t := nI 1) (w := nI 0) (v := nI 0) s3 hs
  have hk := kr_kb s2 (by omega)
  unfold kq_B_addDealing
  rw [hk, if_pos (nI_lt hs (by decide)), show s * 9 = 9 * s by omega]
  refine ⟨s + 1, by omega, by rw [kc_pu_ne (by decide)]; exact a1, b1, fun i hi => ?_⟩
  rw [kc_pu_eq]
  by_cases h : i < 9 * s
  · rw [pk_cpy_out (Or.inl (by omega)), a2 i h, b2 i h]
    exact s4 i h
  · rcases (show i = 9 * s ∨ i = 9 * s + 1 ∨ i = 9 * s + 2 ∨ i = 9 * s + 3 ∨ i = 9 * s + 4 ∨ ∃ r, r < 4 ∧ i = 9 * s + 5 + r by
      by_cases h5 : i < 9 * s + 5
      · omega
      · exact Or.inr (Or.inr (Or.inr (Or.inr (Or.inr ⟨i - (9 * s + 5), by omega, by omega⟩))))) with rfl | rfl | rfl | rfl | rfl | ⟨r, hr, rfl⟩
    · rw [pk_cpy_out (Or.inl (by omega)), a3, b3]
    · rw [pk_cpy_out (Or.inl (by omega)), a4, b4]
    · rw [pk_cpy_out (Or.inl (by omega)), a5, b5]
    · rw [pk_cpy_out (Or.inl (by omega)), a6, b6]
    · rw [pk_cpy_out (Or.inl (by omega)), a7, b7, hu]
    · rw [pk_cpy_in (by omega) (by omega), b8 r hr, if_pos rfl, show 0 + (9 * s + 5 + r - (9 * s + 5)) = r by omega, ke_addc h2 h7]
      exact hc r hr
theorem kr_dealC {j k : Nat} {b u : Int32} (h2 : j ≠ 2) (h7 : j ≠ 7) : kq_B_addDealing κ b u k j = κ j := by
  unfold kq_B_addDealing
  split
  · rw [kc_pu_ne h7, ke_addc h2 h7]
  · rfl
/-- what a dealer sends -/
theorem kr_sent (hq : kr_q q) (h1 : κ 1 1 = nI q) (h2 : μ 38 2 = nI q) {k : Nat} {V : Int32} (hV : V = kp_M_valueAt μ d (nI k)) (hn : kr_num q V) (hkd : κ 8 d = μ 42 d) : (if kp_V_isCheated κ d k = 0 then V else kp_G_addNumbers κ V (nI 1)) = kp_M_sent μ d (nI k) ∧ kr_num q (kp_M_sent μ d (nI k)) := by
  obtain ⟨v, hv, e⟩ := hn
  have p0 : kc_rem (V + nI 0) (nI q) = V := by
    rw [e, nI_add, kp_remN (by omega) (by omega) (by omega), Nat.add_zero, Nat.mod_eq_of_lt hv]
  have p1 : kp_G_addNumbers κ V (nI 1) = kc_rem (V + nI 1) (nI q) := by
    unfold kp_G_addNumbers
    rw [h1]
  have n0 : kr_num q V := ⟨v, hv, e⟩
  have n1 : kr_num q (kc_rem (V + nI 1) (nI q)) := by
    rw [e, nI_add, kp_remN (by omega) (by omega) (by omega)]
    exact ⟨_, Nat.mod_lt _ (by omega), rfl⟩
  unfold kp_V_isCheated kp_M_sent
  rw [hkd, ← hV, h2, p1, p0]
  by_cases a : nI k = kc_rem (nI d) (nI 7) + nI 1
  · rw [if_pos a, if_pos a]
    by_cases b : μ 42 d = nI 2
    · rw [if_pos b, if_pos b, if_neg kr_i1]
      exact ⟨rfl, n1⟩
    · rw [if_neg b, if_neg b]
      by_cases b5 : μ 42 d = nI 5
      · rw [if_pos b5, if_pos b5, if_neg kr_i1]
        exact ⟨rfl, n1⟩
      · rw [if_neg b5, if_neg b5]
        by_cases b6 : μ 42 d = nI 6
        · rw [if_pos b6, if_pos b6, if_neg kr_i1]
          exact ⟨rfl, n1⟩
        · rw [if_neg b6, if_neg b6, if_pos kr_i0]
          exact ⟨rfl, n0⟩
  · rw [if_neg a, if_neg a, if_pos kr_i0]
    (repeat' split) <;> exact ⟨rfl, n0⟩
/-- the class sends out -/
theorem kr_sendK {b c e : Int32} (hd : 1 ≤ d ∧ d ≤ 7) : (∀ i, kq_V_sendOut κ d b c e (14 + d) i = kq_K_writeRow κ (14 + d) (if κ 8 d = nI 3 then nI 1 else nI 0) b c e (14 + d) i) ∧ (∀ i, i < 4 → kq_V_sendOut κ d b c e (22 + d) i = kp_G_power (κ 1 2) (kq_K_writeRow κ (14 + d) (if κ 8 d = nI 3 then nI 1 else nI 0) b c e (14 + d) i) (κ 1 0)) ∧ (∀ k, 1 ≤ k → k ≤ 7 → kq_V_sendOut κ d b c e (30 + d) k = if kp_V_isCheated κ d k = 0 then kp_G_valueAt (kq_K_writeRow κ (14 + d) (if κ 8 d = nI 3 then nI 1 else nI 0) b c e) (nI k) (14 + d) else kp_G_addNumbers κ (kp_G_valueAt (kq_K_writeRow κ (14 + d) (if κ 8 d = nI 3 then nI 1 else nI 0) b c e) (nI k) (14 + d)) (nI 1)) ∧ kq_V_sendOut κ d b c e 3 7 = κ 3 7 ||| kp_K_bit (nI d) ∧ kq_V_sendOut κ d b c e 3 8 = κ 3 8 ||| kp_K_bit (nI d) := by
  unfold kq_V_sendOut
  generalize hσ : kq_K_writeRow κ (14 + d) (if κ 8 d = nI 3 then nI 1 else nI 0) b c e = σ
  have eσ : ∀ j, j ≠ 14 + d → σ j = κ j := fun j hj => by
    rw [← hσ]
    exact ke_writeRow hj
  have eF : ∀ j τ, j ≠ 30 + d → kc_it (kf_V_sendOut_1 d) 7 1 τ j = τ j := fun j τ hj => ke_it (fun i a => by
    unfold kf_V_sendOut_1
    rw [kc_up_ne hj]) 7 1 τ
  have hr := kr_row (F := kf_V_sendOut_1 d) (k := 30 + d) (ix := fun i => i) (g := fun a i => if kp_V_isCheated a d i = 0 then kp_V_rightShare a d i else kp_G_addNumbers a (kp_V_rightShare a d i) (nI 1)) (fun i a => kc_up_jj) (fun i a x hx => kc_up_nj hx) (fun i j h => h) (fun i j a => by
    have e1 : kp_V_isCheated (kf_V_sendOut_1 d j a) d i = kp_V_isCheated a d i := by
      unfold kp_V_isCheated kf_V_sendOut_1
      rw [kc_up_ne (by omega)]
    have e2 : kp_V_rightShare (kf_V_sendOut_1 d j a) d i = kp_V_rightShare a d i := by
      unfold kp_V_rightShare kf_V_sendOut_1
      exact ke_valueAtK (by rw [kc_up_ne (by omega)]) (by rw [kc_up_ne (by omega)]) _
    have e3 : ∀ z, kp_G_addNumbers (kf_V_sendOut_1 d j a) z (nI 1) = kp_G_addNumbers a z (nI 1) := fun z => by
      unfold kp_G_addNumbers kf_V_sendOut_1
      rw [kc_up_ne (by omega)]
    show (if kp_V_isCheated (kf_V_sendOut_1 d j a) d i = 0 then kp_V_rightShare (kf_V_sendOut_1 d j a) d i else kp_G_addNumbers (kf_V_sendOut_1 d j a) (kp_V_rightShare (kf_V_sendOut_1 d j a) d i) (nI 1)) = _
    rw [e1, e2, e3]) 7 1 (kq_G_commitTo σ (14 + d) (22 + d))
  refine ⟨fun i => ?_, fun i hi => ?_, fun k k1 k2 => ?_, ?_, ?_⟩
  · rw [kc_up_ne (by omega), kc_up_ne (by omega), eF _ _ (by omega), ke_commitTo (by omega)]
  · rw [kc_up_ne (by omega), kc_up_ne (by omega), eF _ _ (by omega), kr_commitTo (by omega) (by omega) i hi, eσ 1 (by omega)]
  · rw [kc_up_ne (by omega), kc_up_ne (by omega)]
    refine (hr.1 k k1 (by omega)).trans ?_
    have e1 : kp_V_isCheated (kq_G_commitTo σ (14 + d) (22 + d)) d k = kp_V_isCheated κ d k := by
      unfold kp_V_isCheated
      rw [ke_commitTo (by omega), eσ 8 (by omega)]
    have e2 : kp_V_rightShare (kq_G_commitTo σ (14 + d) (22 + d)) d k = kp_G_valueAt σ (nI k) (14 + d) := by
      unfold kp_V_rightShare
      exact ke_valueAtK (by rw [ke_commitTo (by omega)]) (by rw [ke_commitTo (by omega)]) _
    have e3 : ∀ z, kp_G_addNumbers (kq_G_commitTo σ (14 + d) (22 + d)) z (nI 1) = kp_G_addNumbers κ z (nI 1) := fun z => by
      unfold kp_G_addNumbers
      rw [ke_commitTo (by omega), eσ 1 (by omega)]
    show (if kp_V_isCheated (kq_G_commitTo σ (14 + d) (22 + d)) d k = 0 then kp_V_rightShare (kq_G_commitTo σ (14 + d) (22 + d)) d k else kp_G_addNumbers (kq_G_commitTo σ (14 + d) (22 + d)) (kp_V_rightShare (kq_G_commitTo σ (14 + d) (22 + d)) d k) (nI 1)) = _
    rw [e1, e2, e3]
  · rw [kc_up_nj (by decide), kc_up_jj, eF _ _ (by omega), ke_commitTo (by omega), eσ 3 (by omega)]
  · rw [kc_up_jj, eF _ _ (by omega), ke_commitTo (by omega), eσ 3 (by omega)]
/-- the reference sends out -/
def kr_dM0 (μ : kc_Sg) (d : Nat) (b c e : Int32) : kc_Sg := kc_up (kc_up (kc_up (kc_up (kc_up (kc_up μ 38 0 (nI 0)) 43 d (nI 1)) 44 (4 * d) (if (μ 42 d) = (nI 3) then (nI 1) else (nI 0))) 44 ((4 * d) + 1) b) 44 ((4 * d) + 2) c) 44 ((4 * d) + 3) e
def kr_dM1 (μ : kc_Sg) (d : Nat) (b c e : Int32) : kc_Sg := kc_it (kf_M_deal_1 d) 4 0 (kr_dM0 μ d b c e)
def kr_dM2 (μ : kc_Sg) (d : Nat) (b c e : Int32) : kc_Sg := kc_it (kf_M_deal_2 d) 7 1 (kq_M_put (kr_dM1 μ d b c e) (nI 1) d (nI 0) (nI 0))
theorem kr_dM0_c {b c e : Int32} {j : Nat} (h1 : j ≠ 38) (h2 : j ≠ 43) (h3 : j ≠ 44) : kr_dM0 μ d b c e j = μ j := by
  unfold kr_dM0
  rw [kc_up_ne h3, kc_up_ne h3, kc_up_ne h3, kc_up_ne h3, kc_up_ne h2, kc_up_ne h1]
theorem kr_dM0_r {b c e : Int32} : kr_dM0 μ d b c e 44 (4 * d) = (if (μ 42 d) = (nI 3) then (nI 1) else (nI 0)) ∧ kr_dM0 μ d b c e 44 (4 * d + 1) = b ∧ kr_dM0 μ d b c e 44 (4 * d + 2) = c ∧ kr_dM0 μ d b c e 44 (4 * d + 3) = e ∧ (∀ x, (∀ i, i < 4 → x ≠ 4 * d + i) → kr_dM0 μ d b c e 44 x = μ 44 x) ∧ (∀ i, 1 ≤ i → kr_dM0 μ d b c e 38 i = μ 38 i) ∧ kr_dM0 μ d b c e 38 0 = nI 0 ∧ kr_dM0 μ d b c e 43 d = nI 1 ∧ ∀ f, f ≠ d → kr_dM0 μ d b c e 43 f = μ 43 f := by
  unfold kr_dM0
  refine ⟨?_, ?_, ?_, kc_up_jj, fun x hx => ?_, fun i hi => ?_, ?_, ?_, fun f hf => ?_⟩
  · rw [kc_up_nj (by omega), kc_up_nj (by omega), kc_up_nj (by omega), kc_up_jj]
  · rw [kc_up_nj (by omega), kc_up_nj (by omega), kc_up_jj]
  · rw [kc_up_nj (by omega), kc_up_jj]
  · rw [kc_up_nj (hx 3 (by decide)), kc_up_nj (hx 2 (by decide)), kc_up_nj (hx 1 (by decide)), kc_up_nj (show x ≠ 4 * d from hx 0 (by decide)), kc_up_ne (by decide), kc_up_ne (by decide)]
  · rw [kc_up_ne (by decide), kc_up_ne (by decide), kc_up_ne (by decide), kc_up_ne (by decide), kc_up_ne (by decide), kc_up_nj (by omega)]
  · rw [kc_up_ne (by decide), kc_up_ne (by decide), kc_up_ne (by decide), kc_up_ne (by decide), kc_up_ne (by decide), kc_up_jj]
  · rw [kc_up_ne (by decide), kc_up_ne (by decide), kc_up_ne (by decide), kc_up_ne (by decide), kc_up_jj]
  · rw [kc_up_ne (by decide), kc_up_ne (by decide), kc_up_ne (by decide), kc_up_ne (by decide), kc_up_nj hf, kc_up_ne (by decide)]
theorem kr_dM1_r {b c e : Int32} : (∀ i, i < 4 → kr_dM1 μ d b c e 45 (4 * d + i) = kp_M_power (kr_dM0 μ d b c e) (kr_dM0 μ d b c e 38 3) (kr_dM0 μ d b c e 44 (4 * d + i))) ∧ (∀ x, (∀ i, i < 4 → x ≠ 4 * d + i) → kr_dM1 μ d b c e 45 x = μ 45 x) ∧ ∀ j, j ≠ 45 → kr_dM1 μ d b c e j = kr_dM0 μ d b c e j := by
  unfold kr_dM1
  have hr := kr_row (F := kf_M_deal_1 d) (k := 45) (ix := fun i => 4 * d + i) (g := fun a i => kp_M_power a (a 38 3) (a 44 (4 * d + i))) (fun i a => kc_up_jj) (fun i a x hx => kc_up_nj hx) (fun i j h => by omega) (fun i j a => by
    unfold kf_M_deal_1
    rw [kc_up_ne (by decide : 38 ≠ 45), kc_up_ne (by decide : 44 ≠ 45), ke_power (σ := a) (by rw [kc_up_ne (by decide)])]) 4 0 (kr_dM0 μ d b c e)
  refine ⟨fun i hi => hr.1 i (by omega) (by omega), fun x hx => ?_, fun j hj => ke_it (fun i a => by unfold kf_M_deal_1; rw [kc_up_ne hj]) 4 0 _⟩
  rw [hr.2 x (fun j a b => hx j (by omega)), kr_dM0_c (by decide) (by decide) (by decide)]
theorem ke_sent {σ τ : kc_Sg} (h1 : τ 38 2 = σ 38 2) (h42 : τ 42 d = σ 42 d) (hk : ∀ i, i < 4 → τ 44 (4 * d + i) = σ 44 (4 * d + i)) (x : Int32) : kp_M_sent τ d x = kp_M_sent σ d x := by
  unfold kp_M_sent
  rw [h1, h42, ke_valueAtM h1 hk]
theorem kr_dM2_r {b c e : Int32} : (∀ k, 1 ≤ k → k ≤ 7 → kr_dM2 μ d b c e 46 (8 * d + k) = kp_M_sent (kr_dM0 μ d b c e) d (nI k)) ∧ (∀ x, (∀ k, 1 ≤ k → k ≤ 7 → x ≠ 8 * d + k) → kr_dM2 μ d b c e 46 x = μ 46 x) ∧ ∀ j, j ≠ 46 → kr_dM2 μ d b c e j = kq_M_put (kr_dM1 μ d b c e) (nI 1) d (nI 0) (nI 0) j := by
  unfold kr_dM2
  have hr := kr_row (F := kf_M_deal_2 d) (k := 46) (ix := fun i => 8 * d + i) (g := fun a i => kp_M_sent a d (nI i)) (fun i a => kc_up_jj) (fun i a x hx => kc_up_nj hx) (fun i j h => by omega) (fun i j a => by
    unfold kf_M_deal_2
    exact ke_sent (by rw [kc_up_ne (by decide)]) (by rw [kc_up_ne (by decide)]) (fun i hi => by rw [kc_up_ne (by decide)]) _) 7 1 (kq_M_put (kr_dM1 μ d b c e) (nI 1) d (nI 0) (nI 0))
  refine ⟨fun k a b => ?_, fun x hx => ?_, fun j hj => ke_it (fun i a => by unfold kf_M_deal_2; rw [kc_up_ne hj]) 7 1 _⟩
  · refine (hr.1 k a (by omega)).trans ?_
    refine ke_sent ?_ ?_ (fun i hi => ?_) _
    · rw [ke_put2, kr_dM1_r.2.2 38 (by decide)]
    · rw [ke_putc _ _ _ _ _ (by decide) (by decide), kr_dM1_r.2.2 42 (by decide)]
    · rw [ke_putc _ _ _ _ _ (by decide) (by decide), kr_dM1_r.2.2 44 (by decide)]
  · rw [hr.2 x (fun j a b => hx j a (by omega)), ke_putc _ _ _ _ _ (by decide) (by decide), kr_dM1_r.2.2 46 (by decide), kr_dM0_c (by decide) (by decide) (by decide)]
end KR10
