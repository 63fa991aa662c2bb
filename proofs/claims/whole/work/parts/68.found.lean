/-! the simulation: loops that write a row; a new week; found -/
theorem kr_row {F : Nat → kc_Sg → kc_Sg} {k : Nat} {ix : Nat → Nat} {g : kc_Sg → Nat → Int32} (r1 : ∀ i a, F i a k (ix i) = g a i) (r2 : ∀ i a x, x ≠ ix i → F i a k x = a k x) (inj : ∀ i j, i ≠ j → ix i ≠ ix j) (hg : ∀ i j a, g (F j a) i = g a i) : ∀ n i0 σ, (∀ j, i0 ≤ j → j < i0 + n → kc_it F n i0 σ k (ix j) = g σ j) ∧ ∀ x, (∀ j, i0 ≤ j → j < i0 + n → x ≠ ix j) → kc_it F n i0 σ k x = σ k x := by
  intro n
  induction n with
  | zero =>
    intro i0 σ
    exact ⟨fun j h1 h2 => by omega, fun x _ => rfl⟩
  | succ n ih =>
    intro i0 σ
    obtain ⟨a, b⟩ := ih (i0 + 1) (F i0 σ)
    refine ⟨fun j h1 h2 => ?_, fun x hx => ?_⟩
    · show kc_it F n (i0 + 1) (F i0 σ) k (ix j) = g σ j
      by_cases h : j = i0
      · subst h
        rw [b (ix j) (fun e h3 h4 => inj j e (by omega)), r1]
      · rw [a j (by omega) (by omega), hg]
    · show kc_it F n (i0 + 1) (F i0 σ) k x = σ k x
      rw [b x (fun j h3 h4 => hx j (by omega) (by omega)), r2 i0 σ x (hx i0 (Nat.le_refl _) (by omega))]
section KR7
variable {n p q d : Nat} {κ μ : kc_Sg}
theorem kr_uu {σ : kc_Sg} {k i j : Nat} {x : Int32} : kc_up σ k i x k j = if j = i then x else σ k j := by
  by_cases h : j = i
  · subst h
    rw [if_pos rfl, kc_up_jj]
  · rw [if_neg h, kc_up_nj h]
theorem kr_nw1 (σ : kc_Sg) : (∀ i, i < 8 → kc_it kf_M_newWeek_1 8 0 σ 42 i = nI 0 ∧ kc_it kf_M_newWeek_1 8 0 σ 43 i = nI 0) ∧ ∀ j, j ≠ 42 → j ≠ 43 → kc_it kf_M_newWeek_1 8 0 σ j = σ j := by
  have h1 := (kr_row (F := kf_M_newWeek_1) (k := 42) (ix := fun i => i) (g := fun _ _ => nI 0) (fun i a => by
    unfold kf_M_newWeek_1
    rw [kc_up_nk (by decide), kc_up_jj]) (fun i a x hx => by
    unfold kf_M_newWeek_1
    rw [kc_up_nk (by decide), kc_up_nj hx]) (fun i j h => h) (fun i j a => rfl) 8 0 σ).1
  have h2 := (kr_row (F := kf_M_newWeek_1) (k := 43) (ix := fun i => i) (g := fun _ _ => nI 0) (fun i a => by
    unfold kf_M_newWeek_1
    rw [kc_up_jj]) (fun i a x hx => by
    unfold kf_M_newWeek_1
    rw [kc_up_nj hx, kc_up_nk (by decide)]) (fun i j h => h) (fun i j a => rfl) 8 0 σ).1
  exact ⟨fun i hi => ⟨h1 i (by omega) (by omega), h2 i (by omega) (by omega)⟩, fun j a b => ke_it (fun i s => by
    unfold kf_M_newWeek_1
    rw [kc_up_ne b, kc_up_ne a]) 8 0 σ⟩
theorem kr_nw2 (σ : kc_Sg) : (∀ i, i < 64 → kc_it kf_M_newWeek_2 64 0 σ 47 i = nI 0 ∧ kc_it kf_M_newWeek_2 64 0 σ 48 i = nI 0) ∧ ∀ j, j ≠ 47 → j ≠ 48 → kc_it kf_M_newWeek_2 64 0 σ j = σ j := by
  have h1 := (kr_row (F := kf_M_newWeek_2) (k := 47) (ix := fun i => i) (g := fun _ _ => nI 0) (fun i a => by
    unfold kf_M_newWeek_2
    rw [kc_up_nk (by decide), kc_up_jj]) (fun i a x hx => by
    unfold kf_M_newWeek_2
    rw [kc_up_nk (by decide), kc_up_nj hx]) (fun i j h => h) (fun i j a => rfl) 64 0 σ).1
  have h2 := (kr_row (F := kf_M_newWeek_2) (k := 48) (ix := fun i => i) (g := fun _ _ => nI 0) (fun i a => by
    unfold kf_M_newWeek_2
    rw [kc_up_jj]) (fun i a x hx => by
    unfold kf_M_newWeek_2
    rw [kc_up_nj hx, kc_up_nk (by decide)]) (fun i j h => h) (fun i j a => rfl) 64 0 σ).1
  exact ⟨fun i hi => ⟨h1 i (by omega) (by omega), h2 i (by omega) (by omega)⟩, fun j a b => ke_it (fun i s => by
    unfold kf_M_newWeek_2
    rw [kc_up_ne b, kc_up_ne a]) 64 0 σ⟩
theorem kr_newWeek (σ : kc_Sg) : ((∀ i, i < 8 → kq_M_newWeek σ 42 i = nI 0 ∧ kq_M_newWeek σ 43 i = nI 0) ∧ ∀ i, i < 64 → kq_M_newWeek σ 47 i = nI 0 ∧ kq_M_newWeek σ 48 i = nI 0) ∧ kq_M_newWeek σ 38 5 = σ 38 5 + nI 1 ∧ (∀ i, i ≠ 5 → kq_M_newWeek σ 38 i = σ 38 i) ∧ ∀ j, j ≠ 38 → j ≠ 42 → j ≠ 43 → j ≠ 47 → j ≠ 48 → kq_M_newWeek σ j = σ j := by
  unfold kq_M_newWeek
  obtain ⟨a1, a2⟩ := kr_nw1 (kc_up σ 38 5 (σ 38 5 + nI 1))
  obtain ⟨b1, b2⟩ := kr_nw2 (kc_it kf_M_newWeek_1 8 0 (kc_up σ 38 5 (σ 38 5 + nI 1)))
  refine ⟨⟨fun i hi => ?_, b1⟩, ?_, fun i hi => ?_, fun j h1 h2 h3 h4 h5 => ?_⟩
  · rw [b2 42 (by decide) (by decide), b2 43 (by decide) (by decide)]
    exact a1 i hi
  · rw [b2 38 (by decide) (by decide), a2 38 (by decide) (by decide), kc_up_jj]
  · rw [b2 38 (by decide) (by decide), a2 38 (by decide) (by decide), kc_up_nj hi]
  · rw [b2 j h4 h5, a2 j h2 h3, kc_up_ne h1]
theorem kr_fresh (hk : (∀ i, i < 8 → κ 8 i = nI 0 ∧ κ 12 i = nI 0 ∧ κ 13 i = nI 0) ∧ κ 3 7 = nI 0 ∧ κ 3 8 = nI 0) (hm : (∀ i, i < 8 → μ 42 i = nI 0 ∧ μ 43 i = nI 0) ∧ ∀ i, i < 64 → μ 47 i = nI 0 ∧ μ 48 i = nI 0) (hd : 1 ≤ d ∧ d ≤ 7) : kr_kind κ μ d ∧ kr_done κ μ d ∧ kr_comp κ μ d ∧ kp_M_dealer μ d = nI 0 := by
  obtain ⟨a1, a2, a3⟩ := hk
  obtain ⟨b1, b2⟩ := hm
  have z : kp_M_dealer μ d = nI 0 := by
    unfold kp_M_dealer
    rw [(b1 d (by omega)).2, if_pos kr_i0]
  have za : ∀ k, 1 ≤ k → k ≤ 7 → kp_K_isAmong (nI 0) (nI k) = nI 0 := fun k h1 h2 => by
    rw [km_among 0 (by decide) k (by omega) h1, Nat.zero_testBit]
    rfl
  refine ⟨⟨0, by decide, (a1 d (by omega)).1, (b1 d (by omega)).1⟩, ⟨?_, ?_⟩, ⟨⟨0, by decide, (a1 d (by omega)).2.1⟩, ⟨0, by decide, (a1 d (by omega)).2.2⟩, fun k h1 h2 => ?_⟩, z⟩
  · rw [a2, za d hd.1 hd.2, (b1 d (by omega)).2]
  · rw [a3, za d hd.1 hd.2, z]
  · rw [(a1 d (by omega)).2.1, (a1 d (by omega)).2.2, za k h1 h2, (b2 (8 * d + k) (by omega)).1, (b2 (8 * d + k) (by omega)).2]
    exact ⟨rfl, rfl, fun h => h⟩
theorem ke_valueAtK {σ τ : kc_Sg} {k : Nat} (h1 : τ 1 1 = σ 1 1) (hk : τ k = σ k) (x : Int32) : kp_G_valueAt τ x k = kp_G_valueAt σ x k := by
  have e : kf_G_valueAt_1 τ x k = kf_G_valueAt_1 σ x k := by
    funext i a
    unfold kf_G_valueAt_1 kp_G_addNumbers kp_G_multiplyNumbers
    rw [h1, hk]
  unfold kp_G_valueAt
  rw [e]
theorem ke_valueAtM {σ τ : kc_Sg} (h1 : τ 38 2 = σ 38 2) {r : Nat} (hk : ∀ i, i < 4 → τ 44 (4 * r + i) = σ 44 (4 * r + i)) (x : Int32) : kp_M_valueAt τ r x = kp_M_valueAt σ r x := by
  have g : ∀ (s : kc_Sg), kp_M_valueAt s r x = kf_M_valueAt_1 s r x 3 (kf_M_valueAt_1 s r x 2 (kf_M_valueAt_1 s r x 1 (kf_M_valueAt_1 s r x 0 (nI 0)))) := fun s => rfl
  have e : ∀ i a, i < 4 → kf_M_valueAt_1 τ r x i a = kf_M_valueAt_1 σ r x i a := fun i a hi => by
    unfold kf_M_valueAt_1
    rw [h1, hk (3 - i) (by omega)]
  rw [g, g, e 0 _ (by decide), e 1 _ (by decide), e 2 _ (by decide), e 3 _ (by decide)]
/-- the class's row of commitments -/
theorem kr_commitTo {σ : kc_Sg} {k k2 : Nat} (h1 : k ≠ k2) (h2 : k2 ≠ 1) : ∀ i, i < 4 → kq_G_commitTo σ k k2 k2 i = kp_G_power (σ 1 2) (σ k i) (σ 1 0) := by
  have h := (kr_row (F := kf_G_commitTo_1 k k2) (k := k2) (ix := fun i => i) (g := fun a i => kp_G_power (a 1 2) (a k i) (a 1 0)) (fun i a => kc_up_jj) (fun i a x hx => kc_up_nj hx) (fun i j h => h) (fun i j a => by
    unfold kf_G_commitTo_1
    rw [kc_up_ne (fun e => h2 e.symm), kc_up_ne h1]) 4 0 σ).1
  exact fun i hi => h i (by omega) (by omega)
theorem kr_writeRow {σ : kc_Sg} {k : Nat} {a b c e : Int32} : kq_K_writeRow σ k a b c e k 0 = a ∧ kq_K_writeRow σ k a b c e k 1 = b ∧ kq_K_writeRow σ k a b c e k 2 = c ∧ kq_K_writeRow σ k a b c e k 3 = e := by
  unfold kq_K_writeRow
  refine ⟨?_, ?_, ?_, kc_up_jj⟩
  · rw [kc_up_nj (by decide), kc_up_nj (by decide), kc_up_nj (by decide), kc_up_jj]
  · rw [kc_up_nj (by decide), kc_up_nj (by decide), kc_up_jj]
  · rw [kc_up_nj (by decide), kc_up_jj]
theorem kr_rows {k r : Nat} {κ' μ' : kc_Sg} {a b c e : Int32} (h1 : κ' k 0 = a) (h2 : κ' k 1 = b) (h3 : κ' k 2 = c) (h4 : κ' k 3 = e) (g1 : μ' 44 (4 * r) = a) (g2 : μ' 44 (4 * r + 1) = b) (g3 : μ' 44 (4 * r + 2) = c) (g4 : μ' 44 (4 * r + 3) = e) (n1 : kr_num q a) (n2 : kr_num q b) (n3 : kr_num q c) (n4 : kr_num q e) : ∀ i, i < 4 → κ' k i = μ' 44 (4 * r + i) ∧ kr_num q (μ' 44 (4 * r + i)) := by
  intro i hi
  rcases (show i = 0 ∨ i = 1 ∨ i = 2 ∨ i = 3 by omega) with rfl | rfl | rfl | rfl
  · exact ⟨h1.trans g1.symm, by rw [Nat.add_zero, g1]; exact n1⟩
  · exact ⟨h2.trans g2.symm, by rw [g2]; exact n2⟩
  · exact ⟨h3.trans g3.symm, by rw [g3]; exact n3⟩
  · exact ⟨h4.trans g4.symm, by rw [g4]; exact n4⟩
theorem kr_number (hq : kr_q q) (h1 : κ 1 1 = nI q) (h2 : μ 38 2 = nI q) (v : Int32) : (kp_G_isNumber κ v = nI 1 ∧ kp_M_noNumber μ v = nI 0 ∧ kr_num q v) ∨ (kp_G_isNumber κ v = nI 0 ∧ kp_M_noNumber μ v = nI 1) := by
  unfold kp_G_isNumber kp_M_noNumber
  rw [h1, h2]
  by_cases h : v < 0
  · rw [if_pos h, if_pos h]
    exact Or.inr ⟨rfl, rfl⟩
  · rw [if_neg h, if_neg h]
    obtain ⟨i, hi, rfl⟩ := nI_of h
    by_cases h3 : i < q
    · rw [if_neg (nI_ge h3 (by omega)), if_pos (nI_lt h3 (by omega))]
      exact Or.inl ⟨rfl, rfl, i, h3, rfl⟩
    · rw [if_pos (nI_le (by omega) hi), if_neg (nI_nlt (by omega) hi)]
      exact Or.inr ⟨rfl, rfl⟩
theorem kr_numbers (hq : kr_q q) (h1 : κ 1 1 = nI q) (h2 : μ 38 2 = nI q) (b c e : Int32) : (¬ kp_G_areNumbers κ b c e = 0 ∧ (kp_M_noNumber μ b = nI 0 ∧ kp_M_noNumber μ c = nI 0 ∧ kp_M_noNumber μ e = nI 0) ∧ kr_num q b ∧ kr_num q c ∧ kr_num q e) ∨ (kp_G_areNumbers κ b c e = 0 ∧ (kp_M_noNumber μ b = nI 1 ∨ (kp_M_noNumber μ b = nI 0 ∧ (kp_M_noNumber μ c = nI 1 ∨ (kp_M_noNumber μ c = nI 0 ∧ kp_M_noNumber μ e = nI 1))))) := by
  unfold kp_G_areNumbers
  rcases kr_number hq h1 h2 b with ⟨a1, a2, a3⟩ | ⟨a1, a2⟩
  · rw [a1, if_neg kr_i1]
    rcases kr_number hq h1 h2 c with ⟨b1, b2, b3⟩ | ⟨b1, b2⟩
    · rw [b1, if_neg kr_i1]
      rcases kr_number hq h1 h2 e with ⟨c1, c2, c3⟩ | ⟨c1, c2⟩
      · rw [c1, if_neg kr_i1]
        exact Or.inl ⟨kr_i1, ⟨a2, b2, c2⟩, a3, b3, c3⟩
      · rw [c1, if_pos kr_i0]
        exact Or.inr ⟨kr_i0, Or.inr ⟨a2, Or.inr ⟨b2, c2⟩⟩⟩
    · rw [b1, if_pos kr_i0]
      exact Or.inr ⟨kr_i0, Or.inr ⟨a2, Or.inl b2⟩⟩
  · rw [a1, if_pos kr_i0]
    exact Or.inr ⟨kr_i0, Or.inl a2⟩
/-- the class's new state at found -/
def kr_fK0 (κ : kc_Sg) (a b c e : Int32) : kc_Sg := kc_it kf_K_found_1 7 1 (kq_G_commitTo (kq_K_writeRow κ 6 a b c e) 6 5)
theorem kr_fK0_c (κ : kc_Sg) (a b c e : Int32) {j : Nat} (h4 : j ≠ 4) (h5 : j ≠ 5) (h6 : j ≠ 6) : kr_fK0 κ a b c e j = κ j := by
  unfold kr_fK0
  rw [ke_it (fun i s => by unfold kf_K_found_1; rw [kc_up_ne h4]) 7 1, ke_commitTo h5, ke_writeRow h6]
theorem kr_fK0_r (κ : kc_Sg) (a b c e : Int32) : (∀ i, i < 4 → kr_fK0 κ a b c e 5 i = kp_G_power (κ 1 2) (kq_K_writeRow κ 6 a b c e 6 i) (κ 1 0)) ∧ ∀ i, 1 ≤ i → i ≤ 7 → kr_fK0 κ a b c e 4 i = kp_G_valueAt (kq_K_writeRow κ 6 a b c e) (nI i) 6 := by
  unfold kr_fK0
  refine ⟨fun i hi => ?_, fun i h1 h2 => ?_⟩
  · rw [ke_it (fun i s => by unfold kf_K_found_1; rw [kc_up_ne (by decide)]) 7 1, kr_commitTo (by decide) (by decide) i hi, ke_writeRow (by decide)]
  · have h := (kr_row (F := kf_K_found_1) (k := 4) (ix := fun i => i) (g := fun a i => kp_G_valueAt a (nI i) 6) (fun i a => kc_up_jj) (fun i a x hx => kc_up_nj hx) (fun i j h => h) (fun i j a => by
      unfold kf_K_found_1
      exact ke_valueAtK (kc_up_nk (by decide)) (kc_up_ne (by decide)) _) 7 1 (kq_G_commitTo (kq_K_writeRow κ 6 a b c e) 6 5)).1 i h1 (by omega)
    rw [h]
    exact ke_valueAtK (by rw [ke_commitTo (by decide)]) (by rw [ke_commitTo (by decide)]) _
def kr_fM0 (μ : kc_Sg) (a b c e : Int32) : kc_Sg := kc_up (kc_up (kc_up (kc_up (kc_up μ 38 0 (nI 0)) 44 0 a) 44 1 b) 44 2 c) 44 3 e
def kr_fM1 (μ : kc_Sg) (a b c e : Int32) : kc_Sg := kc_it kf_M_found_2 7 1 (kc_it kf_M_found_1 4 0 (kr_fM0 μ a b c e))
theorem kr_fM1_c (μ : kc_Sg) (a b c e : Int32) {j : Nat} (h1 : j ≠ 39) (h2 : j ≠ 40) (h3 : j ≠ 41) : kr_fM1 μ a b c e j = kr_fM0 μ a b c e j := by
  unfold kr_fM1
  rw [ke_it (fun i s => by unfold kf_M_found_2; rw [kc_up_ne h2, kc_up_ne h1]) 7 1, ke_it (fun i s => by unfold kf_M_found_1; rw [kc_up_ne h3]) 4 0]
theorem kr_fM1_r (μ : kc_Sg) (a b c e : Int32) : (∀ i, i < 4 → kr_fM1 μ a b c e 41 i = kp_M_power (kr_fM0 μ a b c e) (kr_fM0 μ a b c e 38 3) (kr_fM0 μ a b c e 44 i)) ∧ ∀ i, 1 ≤ i → i ≤ 7 → kr_fM1 μ a b c e 39 i = kp_M_valueAt (kr_fM0 μ a b c e) 0 (nI i) ∧ kr_fM1 μ a b c e 40 i = nI 0 := by
  unfold kr_fM1
  generalize kr_fM0 μ a b c e = τ
  have h1 : ∀ i, i < 4 → kc_it kf_M_found_1 4 0 τ 41 i = kp_M_power τ (τ 38 3) (τ 44 i) := fun i hi => (kr_row (F := kf_M_found_1) (k := 41) (ix := fun i => i) (g := fun a i => kp_M_power a (a 38 3) (a 44 i)) (fun i a => kc_up_jj) (fun i a x hx => kc_up_nj hx) (fun i j h => h) (fun i j a => by
    unfold kf_M_found_1
    rw [kc_up_ne (by decide : 38 ≠ 41), kc_up_ne (by decide : 44 ≠ 41), ke_power (σ := a) (by rw [kc_up_ne (by decide)])]) 4 0 τ).1 i (by omega) (by omega)
  refine ⟨fun i hi => ?_, fun i a1 a2 => ⟨?_, ?_⟩⟩
  · rw [ke_it (fun i s => by unfold kf_M_found_2; rw [kc_up_ne (by decide), kc_up_ne (by decide)]) 7 1, h1 i hi]
  · have h := (kr_row (F := kf_M_found_2) (k := 39) (ix := fun i => i) (g := fun a i => kp_M_valueAt a 0 (nI i)) (fun i a => by
      unfold kf_M_found_2
      rw [kc_up_nk (by decide), kc_up_jj]) (fun i a x hx => by
      unfold kf_M_found_2
      rw [kc_up_nk (by decide), kc_up_nj hx]) (fun i j h => h) (fun i j a => by
      unfold kf_M_found_2
      exact ke_valueAtM (by rw [kc_up_ne (by decide), kc_up_ne (by decide)]) (fun i hi => by rw [kc_up_ne (by decide), kc_up_ne (by decide)]) _) 7 1 (kc_it kf_M_found_1 4 0 τ)).1 i a1 (by omega)
    rw [h]
    exact ke_valueAtM (by rw [ke_it (fun i s => by unfold kf_M_found_1; rw [kc_up_ne (by decide)]) 4 0]) (fun i hi => by rw [ke_it (fun i s => by unfold kf_M_found_1; rw [kc_up_ne (by decide)]) 4 0]) _
  · exact (kr_row (F := kf_M_found_2) (k := 40) (ix := fun i => i) (g := fun _ _ => nI 0) (fun i a => kc_up_jj) (fun i a x hx => by
      unfold kf_M_found_2
      rw [kc_up_nj hx, kc_up_nk (by decide)]) (fun i j h => h) (fun i j a => rfl) 7 1 (kc_it kf_M_found_1 4 0 τ)).1 i a1 (by omega)
theorem kr_fM0_r (μ : kc_Sg) (a b c e : Int32) : kr_fM0 μ a b c e 44 (4 * 0) = a ∧ kr_fM0 μ a b c e 44 (4 * 0 + 1) = b ∧ kr_fM0 μ a b c e 44 (4 * 0 + 2) = c ∧ kr_fM0 μ a b c e 44 (4 * 0 + 3) = e ∧ (∀ i, 1 ≤ i → kr_fM0 μ a b c e 38 i = μ 38 i) ∧ kr_fM0 μ a b c e 38 0 = nI 0 := by
  unfold kr_fM0
  refine ⟨?_, ?_, ?_, kc_up_jj, fun i hi => ?_, ?_⟩
  · rw [kc_up_nj (by decide), kc_up_nj (by decide), kc_up_nj (by decide), kc_up_jj]
  · rw [kc_up_nj (by decide), kc_up_nj (by decide), kc_up_jj]
  · rw [kc_up_nj (by decide), kc_up_jj]
  · rw [kc_up_ne (by decide), kc_up_ne (by decide), kc_up_ne (by decide), kc_up_ne (by decide), kc_up_nj (by omega)]
  · rw [kc_up_ne (by decide), kc_up_ne (by decide), kc_up_ne (by decide), kc_up_ne (by decide), kc_up_jj]
theorem kr_found (hg : kr_g κ μ p q) {a b c e : Int32} (na : kr_num q a) (nb : kr_num q b) (nc : kr_num q c) (ne : kr_num q e) : kr_g (kc_up (kq_V_begin (kq_B_empty (kr_fK0 κ a b c e))) 0 6 (nI 1)) (kq_M_newWeek (kc_up (kc_up (kc_up (kr_fM1 μ a b c e) 38 4 (nI 1)) 38 16 (nI 0)) 38 5 (nI 0))) p q ∧ kr_F n q (kc_up (kq_V_begin (kq_B_empty (kr_fK0 κ a b c e))) 0 6 (nI 1)) (kq_M_newWeek (kc_up (kc_up (kc_up (kr_fM1 μ a b c e) 38 4 (nI 1)) 38 16 (nI 0)) 38 5 (nI 0))) := by
  obtain ⟨hq, hp, g1, g2, g3, g4, g5⟩ := hg
  obtain ⟨w1, w2, w3, w4⟩ := kr_newWeek (kc_up (kc_up (kc_up (kr_fM1 μ a b c e) 38 4 (nI 1)) 38 16 (nI 0)) 38 5 (nI 0))
  generalize hM : kq_M_newWeek (kc_up (kc_up (kc_up (kr_fM1 μ a b c e) 38 4 (nI 1)) 38 16 (nI 0)) 38 5 (nI 0)) = μ' at w1 w2 w3 w4 ⊢
  obtain ⟨z1, z2, z3, z4, z5, z6⟩ := kr_fM0_r μ a b c e
  obtain ⟨x1, x2⟩ := kr_fM1_r μ a b c e
  obtain ⟨y1, y2⟩ := kr_fK0_r κ a b c e
  obtain ⟨b1, b2, b3⟩ := kr_begin (σ := kq_B_empty (kr_fK0 κ a b c e))
  have eK : ∀ j, j ≠ 0 → j ≠ 2 → j ≠ 3 → j ≠ 8 → j ≠ 12 → j ≠ 13 → kc_up (kq_V_begin (kq_B_empty (kr_fK0 κ a b c e))) 0 6 (nI 1) j = kr_fK0 κ a b c e j := fun j h0 h2 h3 h8 h12 h13 => by
    rw [kc_up_ne h0, kr_beginC h3 h8 h12 h13]
    unfold kq_B_empty
    rw [kc_up_ne h2]
  have eM : ∀ j, j ≠ 38 → j ≠ 42 → j ≠ 43 → j ≠ 47 → j ≠ 48 → μ' j = kr_fM1 μ a b c e j := fun j h1 h2 h3 h4 h5 => by
    rw [w4 j h1 h2 h3 h4 h5, kc_up_ne h1, kc_up_ne h1, kc_up_ne h1]
  have e38 : ∀ i, i ≠ 5 → i ≠ 16 → i ≠ 4 → 1 ≤ i → μ' 38 i = μ 38 i := fun i h5 h16 h4 h1 => by
    rw [w3 i h5, kc_up_nj h5, kc_up_nj h16, kc_up_nj h4, kr_fM1_c μ a b c e (by decide) (by decide) (by decide), z5 i h1]
  generalize hK : kc_up (kq_V_begin (kq_B_empty (kr_fK0 κ a b c e))) 0 6 (nI 1) = κ' at eK ⊢
  have hk8 : (∀ i, i < 8 → κ' 8 i = nI 0 ∧ κ' 12 i = nI 0 ∧ κ' 13 i = nI 0) ∧ κ' 3 7 = nI 0 ∧ κ' 3 8 = nI 0 := by
    rw [← hK, kc_up_ne (by decide), kc_up_ne (by decide), kc_up_ne (by decide), kc_up_ne (by decide)]
    exact ⟨b1, b2, b3⟩
  obtain ⟨r1, r2, r3, r4⟩ := kr_writeRow (σ := κ) (k := 6) (a := a) (b := b) (c := c) (e := e)
  have hrows := kr_rows (k := 6) (r := 0) (κ' := kq_K_writeRow κ 6 a b c e) (μ' := kr_fM0 μ a b c e) r1 r2 r3 r4 z1 z2 z3 z4 na nb nc ne
  refine ⟨⟨hq, hp, ?_, ?_, ?_, ?_, ?_⟩, ⟨1, by decide, by omega, ?_, ?_⟩, ?_, ⟨0, by decide, ?_, ?_, fun i hi => by omega⟩, fun i hi => ?_, ⟨0, by decide, hk8.2.1⟩, ⟨0, by decide, hk8.2.2⟩, fun i hi _ => w1.2 i hi, fun d d1 d2 => ?_⟩
  · rw [eK 1 (by decide) (by decide) (by decide) (by decide) (by decide) (by decide), kr_fK0_c κ a b c e (by decide) (by decide) (by decide)]
    exact g1
  · rw [eK 1 (by decide) (by decide) (by decide) (by decide) (by decide) (by decide), kr_fK0_c κ a b c e (by decide) (by decide) (by decide)]
    exact g2
  · rw [e38 1 (by decide) (by decide) (by decide) (by decide)]
    exact g3
  · rw [e38 2 (by decide) (by decide) (by decide) (by decide)]
    exact g4
  · rw [e38 3 (by decide) (by decide) (by decide) (by decide), eK 1 (by decide) (by decide) (by decide) (by decide) (by decide) (by decide), kr_fK0_c κ a b c e (by decide) (by decide) (by decide)]
    exact g5
  · rw [← hK, kc_up_jj]
  · rw [w2, kc_up_jj, nI_add]
  · rw [w3 4 (by decide), kc_up_nj (by decide), kc_up_nj (by decide), kc_up_jj]
  · rw [← hK, kc_up_ne (by decide), kr_beginC (by decide) (by decide) (by decide) (by decide)]
    exact kc_up_jj
  · rw [w3 16 (by decide), kc_up_nj (by decide), kc_up_jj]
  · rw [eK 5 (by decide) (by decide) (by decide) (by decide) (by decide) (by decide), eM 41 (by decide) (by decide) (by decide) (by decide) (by decide), y1 i hi, x1 i hi, kr_power (p := p) (by omega) hp.2 (by rw [z5 1 (by decide)]; exact g3), z5 3 (by decide), g1, g5]
    have := (hrows i hi).1
    rw [this, show 4 * 0 + i = i by omega]
  · obtain ⟨k1, k2, k3, k4⟩ := kr_fresh hk8 w1 ⟨d1, d2⟩
    refine ⟨k1, Or.inl ⟨?_, ?_, ?_⟩, k2, k3, Or.inl k4⟩
    · rw [eM 40 (by decide) (by decide) (by decide) (by decide) (by decide)]
      exact (x2 d d1 d2).2
    · rw [eK 4 (by decide) (by decide) (by decide) (by decide) (by decide) (by decide), eM 39 (by decide) (by decide) (by decide) (by decide) (by decide), y2 d d1 d2, (x2 d d1 d2).1]
      exact (kr_valueAt hq (by rw [ke_writeRow (by decide)]; exact g2) (by rw [z5 2 (by decide)]; exact g4) d2 hrows).1
    · rw [eM 39 (by decide) (by decide) (by decide) (by decide) (by decide), (x2 d d1 d2).1]
      exact (kr_valueAt (κ := kq_K_writeRow κ 6 a b c e) hq (by rw [ke_writeRow (by decide)]; exact g2) (by rw [z5 2 (by decide)]; exact g4) d2 hrows).2
theorem kr_mz (h : kr_Q n κ μ) (hn : n < 512) (hz : ¬ μ 38 1 = 0) : ¬ μ 38 1 = 0 ∧ ¬ μ 38 2 = 0 := by
  rcases h with ⟨-, -, h3, -⟩ | ⟨p, q, hg, -⟩
  · exact absurd h3 hz
  · exact hg.mz
theorem kr_z_found (h : kr_Q n κ μ) (hn : n < 512) (hz : μ 38 1 = 0) (a b c e : Int32) : (kt_K_found κ a b c e = 0 ∨ kt_K_found κ a b c e = 1 ∨ kt_K_found κ a b c e = 3) ∧ (kq_M_found_z μ) 38 0 = kw_c_found (kt_K_found κ a b c e) ∧ kr_Q (n + 1) (kq_K_found κ a b c e) (kq_M_found_z μ) := by
  have hs : kp_G_stands κ = 0 := by
    rcases h with ⟨h1, h2, -⟩ | ⟨p, q, hg, -⟩
    · unfold kp_G_stands
      rw [h2, if_pos (by decide +kernel)]
      exact kr_i0
    · exact absurd hz hg.mz.1
  unfold kt_K_found kq_K_found
  rw [if_pos hs, if_pos hs]
  exact ⟨Or.inr (Or.inl rfl), kc_up_jj, h.thr _⟩
theorem kr_m_found (h : kr_Q n κ μ) (hn : n < 512) (hz : ¬ μ 38 1 = 0) (a b c e : Int32) : (kt_K_found κ a b c e = 0 ∨ kt_K_found κ a b c e = 1 ∨ kt_K_found κ a b c e = 3) ∧ (kq_M_found μ a b c e) 38 0 = kw_c_found (kt_K_found κ a b c e) ∧ kr_Q (n + 1) (kq_K_found κ a b c e) (kq_M_found μ a b c e) := by
  rcases h with ⟨-, -, h3, -⟩ | ⟨p, q, hg, h⟩
  · exact absurd h3 hz
  have hQ : kr_Q n κ μ := Or.inr ⟨p, q, hg, h⟩
  obtain ⟨hq, hp, g1, g2, g3, g4, g5⟩ := hg
  have hs : ¬ kp_G_stands κ = 0 := by
    unfold kp_G_stands
    rw [g2, if_neg (nI_ge (by omega) (by omega))]
    exact kr_i1
  unfold kt_K_found kq_K_found kq_M_found
  rw [if_neg hs, if_neg hs]
  rcases kr_number hq g2 g4 a with ⟨a1, a2, a3⟩ | ⟨a1, a2⟩
  · rw [a1, a2, if_neg kr_i1, if_neg kr_i1, if_pos kr_i0]
    rcases kr_numbers hq g2 g4 b c e with ⟨b1, ⟨b2, b3, b4⟩, n1, n2, n3⟩ | ⟨b1, b2⟩
    · rw [if_neg b1, if_neg b1, b2, b3, b4, if_pos kr_i0, if_pos kr_i0, if_pos kr_i0]
      refine ⟨Or.inl rfl, ?_, ?_⟩
      · rw [(kr_newWeek _).2.2.1 0 (by decide), kc_up_nj (by decide), kc_up_nj (by decide), kc_up_nj (by decide)]
        show kr_fM1 μ a b c e 38 0 = _
        rw [kr_fM1_c μ a b c e (by decide) (by decide) (by decide), (kr_fM0_r μ a b c e).2.2.2.2.2]
        rfl
      · obtain ⟨k1, k2⟩ := kr_found (n := n + 1) ⟨hq, hp, g1, g2, g3, g4, g5⟩ a3 n1 n2 n3
        exact Or.inr ⟨p, q, k1, Or.inr k2⟩
    · rw [if_pos b1, if_pos b1]
      rcases b2 with b2 | ⟨b2, b3 | ⟨b3, b4⟩⟩
      · rw [b2, if_neg kr_i1]
        exact ⟨Or.inr (Or.inr rfl), kc_up_jj, hQ.thr _⟩
      · rw [b2, if_pos kr_i0, b3, if_neg kr_i1]
        exact ⟨Or.inr (Or.inr rfl), kc_up_jj, hQ.thr _⟩
      · rw [b2, if_pos kr_i0, b3, if_pos kr_i0, b4, if_neg kr_i1]
        exact ⟨Or.inr (Or.inr rfl), kc_up_jj, hQ.thr _⟩
  · rw [a1, a2, if_pos kr_i0, if_pos kr_i0, if_neg kr_i1]
    exact ⟨Or.inr (Or.inr rfl), kc_up_jj, hQ.thr _⟩
theorem kr_fM_found_z (μ : kc_Sg) : ∀ j, j < 38 ∨ j = 50 → kq_M_found_z μ j = μ j := fun j hj => kc_up_ne (by omega)
theorem kr_fM_found (μ : kc_Sg) (a b c e : Int32) : ∀ j, j < 38 ∨ j = 50 → kq_M_found μ a b c e j = μ j := by
  intro j hj
  unfold kq_M_found
  (repeat' split) <;> first | (rw [kc_up_ne (by omega)]; done) | skip
  rw [(kr_newWeek _).2.2.2 j (by omega) (by omega) (by omega) (by omega) (by omega), kc_up_ne (by omega), kc_up_ne (by omega), kc_up_ne (by omega)]
  show kr_fM1 μ a b c e j = _
  rw [kr_fM1_c μ a b c e (by omega) (by omega) (by omega)]
  unfold kr_fM0
  rw [kc_up_ne (by omega), kc_up_ne (by omega), kc_up_ne (by omega), kc_up_ne (by omega), kc_up_ne (by omega)]
theorem kr_fK_found (κ : kc_Sg) (a b c e : Int32) : ∀ j, 38 ≤ j → kq_K_found κ a b c e j = κ j := by
  intro j hj
  unfold kq_K_found
  (repeat' split) <;> first | rfl | skip
  rw [kc_up_ne (by omega), kr_beginC (by omega) (by omega) (by omega) (by omega)]
  unfold kq_B_empty
  rw [kc_up_ne (by omega)]
  show kr_fK0 κ a b c e j = _
  rw [kr_fK0_c κ a b c e (by omega) (by omega) (by omega)]
theorem kr_tK_found (κ : kc_Sg) (a b c e : Int32) : ¬ kt_K_found κ a b c e = 0 → kq_K_found κ a b c e = κ := by
  unfold kt_K_found kq_K_found
  intro h
  (repeat' split) <;> first | rfl | (exfalso; apply h; simp [*])
end KR7
