/-! the simulation, on contents alone: numbers -/
theorem kr_lremN {a q : Nat} (ha : a < 2 ^ 63) (h0 : 0 < q) (hq : q < 2 ^ 31) : kc_lrem (lN a) (lN q) = lN (a % q) := pk_lRem ha h0 (by omega)
theorem kr_one {p : Nat} (h1 : 1 < p) (hp : p < 2 ^ 31) : Int32.toInt64 (kc_rem (nI 1) (nI p)) = lN 1 := by
  rw [kp_remN (by omega) (by omega) hp, Nat.mod_eq_of_lt h1, nI_l (by omega)]
theorem kr_power {μ : kc_Sg} {p : Nat} (h1 : 1 < p) (hp : p < 2 ^ 31) (hm : μ 38 1 = nI p) (b e : Int32) : kp_M_power μ b e = kp_G_power b e (nI p) := by
  unfold kp_M_power kp_G_power
  rw [hm, kr_one h1 hp]
theorem kr_lremI (u : Int64) {p : Nat} (h0 : 0 < p) (hp : p < 2 ^ 31) : (kc_lrem u (lN p)).toInt = u.toInt.tmod p ∧ -(p : Int) < u.toInt.tmod p ∧ u.toInt.tmod p < p := by
  have h2 : (u.toInt.tmod p).natAbs < p := by
    rw [Int.natAbs_tmod]
    exact Nat.mod_lt _ h0
  have h3 : -(p : Int) < u.toInt.tmod p ∧ u.toInt.tmod p < p := by omega
  refine ⟨?_, h3⟩
  unfold kc_lrem
  rw [Int64.toInt_sub, Int64.toInt_mul, Int64.toInt_div, lN_toInt hp, Int.sub_bmod_bmod, ← Int.sub_bmod_bmod, Int.bmod_mul_bmod, Int.sub_bmod_bmod]
  have e : u.toInt - u.toInt.tdiv p * p = u.toInt.tmod p := by
    have := Int.mul_tdiv_add_tmod u.toInt p
    rw [Int.mul_comm] at this
    omega
  rw [e]
  apply Int.bmod_eq_of_le <;> omega
theorem kr_fit (u : Int64) {p : Nat} (h0 : 0 < p) (hp : p < 2 ^ 31) : Int32.toInt64 (Int64.toInt32 (kc_lrem u (lN p))) = kc_lrem u (lN p) := by
  obtain ⟨h1, h2, h3⟩ := kr_lremI u h0 hp
  apply Int64.toInt_inj.mp
  rw [Int32.toInt_toInt64, Int64.toInt_toInt32, h1]
  apply Int.bmod_eq_of_le <;> omega
theorem kr_mulN {κ : kc_Sg} {q a b : Nat} (hq : κ 1 1 = nI q) (h0 : 0 < q) (hq2 : q < 2 ^ 31) (ha : a < 2 ^ 31) (hb : b < 2 ^ 31) : kp_G_multiplyNumbers κ (nI a) (nI b) = nI (a * b % q) := by
  unfold kp_G_multiplyNumbers
  have h : a * b ≤ 2 ^ 31 * 2 ^ 31 := Nat.mul_le_mul (by omega) (by omega)
  rw [hq, nI_l ha, nI_l hb, nI_l hq2, lN_mul, kr_lremN (by omega) h0 hq2, lN_i]
theorem kr_addN {κ : kc_Sg} {q a b : Nat} (hq : κ 1 1 = nI q) (h0 : 0 < q) (hq2 : q < 2 ^ 31) (h : a + b < 2 ^ 31) : kp_G_addNumbers κ (nI a) (nI b) = nI ((a + b) % q) := by
  unfold kp_G_addNumbers
  rw [hq, nI_add, kp_remN h h0 hq2]
/-- a number of the group -/
def kr_num (q : Nat) (x : Int32) : Prop := ∃ v, v < q ∧ x = nI v
abbrev kr_q (q : Nat) : Prop := 11 ≤ q ∧ q ≤ 32749
theorem kr_val1 {κ μ : kc_Sg} {q a x c : Nat} {k r i : Nat} (hq : kr_q q) (h1 : κ 1 1 = nI q) (h2 : μ 38 2 = nI q) (ha : a < q) (hx : x ≤ 7) (hc : c < q) (hk : κ k (3 - i) = nI c) (hm : μ 44 (4 * r + (3 - i)) = nI c) : kf_G_valueAt_1 κ (nI x) k i (nI a) = nI ((a * x + c) % q) ∧ kf_M_valueAt_1 μ r (nI x) i (nI a) = nI ((a * x + c) % q) := by
  have hax : a * x ≤ 32749 * 7 := Nat.mul_le_mul (by omega) hx
  constructor
  · unfold kf_G_valueAt_1
    have hl : a * x % q < q := Nat.mod_lt _ (by omega)
    rw [hk, kr_mulN h1 (by omega) (by omega) (by omega) (by omega), kr_addN h1 (by omega) (by omega) (by omega), Nat.mod_add_mod]
  · unfold kf_M_valueAt_1
    rw [hm, h2, pk_mul, nI_add, kp_remN (by omega) (by omega) (by omega)]
theorem kr_valueAt {κ μ : kc_Sg} {q x k r : Nat} (hq : kr_q q) (h1 : κ 1 1 = nI q) (h2 : μ 38 2 = nI q) (hx : x ≤ 7) (hc : ∀ i, i < 4 → κ k i = μ 44 (4 * r + i) ∧ kr_num q (μ 44 (4 * r + i))) : kp_G_valueAt κ (nI x) k = kp_M_valueAt μ r (nI x) ∧ kr_num q (kp_M_valueAt μ r (nI x)) := by
  obtain ⟨e0, c0, d0, f0⟩ := hc 0 (by omega)
  obtain ⟨e1, c1, d1, f1⟩ := hc 1 (by omega)
  obtain ⟨e2, c2, d2, f2⟩ := hc 2 (by omega)
  obtain ⟨e3, c3, d3, f3⟩ := hc 3 (by omega)
  have m : ∀ y, y % q < q := fun y => Nat.mod_lt _ (by omega)
  obtain ⟨a0, b0⟩ := kr_val1 (κ := κ) (μ := μ) (k := k) (r := r) (i := 0) (a := 0) hq h1 h2 (by omega) hx d3 (e3.trans f3) f3
  obtain ⟨a1, b1⟩ := kr_val1 (κ := κ) (μ := μ) (k := k) (r := r) (i := 1) hq h1 h2 (m (0 * x + c3)) hx d2 (e2.trans f2) f2
  obtain ⟨a2, b2⟩ := kr_val1 (κ := κ) (μ := μ) (k := k) (r := r) (i := 2) hq h1 h2 (m ((0 * x + c3) % q * x + c2)) hx d1 (e1.trans f1) f1
  obtain ⟨a3, b3⟩ := kr_val1 (κ := κ) (μ := μ) (k := k) (r := r) (i := 3) hq h1 h2 (m (((0 * x + c3) % q * x + c2) % q * x + c1)) hx d0 (e0.trans f0) f0
  have g1 : kp_G_valueAt κ (nI x) k = kf_G_valueAt_1 κ (nI x) k 3 (kf_G_valueAt_1 κ (nI x) k 2 (kf_G_valueAt_1 κ (nI x) k 1 (kf_G_valueAt_1 κ (nI x) k 0 (nI 0)))) := rfl
  have g2 : kp_M_valueAt μ r (nI x) = kf_M_valueAt_1 μ r (nI x) 3 (kf_M_valueAt_1 μ r (nI x) 2 (kf_M_valueAt_1 μ r (nI x) 1 (kf_M_valueAt_1 μ r (nI x) 0 (nI 0)))) := rfl
  rw [g1, g2, a0, a1, a2, a3, b0, b1, b2, b3]
  exact ⟨rfl, _, m _, rfl⟩
theorem kr_times1 {κ μ : kc_Sg} {p : Nat} (h1 : 1 < p) (hp : p < 2 ^ 31) (hk : κ 1 0 = nI p) (hm : μ 38 1 = nI p) {k K f i : Nat} (x : Int32) (hc : κ k i = μ K (f + i)) (a e : Int32) : Int32.toInt64 (kf_G_elementAt_1 κ x k i (a, e)).1 = (kf_M_timesAt_1 μ K f x i (a.toInt64, e)).1 ∧ (kf_G_elementAt_1 κ x k i (a, e)).2 = (kf_M_timesAt_1 μ K f x i (a.toInt64, e)).2 := by
  refine ⟨?_, rfl⟩
  show Int32.toInt64 (kp_G_multiply κ a (kp_G_power (κ k i) e (κ 1 0))) = kc_lrem (a.toInt64 * Int32.toInt64 (kp_M_power μ (μ K (f + i)) e)) (Int32.toInt64 (μ 38 1))
  unfold kp_G_multiply
  rw [kr_power h1 hp hm, hk, hm, hc, nI_l hp, kr_fit _ (by omega) hp]
theorem kr_itPair {κ μ : kc_Sg} {p : Nat} (h1 : 1 < p) (hp : p < 2 ^ 31) (hk : κ 1 0 = nI p) (hm : μ 38 1 = nI p) {k K f : Nat} (x : Int32) : ∀ n i a e, (∀ j, i ≤ j → j < i + n → κ k j = μ K (f + j)) → Int32.toInt64 (kc_it (kf_G_elementAt_1 κ x k) n i (a, e)).1 = (kc_it (kf_M_timesAt_1 μ K f x) n i (a.toInt64, e)).1 := by
  intro n
  induction n with
  | zero =>
    intro i a e _
    rfl
  | succ n ih =>
    intro i a e hc
    obtain ⟨e1, e2⟩ := kr_times1 h1 hp hk hm x (hc i (by omega) (by omega)) a e
    have h := ih (i + 1) (kf_G_elementAt_1 κ x k i (a, e)).1 (kf_G_elementAt_1 κ x k i (a, e)).2 (fun j h1 h2 => hc j (by omega) (by omega))
    show Int32.toInt64 (kc_it (kf_G_elementAt_1 κ x k) n (i + 1) (kf_G_elementAt_1 κ x k i (a, e))).1 = (kc_it (kf_M_timesAt_1 μ K f x) n (i + 1) (kf_M_timesAt_1 μ K f x i (a.toInt64, e))).1
    rw [show kf_M_timesAt_1 μ K f x i (a.toInt64, e) = (Int32.toInt64 (kf_G_elementAt_1 κ x k i (a, e)).1, (kf_G_elementAt_1 κ x k i (a, e)).2) from Prod.ext e1.symm e2.symm]
    exact h
theorem kr_elementAt {κ μ : kc_Sg} {p : Nat} (h1 : 1 < p) (hp : p < 2 ^ 31) (hk : κ 1 0 = nI p) (hm : μ 38 1 = nI p) {k K f : Nat} (x : Int32) (hc : ∀ i, i < 4 → κ k i = μ K (f + i)) : kp_G_elementAt κ x k = kp_M_timesAt μ K f x := by
  unfold kp_G_elementAt kp_M_timesAt
  have h := kr_itPair h1 hp hk hm (k := k) (K := K) (f := f) x 4 0 (nI 1) (nI 1) (fun j _ h => hc j (by omega))
  rw [show ((lN 1, nI 1) : Int64 × Int32) = (Int32.toInt64 (nI 1), nI 1) by rw [nI_l (by decide)], ← h, Int32.toInt32_toInt64]
theorem kr_agree {κ μ : kc_Sg} {p : Nat} (h1 : 1 < p) (hp : p < 2 ^ 31) (hk : κ 1 0 = nI p) (hm : μ 38 1 = nI p) (hg : μ 38 3 = κ 1 2) {k d : Nat} (x v : Int32) (hc : ∀ i, i < 4 → κ k i = μ 45 (4 * d + i)) : kp_G_agree κ x k v = kp_M_goodShare μ d x v := by
  unfold kp_G_agree kp_M_goodShare
  rw [kr_elementAt h1 hp hk hm x hc, kr_power h1 hp hm, hk, hg]
