/-! the simulation: interpolation -/
theorem kr_xs (a b : Int32) : (0 ≤ a ^^^ b) ↔ (a < 0 ↔ b < 0) := by
  have h : ∀ c : Int32, c < 0 ↔ c.toBitVec.msb = true := fun c => by
    rw [Int32.lt_iff_toInt_lt, Int32.toInt_zero, BitVec.msb_eq_toInt, decide_eq_true_iff]
    exact Iff.rfl
  have e : (0 ≤ a ^^^ b) ↔ ¬ (a ^^^ b) < 0 := by
    rw [Int32.lt_iff_toInt_lt, Int32.le_iff_toInt_le, Int32.toInt_zero]
    omega
  rw [e, h, h, h, Int32.toBitVec_xor, BitVec.msb_xor]
  cases a.toBitVec.msb <;> cases b.toBitVec.msb <;> decide
theorem kr_neg {x j : Nat} (h : x < j) (hj : j ≤ 7) : nI x - nI j < 0 := pk_sneg (by omega) h
/-- x - j in the numbers below q -/
def kr_D (q x j : Nat) : Nat := (x + q - j) % q
theorem kr_remneg {q x j : Nat} (hq : kr_q q) (h : x < j) (hj : j ≤ 7) : kc_rem (nI x - nI j) (nI q) = nI x - nI j := by
  have e : (nI x - nI j).toInt = (x : Int) - j := pk_sub_toInt (by omega) (by omega)
  have ed : (nI x - nI j) / nI q = 0 := by
    apply Int32.toInt_inj.mp
    rw [Int32.toInt_div, e, nI_toInt (by omega), Int32.toInt_zero]
    have : ((x : Int) - j).tdiv q = 0 := by
      rw [show ((x : Int) - j) = -((j - x : Nat) : Int) by omega, Int.neg_tdiv, Int.tdiv_eq_zero_of_lt (by omega) (by omega)]
      rfl
    rw [this]
    rfl
  unfold kc_rem
  rw [ed, Int32.zero_mul, Int32.sub_zero]
theorem kr_negq {q x j : Nat} (hq : kr_q q) (h : x < j) (hj : j ≤ 7) : nI x - nI j + nI q = nI (x + q - j) := by
  apply Int32.toInt_inj.mp
  rw [Int32.toInt_add, pk_sub_toInt (by omega) (by omega), nI_toInt (by omega), nI_toInt (by omega)]
  rw [show ((x : Int) - j + q) = ((x + q - j : Nat) : Int) by omega]
  apply Int.bmod_eq_of_le <;> omega
theorem kr_floor {q x j : Nat} (hq : kr_q q) (hx : x ≤ 7) (hj : j ≤ 7) : kp_JM_floorMod (nI x - nI j) (nI q) = nI (kr_D q x j) ∧ kc_rem (kc_rem (nI x - nI j) (nI q) + nI q) (nI q) = nI (kr_D q x j) := by
  have hqn : ¬ nI q < 0 := nI_pos (by omega)
  unfold kp_JM_floorMod kr_D
  by_cases h : j ≤ x
  · rw [pk_sub h, if_pos ((kr_xs _ _).mpr ⟨fun e => absurd e (nI_pos (by omega)), fun e => absurd e hqn⟩), kp_remN (by omega) (by omega) (by omega), nI_add]
    have l : (x - j) % q < q := Nat.mod_lt _ (by omega)
    rw [kp_remN (by omega) (by omega) (by omega), show x + q - j = (x - j) + q by omega, Nat.add_mod_right, Nat.add_mod_right, Nat.mod_mod]
    exact ⟨rfl, rfl⟩
  · rw [if_neg (fun e => hqn (((kr_xs _ _).mp e).mp (kr_neg (by omega) hj))), kr_remneg hq (by omega) hj, kr_negq hq (by omega) hj]
    have e0 : ¬ nI x - nI j = 0 := fun e => by
      have := kr_neg (x := x) (j := j) (by omega) hj
      rw [e] at this
      exact absurd this (by decide)
    rw [if_neg e0, kp_remN (by omega) (by omega) (by omega), Nat.mod_eq_of_lt (show x + q - j < q by omega)]
    exact ⟨rfl, rfl⟩
theorem kr_shr1 {e : Nat} (h : e < 2 ^ 31) : kc_shr (nI e) (nI 1) = nI (e / 2) := by
  unfold kc_shr
  rw [pk_shrN h (nI 1 &&& 31) 1 (by decide +kernel)]
theorem kr_and1 {e : Nat} (h : e < 2 ^ 31) : (nI e &&& nI 1 = 0) ↔ e % 2 = 0 := by
  rw [pk_andN (m := nI 1) (by omega) 1 (by decide +kernel)]
  constructor
  · intro q
    exact kp_nI0 (by omega) q
  · intro q
    rw [show e % 2 ^ 1 = 0 from q]
    exact kr_i0
theorem kr_powstep {m r b e : Nat} (h0 : 0 < m) : (if e % 2 = 0 then r else r * b % m) * (b * b % m) ^ (e / 2) % m = r * b ^ e % m := by
  have e1 : b ^ e = b ^ (e % 2) * (b * b) ^ (e / 2) := by
    rw [← Nat.pow_two, ← Nat.pow_mul, ← Nat.pow_add]
    congr 1
    omega
  rw [e1]
  rcases Nat.mod_two_eq_zero_or_one e with h | h
  · rw [h, if_pos rfl, Nat.pow_zero, Nat.one_mul, Nat.mul_mod, ← Nat.pow_mod, ← Nat.mul_mod]
  · rw [h, if_neg (by decide), Nat.pow_one, Nat.mul_mod, Nat.mod_mod, ← Nat.pow_mod, ← Nat.mul_mod, Nat.mul_assoc]
theorem kr_pow {m : Nat} (h0 : 0 < m) (hm : m < 2 ^ 31) : ∀ k e r b, e < 2 ^ k → e < 2 ^ 31 → r < m → b < m → kp_pow (lN m) k (nI e) (lN r) (lN b) = lN (r * b ^ e % m) := by
  intro k
  induction k with
  | zero =>
    intro e r b he _ hr hb
    have : e = 0 := by omega
    subst this
    show lN r = _
    rw [Nat.pow_zero, Nat.mul_one, Nat.mod_eq_of_lt hr]
  | succ k ih =>
    intro e r b he he2 hr hb
    show (if nI e ≤ 0 then lN r else kp_pow (lN m) k (kc_shr (nI e) (nI 1)) (if nI e &&& nI 1 = 0 then lN r else kc_lrem (lN r * lN b) (lN m)) (kc_lrem (lN b * lN b) (lN m))) = _
    by_cases hz : e = 0
    · subst hz
      rw [if_pos (by decide +kernel), Nat.pow_zero, Nat.mul_one, Nat.mod_eq_of_lt hr]
    · have hrb : r * b ≤ 2 ^ 31 * 2 ^ 31 := Nat.mul_le_mul (by omega) (by omega)
      have hbb : b * b ≤ 2 ^ 31 * 2 ^ 31 := Nat.mul_le_mul (by omega) (by omega)
      rw [if_neg (nI_nle (by omega) he2), kr_shr1 he2, lN_mul, lN_mul, kr_lremN (by omega) h0 hm, kr_lremN (by omega) h0 hm]
      have ei : (if nI e &&& nI 1 = 0 then lN r else lN (r * b % m)) = lN (if e % 2 = 0 then r else r * b % m) := by
        by_cases h : e % 2 = 0
        · rw [if_pos ((kr_and1 he2).mpr h), if_pos h]
        · rw [if_neg (fun q => h ((kr_and1 he2).mp q)), if_neg h]
      rw [ei, ih (e / 2) _ _ (by rw [Nat.pow_succ] at he; omega) (by omega) (by split; exact hr; exact Nat.mod_lt _ h0) (Nat.mod_lt _ h0), kr_powstep h0]
theorem kr_ipow {m : Nat} (h0 : 0 < m) (hm : m ≤ 32749) : ∀ k e r b, e < 2 ^ k → e < 2 ^ 31 → r < m → b < m → kp_ipow (nI m) k (nI e) (nI r) (nI b) = nI (r * b ^ e % m) := by
  intro k
  induction k with
  | zero =>
    intro e r b he _ hr hb
    have : e = 0 := by omega
    subst this
    show nI r = _
    rw [Nat.pow_zero, Nat.mul_one, Nat.mod_eq_of_lt hr]
  | succ k ih =>
    intro e r b he he2 hr hb
    show (if nI e ≤ 0 then nI r else kp_ipow (nI m) k (kc_shr (nI e) (nI 1)) (if nI e &&& nI 1 = 0 then nI r else kc_rem (nI r * nI b) (nI m)) (kc_rem (nI b * nI b) (nI m))) = _
    by_cases hz : e = 0
    · subst hz
      rw [if_pos (by decide +kernel), Nat.pow_zero, Nat.mul_one, Nat.mod_eq_of_lt hr]
    · have hrb : r * b ≤ 32749 * 32749 := Nat.mul_le_mul (by omega) (by omega)
      have hbb : b * b ≤ 32749 * 32749 := Nat.mul_le_mul (by omega) (by omega)
      rw [if_neg (nI_nle (by omega) he2), kr_shr1 he2, pk_mul, pk_mul, kp_remN (by omega) h0 (by omega), kp_remN (by omega) h0 (by omega)]
      have ei : (if nI e &&& nI 1 = 0 then nI r else nI (r * b % m)) = nI (if e % 2 = 0 then r else r * b % m) := by
        by_cases h : e % 2 = 0
        · rw [if_pos ((kr_and1 he2).mpr h), if_pos h]
        · rw [if_neg (fun q => h ((kr_and1 he2).mp q)), if_neg h]
      rw [ei, ih (e / 2) _ _ (by rw [Nat.pow_succ] at he; omega) (by omega) (by split; exact hr; exact Nat.mod_lt _ h0) (Nat.mod_lt _ h0), kr_powstep h0]
theorem kr_powq {q D : Nat} (hq : kr_q q) (hD : D < q) : kp_G_power (nI D) (nI q - nI 2) (nI q) = nI (D ^ (q - 2) % q) := by
  unfold kp_G_power
  have h32 : q - 2 < 2 ^ 32 := by omega
  rw [pk_sub (by omega), kr_one (by omega) (by omega), kp_remN (by omega) (by omega) (by omega), Nat.mod_eq_of_lt hD, nI_l (by omega), nI_l (by omega), kr_pow (by omega) (by omega) 32 (q - 2) 1 D h32 (by omega) (by omega) hD, lN_i, Nat.one_mul]
theorem kr_inv {μ : kc_Sg} {q i j : Nat} (hq : kr_q q) (h2 : μ 38 2 = nI q) (hi : i ≤ 7) (hj : j ≤ 7) : kp_M_inverse μ (nI i - nI j) = nI (kr_D q i j ^ (q - 2) % q) := by
  unfold kp_M_inverse
  have h32 : q - 2 < 2 ^ 32 := by omega
  rw [h2, (kr_floor hq hi hj).2, pk_sub (by omega), kr_ipow (by omega) (by omega) 32 (q - 2) 1 (kr_D q i j) h32 (by omega) (by omega) (show kr_D q i j < q from Nat.mod_lt _ (by omega)), Nat.one_mul]
theorem kr_lagr {q v N D A B e : Nat} : v * N * D ^ e % q * A % q * (B ^ e % q) % q = v * (N * A % q) * (D * B % q) ^ e % q := by
  have a : v * N * D ^ e % q * A % q = v * N * D ^ e * A % q := Nat.mod_mul_mod _ _ _
  have b : (D * B % q) ^ e % q = (D * B) ^ e % q := (Nat.pow_mod _ _ _).symm
  have c : v * (N * A % q) % q = v * (N * A) % q := Nat.mul_mod_mod _ _ _
  rw [a, ← Nat.mul_mod, Nat.mul_mod (v * (N * A % q)), b, c, ← Nat.mul_mod, Nat.mul_pow]
  congr 1
  simp only [Nat.mul_assoc, Nat.mul_left_comm, Nat.mul_comm]
section KR8
variable {n p q : Nat} {κ μ : kc_Sg}
theorem kr_lock (hq : kr_q q) (h1 : κ 1 1 = nI q) (h2 : μ 38 2 = nI q) {m x i v : Nat} (hm : m < 128) (hx : x ≤ 7) (hi : 1 ≤ i ∧ i ≤ 7) : ∀ c j N D, 1 ≤ j → j + c = 8 → N < q → D < q → ∃ N' D', N' < q ∧ D' < q ∧ kc_it (kf_G_weight_1 κ (nI x) (nI m) (nI i)) c j (nI N, nI D) = (nI N', nI D') ∧ kc_it (kf_M_interpolate_2 μ (nI m) (nI x) i) c j (nI (v * N * D ^ (q - 2) % q)) = nI (v * N' * D' ^ (q - 2) % q) := by
  intro c
  induction c with
  | zero =>
    intro j N D _ _ hN hD
    exact ⟨N, D, hN, hD, rfl, rfl⟩
  | succ c ih =>
    intro j N D hj1 hj2 hN hD
    show ∃ N' D', N' < q ∧ D' < q ∧ kc_it (kf_G_weight_1 κ (nI x) (nI m) (nI i)) c (j + 1) (kf_G_weight_1 κ (nI x) (nI m) (nI i) j (nI N, nI D)) = (nI N', nI D') ∧ kc_it (kf_M_interpolate_2 μ (nI m) (nI x) i) c (j + 1) (kf_M_interpolate_2 μ (nI m) (nI x) i j (nI (v * N * D ^ (q - 2) % q))) = nI (v * N' * D' ^ (q - 2) % q)
    by_cases h : nI j = nI i
    · rw [show kf_G_weight_1 κ (nI x) (nI m) (nI i) j (nI N, nI D) = (nI N, nI D) by unfold kf_G_weight_1; rw [if_pos h], show kf_M_interpolate_2 μ (nI m) (nI x) i j (nI (v * N * D ^ (q - 2) % q)) = nI (v * N * D ^ (q - 2) % q) by unfold kf_M_interpolate_2; rw [if_pos h]]
      exact ih (j + 1) N D (by omega) (by omega) hN hD
    · have hb := km_bits hm (d := j) ⟨hj1, by omega⟩
      have hs := km_shr m hm j (by omega) hj1
      cases ht : m.testBit (j - 1) with
      | false =>
        rw [show kf_G_weight_1 κ (nI x) (nI m) (nI i) j (nI N, nI D) = (nI N, nI D) by unfold kf_G_weight_1; rw [if_neg h, if_pos (hb.2.1.mpr ht)], show kf_M_interpolate_2 μ (nI m) (nI x) i j (nI (v * N * D ^ (q - 2) % q)) = nI (v * N * D ^ (q - 2) % q) by unfold kf_M_interpolate_2; rw [if_neg h, if_neg (fun e => by rw [hs.mp e] at ht; cases ht)]]
        exact ih (j + 1) N D (by omega) (by omega) hN hD
      | true =>
        have hA := kr_floor (q := q) (x := x) (j := j) hq hx (by omega)
        have hB := kr_floor (q := q) (x := i) (j := j) hq hi.2 (by omega)
        have lA : kr_D q x j < q := Nat.mod_lt _ (by omega)
        have lB : kr_D q i j < q := Nat.mod_lt _ (by omega)
        have lt : v * N * D ^ (q - 2) % q < q := Nat.mod_lt _ (by omega)
        have t1 : v * N * D ^ (q - 2) % q * kr_D q x j ≤ 32749 * 32749 := Nat.mul_le_mul (by omega) (by omega)
        have l2 : v * N * D ^ (q - 2) % q * kr_D q x j % q < q := Nat.mod_lt _ (by omega)
        have l3 : kr_D q i j ^ (q - 2) % q < q := Nat.mod_lt _ (by omega)
        have t2 : v * N * D ^ (q - 2) % q * kr_D q x j % q * (kr_D q i j ^ (q - 2) % q) ≤ 32749 * 32749 := Nat.mul_le_mul (by omega) (by omega)
        have sK : kf_G_weight_1 κ (nI x) (nI m) (nI i) j (nI N, nI D) = (nI (N * kr_D q x j % q), nI (D * kr_D q i j % q)) := by
          unfold kf_G_weight_1
          rw [if_neg h, if_neg (fun e => by rw [hb.2.1.mp e] at ht; cases ht), h1, hA.1, hB.1, kr_mulN h1 (by omega) (by omega) (by omega) (by omega), kr_mulN h1 (by omega) (by omega) (by omega) (by omega)]
        have sM : kf_M_interpolate_2 μ (nI m) (nI x) i j (nI (v * N * D ^ (q - 2) % q)) = nI (v * (N * kr_D q x j % q) * (D * kr_D q i j % q) ^ (q - 2) % q) := by
          unfold kf_M_interpolate_2
          rw [if_neg h, if_pos (hs.mpr ht), h2, hA.2, kr_inv hq h2 hi.2 (by omega), pk_mul, kp_remN (by omega) (by omega) (by omega), pk_mul, kp_remN (by omega) (by omega) (by omega), kr_lagr]
        rw [sK, sM]
        exact ih (j + 1) _ _ (by omega) (by omega) (Nat.mod_lt _ (by omega)) (Nat.mod_lt _ (by omega))
theorem kr_interp1 (hq : kr_q q) (h1 : κ 1 1 = nI q) (h2 : μ 38 2 = nI q) {m x : Nat} (hm : m < 128) (hx : x ≤ 7) (hs : ∀ i, 1 ≤ i → i ≤ 7 → m.testBit (i - 1) = true → κ 4 i = μ 39 i ∧ kr_num q (μ 39 i)) : ∀ c i a, 1 ≤ i → i + c = 8 → a < q → ∃ r, r < q ∧ kc_it (kf_G_interpolate_1 κ (nI x) (nI m) 4) c i (nI a) = nI r ∧ kc_it (kf_M_interpolate_1 μ (nI m) (nI x)) c i (nI a) = nI r := by
  intro c
  induction c with
  | zero =>
    intro i a _ _ ha
    exact ⟨a, ha, rfl, rfl⟩
  | succ c ih =>
    intro i a hi1 hi2 ha
    show ∃ r, r < q ∧ kc_it (kf_G_interpolate_1 κ (nI x) (nI m) 4) c (i + 1) (kf_G_interpolate_1 κ (nI x) (nI m) 4 i (nI a)) = nI r ∧ kc_it (kf_M_interpolate_1 μ (nI m) (nI x)) c (i + 1) (kf_M_interpolate_1 μ (nI m) (nI x) i (nI a)) = nI r
    have hb := km_bits hm (d := i) ⟨hi1, by omega⟩
    have hsh := km_shr m hm i (by omega) hi1
    cases ht : m.testBit (i - 1) with
    | false =>
      rw [show kf_G_interpolate_1 κ (nI x) (nI m) 4 i (nI a) = nI a by unfold kf_G_interpolate_1; rw [if_pos (hb.2.1.mpr ht)], show kf_M_interpolate_1 μ (nI m) (nI x) i (nI a) = nI a by unfold kf_M_interpolate_1; rw [if_neg (fun e => by rw [hsh.mp e] at ht; cases ht)]]
      exact ih (i + 1) a (by omega) (by omega) ha
    | true =>
      obtain ⟨e1, v, hv, e2⟩ := hs i hi1 (by omega) ht
      obtain ⟨N, D, hN, hD, k1, k2⟩ := kr_lock (κ := κ) (μ := μ) (v := v) hq h1 h2 hm hx (i := i) ⟨hi1, by omega⟩ 7 1 1 1 (Nat.le_refl _) rfl (by omega) (by omega)
      have z : v * 1 * 1 ^ (q - 2) % q = v := by
        rw [Nat.mul_one, Nat.one_pow, Nat.mul_one, Nat.mod_eq_of_lt hv]
      rw [z] at k2
      have l1 : D ^ (q - 2) % q < q := Nat.mod_lt _ (by omega)
      have l2 : N * (D ^ (q - 2) % q) % q < q := Nat.mod_lt _ (by omega)
      have l3 : v * N * D ^ (q - 2) % q < q := Nat.mod_lt _ (by omega)
      have w : v * (N * (D ^ (q - 2) % q) % q) % q = v * N * D ^ (q - 2) % q := by
        rw [Nat.mul_mod_mod, ← Nat.mul_assoc, Nat.mul_mod_mod]
      have sK : kf_G_interpolate_1 κ (nI x) (nI m) 4 i (nI a) = nI ((a + v * N * D ^ (q - 2) % q) % q) := by
        unfold kf_G_interpolate_1 kp_G_weight
        rw [if_neg (fun e => by rw [hb.2.1.mp e] at ht; cases ht), k1, e1, e2, h1, kr_powq hq hD, kr_mulN h1 (by omega) (by omega) (by omega) (by omega), kr_mulN h1 (by omega) (by omega) (by omega) (by omega), w, kr_addN h1 (by omega) (by omega) (by omega)]
      have sM : kf_M_interpolate_1 μ (nI m) (nI x) i (nI a) = nI ((a + v * N * D ^ (q - 2) % q) % q) := by
        unfold kf_M_interpolate_1
        rw [if_pos (hsh.mpr ht), e2, k2, h2, nI_add, kp_remN (by omega) (by omega) (by omega)]
      rw [sK, sM]
      exact ih (i + 1) _ (by omega) (by omega) (Nat.mod_lt _ (by omega))
theorem kr_interp (hq : kr_q q) (h1 : κ 1 1 = nI q) (h2 : μ 38 2 = nI q) {m x : Nat} (hm : m < 128) (hx : x ≤ 7) (hs : ∀ i, 1 ≤ i → i ≤ 7 → m.testBit (i - 1) = true → κ 4 i = μ 39 i ∧ kr_num q (μ 39 i)) : kp_G_interpolate κ (nI x) (nI m) 4 = kp_M_interpolate μ (nI m) (nI x) ∧ kr_num q (kp_M_interpolate μ (nI m) (nI x)) := by
  obtain ⟨r, hr, a, b⟩ := kr_interp1 hq h1 h2 hm hx hs 7 1 0 (Nat.le_refl _) rfl (by omega)
  unfold kp_G_interpolate kp_M_interpolate
  rw [a, b]
  exact ⟨rfl, r, hr, rfl⟩
end KR8
