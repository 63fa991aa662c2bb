/-! the simulation: sets of seats -/
def km_s (b : Nat → Bool) : Nat → Nat → Nat
  | 0, _ => 0
  | n + 1, i => (if b i then 1 else 0) + km_s b n (i + 1)
def km_c (m : Nat) : Nat := km_s (fun i => m.testBit (i - 1)) 7 1
theorem km_among : ∀ m, m < 128 → ∀ d, d < 8 → 1 ≤ d → kp_K_isAmong (nI m) (nI d) = if m.testBit (d - 1) then nI 1 else nI 0 := by decide +kernel
theorem km_or : ∀ m, m < 128 → ∀ d, d < 8 → 1 ≤ d → nI m ||| kp_K_bit (nI d) = nI (m ||| 2 ^ (d - 1)) := by decide +kernel
theorem km_cnt : ∀ m, m < 128 → kp_JI_bitCount (nI m) = nI (km_c m) := by decide +kernel
theorem km_shr : ∀ m, m < 128 → ∀ d, d < 8 → 1 ≤ d → ((kc_shr (nI m) (nI d - nI 1) &&& nI 1 = nI 1) ↔ m.testBit (d - 1) = true) := by decide +kernel
theorem km_not : ∀ m, m < 128 → ∀ d, d < 8 → 1 ≤ d → (nI m ^^^ (-1)) &&& kp_K_bit (nI d) = if m.testBit (d - 1) then 0 else kp_K_bit (nI d) := by decide +kernel
theorem km_four : ∀ m, m < 128 → kp_M_four (nI m) = if 4 ≤ km_c m then kp_K_leastFour (nI m) else nI 0 := by decide +kernel
theorem km_least : ∀ m, m < 128 → kp_K_leastFour (nI m) = nI (kp_K_leastFour (nI m)).toNatClampNeg ∧ (kp_K_leastFour (nI m)).toNatClampNeg < 128 ∧ (kp_K_leastFour (nI m)).toNatClampNeg &&& m = (kp_K_leastFour (nI m)).toNatClampNeg ∧ (4 ≤ km_c m → ¬ kp_K_leastFour (nI m) = 0) := by decide +kernel
theorem km_bits {m d : Nat} (hm : m < 128) (hd : 1 ≤ d ∧ d ≤ 7) : (kp_K_isAmong (nI m) (nI d) = nI 0 ↔ m.testBit (d - 1) = false) ∧ (kp_K_isAmong (nI m) (nI d) = 0 ↔ m.testBit (d - 1) = false) ∧ (kp_K_isAmong (nI m) (nI d) = nI 1 ↔ m.testBit (d - 1) = true) := by
  rw [km_among m hm d (by omega) hd.1]
  cases m.testBit (d - 1) <;> decide +kernel
theorem km_orb {m d k : Nat} (hd : 1 ≤ d) (hk : 1 ≤ k) : (m ||| 2 ^ (d - 1)).testBit (k - 1) = (m.testBit (k - 1) || decide (k = d)) := by
  rw [Nat.testBit_or, Nat.testBit_two_pow]
  congr 1
  apply decide_eq_decide.mpr
  omega
theorem km_orlt {m d : Nat} (hm : m < 128) (hd : d ≤ 7) (h1 : 1 ≤ d) : m ||| 2 ^ (d - 1) < 128 := by
  have h : 2 ^ (d - 1) < 2 ^ 7 := Nat.pow_lt_pow_right (by decide) (by omega)
  exact Nat.or_lt_two_pow (n := 7) hm h
theorem km_ext {a b : Nat} (ha : a < 128) (hb : b < 128) (h : ∀ d, 1 ≤ d → d ≤ 7 → a.testBit (d - 1) = b.testBit (d - 1)) : a = b := by
  apply Nat.eq_of_testBit_eq
  intro i
  by_cases hi : i < 7
  · have := h (i + 1) (by omega) (by omega)
    exact this
  · have h7 : 128 ≤ 2 ^ i := by
      have : 2 ^ 7 ≤ 2 ^ i := Nat.pow_le_pow_right (by decide) (by omega)
      exact this
    rw [Nat.testBit_lt_two_pow (Nat.lt_of_lt_of_le ha h7), Nat.testBit_lt_two_pow (Nat.lt_of_lt_of_le hb h7)]
theorem km_itn {f : Nat → Int32 → Int32} {b : Nat → Bool} (hf : ∀ i, 1 ≤ i → i ≤ 7 → ∀ a, f i a = if b i then a ||| kp_K_bit (nI i) else a) : ∀ n i m, i + n = 8 → 1 ≤ i → m < 2 ^ (i - 1) → (∀ d, 1 ≤ d → d < i → m.testBit (d - 1) = b d) → ∃ m', m' < 128 ∧ kc_it f n i (nI m) = nI m' ∧ ∀ d, 1 ≤ d → d ≤ 7 → m'.testBit (d - 1) = b d := by
  intro n
  induction n with
  | zero =>
    intro i m hi h1 hm hb
    have : i = 8 := by omega
    subst this
    exact ⟨m, hm, rfl, fun d h2 h3 => hb d h2 (by omega)⟩
  | succ n ih =>
    intro i m hi h1 hm hb
    have hp : 2 ^ (i - 1) ≤ 2 ^ 6 := Nat.pow_le_pow_right (by decide) (by omega)
    have hp2 : 2 ^ (i + 1 - 1) = 2 ^ (i - 1) * 2 := by
      rw [show i + 1 - 1 = (i - 1) + 1 by omega, Nat.pow_succ]
    show ∃ m', m' < 128 ∧ kc_it f n (i + 1) (f i (nI m)) = nI m' ∧ _
    rw [hf i h1 (by omega)]
    have hz : m.testBit (i - 1) = false := Nat.testBit_lt_two_pow hm
    cases hbi : b i with
    | false =>
      rw [if_neg (by decide)]
      refine ih (i + 1) m (by omega) (by omega) (by omega) (fun d h2 h3 => ?_)
      by_cases hd : d = i
      · subst hd
        rw [hz, hbi]
      · exact hb d h2 (by omega)
    | true =>
      rw [if_pos rfl, km_or m (by omega) i (by omega) h1]
      have hlt : m ||| 2 ^ (i - 1) < 2 ^ (i + 1 - 1) := by
        rw [show i + 1 - 1 = i by omega]
        exact Nat.or_lt_two_pow (Nat.lt_of_lt_of_le hm (Nat.pow_le_pow_right (by decide) (by omega))) (Nat.pow_lt_pow_right (by decide) (by omega))
      refine ih (i + 1) (m ||| 2 ^ (i - 1)) (by omega) (by omega) hlt (fun d h2 h3 => ?_)
      rw [km_orb h1 h2]
      by_cases hd : d = i
      · subst hd
        rw [hbi, decide_eq_true rfl, Bool.or_true]
      · rw [hb d h2 (by omega), decide_eq_false hd, Bool.or_false]
theorem km_it {f : Nat → Int32 → Int32} {b : Nat → Bool} (hf : ∀ i, 1 ≤ i → i ≤ 7 → ∀ a, f i a = if b i then a ||| kp_K_bit (nI i) else a) : ∃ m, m < 128 ∧ kc_it f 7 1 (nI 0) = nI m ∧ ∀ d, 1 ≤ d → d ≤ 7 → m.testBit (d - 1) = b d :=
  km_itn hf 7 1 0 rfl (Nat.le_refl _) (by decide) (fun d h1 h2 => by omega)
theorem km_sc {b c : Nat → Bool} : ∀ n i, (∀ j, i ≤ j → j < i + n → b j = c j) → km_s b n i = km_s c n i
  | 0, _, _ => rfl
  | n + 1, i, h => by
    show (if b i then 1 else 0) + km_s b n (i + 1) = (if c i then 1 else 0) + km_s c n (i + 1)
    rw [h i (Nat.le_refl _) (by omega), km_sc n (i + 1) (fun j h1 h2 => h j (by omega) (by omega))]
theorem km_sn {f : Nat → Int32 → Int32} {b : Nat → Bool} : ∀ n i s, (∀ j, i ≤ j → j < i + n → ∀ a, f j a = a + (if b j then nI 1 else nI 0)) → kc_it f n i (nI s) = nI (s + km_s b n i)
  | 0, _, _, _ => rfl
  | n + 1, i, s, h => by
    show kc_it f n (i + 1) (f i (nI s)) = nI (s + ((if b i then 1 else 0) + km_s b n (i + 1)))
    rw [h i (Nat.le_refl _) (by omega)]
    have e : nI s + (if b i = true then nI 1 else nI 0) = nI (s + (if b i then 1 else 0)) := by
      cases b i <;> exact nI_add _ _
    rw [e, km_sn n (i + 1) _ (fun j h1 h2 => h j (by omega) (by omega)), Nat.add_assoc]
theorem km_sle (b : Nat → Bool) : ∀ n i, km_s b n i ≤ n
  | 0, _ => Nat.le_refl _
  | n + 1, i => by
    have h := km_sle b n (i + 1)
    show (if b i then 1 else 0) + km_s b n (i + 1) ≤ n + 1
    split <;> omega
theorem km_sadd (b : Nat → Bool) : ∀ n m i, km_s b (n + m) i = km_s b n i + km_s b m (i + n)
  | 0, m, i => by
    rw [Nat.zero_add, Nat.add_zero]
    show _ = 0 + _
    omega
  | n + 1, m, i => by
    rw [show n + 1 + m = (n + m) + 1 by omega]
    show (if b i then 1 else 0) + km_s b (n + m) (i + 1) = (if b i then 1 else 0) + km_s b n (i + 1) + km_s b m (i + (n + 1))
    rw [km_sadd b n m (i + 1), show i + 1 + n = i + (n + 1) by omega]
    omega
theorem km_cof {m : Nat} {b : Nat → Bool} (h : ∀ d, 1 ≤ d → d ≤ 7 → m.testBit (d - 1) = b d) : km_c m = km_s b 7 1 := km_sc 7 1 (fun j h1 h2 => h j h1 (by omega))
theorem km_c7 (m : Nat) : km_c m ≤ 7 := km_sle _ 7 1
