/-! the law's loop: rows -/
theorem kl_lcmpW {p : Program} {l : Launch} {e : Env} {R : Room} {s : State} {m : MethodId} {args : Array Value} {below : List Frame} {meth : Method} {c : Code} {H : Heap} {locs : List Loc} {cells slots : Nat} {Q : State → Prop} {cc : ByteArray} {pc : Nat} {ls : Array Slot} {rest : List Value} (hexec : p.tables.exec = Jvm.exec) (hb : c.code = cc) {x : Int64} (hdg : decode cc pc = .ok (.lcmp, 1))
    (k : W p l e R s m args below meth c H locs cells slots Q (F0 m (pc + 1) ls (.int 0 :: rest))) : W p l e R s m args below meth c H locs cells slots Q (F0 m pc ls (.long x :: .long x :: rest)) := by
  intro T hT X
  obtain ⟨t, a, b⟩ := k T hT X
  refine ⟨t, ?_, b⟩
  have h1 : ¬ x > x := fun h => absurd (Int64.lt_iff_toInt_lt.mp h) (Int.lt_irrefl _)
  jvm_step X.here [X.here.top, hexec, hb, hdg, h1]
  exact a
theorem kl_and15 (y : Int32) : ∃ j, j < 16 ∧ y &&& nI 15 = nI j := by
  refine ⟨(y &&& nI 15).toBitVec.toNat, ?_, ?_⟩
  · rw [Int32.toBitVec_and, BitVec.toNat_and]
    have e : (nI 15).toBitVec.toNat = 15 := by decide +kernel
    rw [e]
    exact Nat.lt_succ_of_le Nat.and_le_right
  · apply Int32.toBitVec_inj.mp
    show _ = BitVec.ofNat 32 _
    rw [BitVec.ofNat_toNat, BitVec.setWidth_eq]
theorem kl_in {a N : Nat} (hN : N ≤ 2560) (ha : a ≤ 2560) (h : ¬ nI N - nI 5 < nI a) : a + 5 ≤ N := by
  rw [Int32.lt_iff_toInt_lt, nI_toInt (by omega)] at h
  have e : (nI N - nI 5).toInt = (N : Int) - 5 := by
    rw [Int32.toInt_sub, nI_toInt (by omega), nI_toInt (by omega)]
    apply Int.bmod_eq_of_le <;> omega
  rw [e] at h
  omega
def kl_H (C : kc_C) (V : kc_V) (b N : Nat) (xs : Nat → Int32) (w0 : Cond) (ret : Option FieldType) : Prop :=
  kc_F C V code 7 "KeyCustodyLaw" w0 room_1 ret ∧ kc_G V ∧ (kc_zq V (kc_s C) (kc_s C).heap ∧ kx_nx (kc_s C)) ∧ (va_X b N xs (kc_s C) (kc_s C).heap ∧ b < (kc_s C).heap.size ∧ ¬ kc_A V b) ∧ N ≤ 2560 ∧ (kc_l C).stackTraces = false
abbrev kl_L (V : kc_V) (b n : Nat) : List (Nat × Value) := [(0, .ref b), (1, .ref (kc_ad V 0)), (2, .ref (kc_ad V 38)), (3, .ref (kc_ad V 50)), (4, .int (nI (5 * n)))]
section KL
variable {C : kc_C} {V : kc_V} {z : Nat × Nat} {Q : State → Prop} {σ σ' : kc_Sg} {pc b N : Nat} {xs : Nat → Int32} {w0 : Cond} {ret : Option FieldType} {L : List (Nat × Value)} {st : List Value}
theorem kl_lcmp (h : kl_H C V b N xs w0 ret) {x y : Int64} (e : x = y) (d : decode code pc = .ok (.lcmp, 1)) (k : kc_Go C V 7 z Q σ (pc + 1) L (.int 0 :: st)) : kc_Go C V 7 z Q σ pc L (.long y :: .long x :: st) := by
  subst e
  exact fun ls H locs hl hP hS => kl_lcmpW h.1.x h.1.b d (k ls H locs hl hP hS)
theorem kl_sld (h : kl_H C V b N xs w0 ret) {x : Int32} {i : Nat} (hx : x = nI i) (hi : i < N) (d : decode code pc = .ok (.iaload, 1)) (k : kc_Go C V 7 z Q σ (pc + 1) L (.int (xs i) :: st)) : kc_Go C V 7 z Q σ pc L (.int x :: .ref b :: st) := by
  subst hx
  have hN := h.2.2.2.2.1
  have hX := h.2.2.2.1
  intro ls H locs hl hP hS
  refine va_sld h.1.x h.1.b hX.1 hX.2.1 hX.2.2 hS (vp_in_nI hi (by omega)) d ?_
  rw [nI_clamp (by omega)]
  exact k ls H locs hl hP hS
theorem kl_slen (h : kl_H C V b N xs w0 ret) (d : decode code pc = .ok (.arraylength, 1)) (k : kc_Go C V 7 z Q σ (pc + 1) L (.int (nI N) :: st)) : kc_Go C V 7 z Q σ pc L (.ref b :: st) := by
  have hX := h.2.2.2.1
  intro ls H locs hl hP hS
  exact va_slen h.1.x h.1.b hX.1 hX.2.1 hX.2.2 hS d (k ls H locs hl hP hS)
end KL
