theorem kc_ofF {l : Launch} {y : MethodName} {cc : ByteArray} {nL : Nat} {ret : Option FieldType} {rm : Room} {V : kc_V} {av : List Value} {σ : kc_Sg} {rv : Option Value} {σ' : kc_Sg} (hy : plainFor y = true) (hlen : (lg_sl av).length ≤ nL) (hV : kc_ok V)
    (body : ∀ C : kc_C, kc_l C = l → kc_F C V cc nL y.cls (Cond.code y cc nL ret) rm ret → kc_Go C V nL (0, 0) (kc_E C V rv σ') σ 0 (lv_args 0 av) []) : kc_Met l y cc nL ret rm V av σ rv σ' := by
  refine va_MetF (cc := cc) (maxL := nL) (ret := ret) hy rfl ?_
  intro p e s m args below meth c s₁ B hml hv
  obtain ⟨rfl, hP, hK, hN⟩ := hv
  rw [lg_entry_eq]
  exact body (p, l, e, rm, s, m, av.toArray, below, meth, c) rfl ⟨⟨B.exec, B.bytes, hml, findClass_of_methodNamed B.named, atoms_spec B.pre⟩, hK, rfl, hN, B.notSynchronized, B.returns, hV⟩ _ s.heap [] (lv_entry av hlen) hP va_S.rf
theorem kc_up_nk {σ : kc_Sg} {k k2 i j : Nat} {x : Int32} (h : k ≠ k2) : kc_up σ k2 i x k j = σ k j := congrFun (kc_up_ne h) j
theorem kc_up_nj {σ : kc_Sg} {k i j : Nat} {x : Int32} (h : j ≠ i) : kc_up σ k i x k j = σ k j := by
  unfold kc_up
  rw [if_pos rfl]
  unfold upd
  rw [if_neg h]
theorem kc_up_jj {σ : kc_Sg} {k i : Nat} {x : Int32} : kc_up σ k i x k i = x := by
  unfold kc_up
  rw [if_pos rfl]
  unfold upd
  rw [if_pos rfl]
