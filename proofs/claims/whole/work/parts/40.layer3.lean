/-! the law's own static methods: each calls one method of the class and catches what it throws -/
def kw_Met (l : Launch) (y : MethodName) (cc : ByteArray) (nL : Nat) (ret : Option FieldType) (hh : List (Nat × Nat × Nat × Nat)) (rm : Room) (V : kc_V) (av : List Value) (σ : kc_Sg) (rv : Option Value) (σ' : kc_Sg) : Prop :=
  Met l y (Cond.codeWith y cc nL ret hh :: lw_good) rm (kx_Pz V av σ) (kc_Qz V rv σ') 1 6 (kc_A V)
abbrev kw_E (C : kc_C) (V : kc_V) (rv : Option Value) (σ : kc_Sg) : State → Prop := MQ (kc_below C) (kc_Qz V rv σ) (kc_args C) (kc_s C) 1 6 (kc_A V)
def kw_F (C : kc_C) (V : kc_V) (hh : List (Nat × Nat × Nat × Nat)) : Prop := kc_zq V (kc_s C) (kc_s C).heap ∧ kx_nx (kc_s C) ∧ (kc_c C).exceptionTable.toList = tableOf hh
theorem kw_of {l : Launch} {y : MethodName} {cc : ByteArray} {nL : Nat} {ret : Option FieldType} {hh : List (Nat × Nat × Nat × Nat)} {rm : Room} {V : kc_V} {av : List Value} {σ : kc_Sg} {rv : Option Value} {σ' : kc_Sg} (hy : plainName y.cls = true) (hlen : (lg_sl av).length ≤ nL) (hV : kc_ok V)
    (body : ∀ C : kc_C, kc_l C = l → kc_F C V cc nL y.cls (Cond.codeWith y cc nL ret hh) rm ret → kw_F C V hh → kc_Go C V nL (0, 0) (kw_E C V rv σ') σ 0 (lv_args 0 av) []) : kw_Met l y cc nL ret hh rm V av σ rv σ' := by
  refine va_MetW (cc := cc) (maxL := nL) (ret := ret) (hh := hh) hy rfl ?_
  intro p e s m args below meth c s₁ B hml hv
  obtain ⟨⟨rfl, hP, hK, hN⟩, hX, hZ⟩ := hv
  have hts := atoms_spec (ws := Cond.codeWith y cc nL ret hh :: lw_good) B.pre
  rw [lg_entry_eq]
  exact body (p, l, e, rm, s, m, av.toArray, below, meth, c) rfl ⟨⟨B.exec, B.bytes, hml, findClass_of_methodNamed B.named, hts⟩, hK, rfl, hN, B.notSynchronized, B.returns, hV⟩ ⟨hZ, hX, vx_table (x := y) B (hts _ List.mem_cons_self)⟩ _ s.heap [] (lv_entry av hlen) hP va_S.rf
theorem kc_goodW {w0 w1 : Cond} {own : String} {index : Nat} {y : MethodName} (h : w1 ∈ lw_good) (h1 : Cond.methodLink own index y ∈ lw_good) (h2 : Cond.static y ∈ lw_good) (h3 : Cond.initialized y.cls ∈ lw_good) : GoodIn (w0 :: lw_good) (va_wsS own index y (w1 :: lw_good)) := by
  intro w hw
  have hm : w ∈ lw_good := by
    unfold va_wsS at hw
    rcases List.mem_append.mp hw with hw | hw
    · rcases List.mem_cons.mp hw with rfl | hw
      · exact h1
      · rcases List.mem_cons.mp hw with rfl | hw
        · exact h2
        · rcases List.mem_cons.mp hw with rfl | hw
          · exact h3
          · exact absurd hw List.not_mem_nil
    · rcases List.mem_cons.mp hw with rfl | hw
      · exact h
      · exact hw
  exact ⟨List.mem_cons_of_mem _ hm, kc_good hm⟩
section KW
variable {C : kc_C} {V : kc_V} {cc : ByteArray} {nL : Nat} {own : String} {w0 : Cond} {rm : Room} {ret : Option FieldType} {z : Nat × Nat} {Q : State → Prop} {σ σ' σ0 : kc_Sg} {pc : Nat} {L : List (Nat × Value)} {st : List Value} {tag : Nat} {rv : Option Value} {hh : List (Nat × Nat × Nat × Nat)}
theorem kw_iret (h : kc_F C V cc nL own w0 rm (some .int)) {v v' : Int32} (d : decode cc pc = .ok (.ireturn, 1)) (e : v = v') (es : σ = σ') : kc_Go C V nL (1, 6) (kw_E C V (some (.int v')) σ') σ pc L [.int v] := by
  subst e
  subst es
  intro ls H locs hl hP hS
  exact W.iret h.x h.b h.rt (kc_end h hP hS) hS.2.2 d h.lk
theorem kg_lald (h : kc_F C V cc nL own w0 rm ret) {k n i : Nat} {x : Int32} (ha : kc_al V k n) (hx : x = nI i) (hi : i < n) (d : decode cc pc = .ok (.laload, 1)) (kk : kc_Go C V nL z Q σ (pc + 1) L (.long (Int32.toInt64 (σ k i)) :: st)) : kc_Go C V nL z Q σ pc L (.int x :: .ref (kc_ad V k) :: st) := by
  obtain ⟨cA, t, h1, h2, h3, h4⟩ := ha
  subst hx
  intro ls H locs hl hP hS
  have hc : (kc_w V σ)[k]? = some (kc_ad V k, .inl (cA, n, .inr (.inl (fun i => (σ k i).toInt64)))) := by rw [kc_wo_at h1, kc_ce_l h2]
  refine va_lald h.x h.b h.K hP k t hc h3 (vp_in_nI hi h4) d ?_
  rw [nI_clamp (Nat.lt_trans hi h4)]
  exact kk ls H locs hl hP hS
theorem kg_last (h : kc_F C V cc nL own w0 rm ret) {k n i : Nat} {x y : Int32} (ha : kc_al V k n) (hx : x = nI i) (hi : i < n) (d : decode cc pc = .ok (.lastore, 1)) (kk : kc_Go C V nL z Q (kc_up σ k i y) (pc + 1) L st) : kc_Go C V nL z Q σ pc L (.long (Int32.toInt64 y) :: .int x :: .ref (kc_ad V k) :: st) := by
  obtain ⟨cA, t, h1, h2, h3, h4⟩ := ha
  subst hx
  intro ls H locs hl hP hS
  have hc : (kc_w V σ)[k]? = some (kc_ad V k, .inl (cA, n, .inr (.inl (fun i => (σ k i).toInt64)))) := by rw [kc_wo_at h1, kc_ce_l h2]
  have hset : (kc_w V σ).set k (kc_ad V k, .inl (cA, n, .inr (.inl (vp_updL (fun i => (σ k i).toInt64) i (Int32.toInt64 y))))) = kc_w V (kc_up σ k i y) := by
    refine kc_wo_set h1 ?_ (fun j hj => kc_ce_eq (kc_up_ne hj))
    have e : (fun j => (upd (σ k) i y j).toInt64) = vp_updL (fun i => (σ k i).toInt64) i (Int32.toInt64 y) := by
      funext j
      unfold upd vp_updL
      by_cases hj : j = i
      · rw [if_pos hj, if_pos hj]
      · rw [if_neg hj, if_neg hj]
    rw [kc_ce_l h2, kc_up_eq, e]
  refine va_last h.x h.b h.K hP (kc_dis h.ok σ) hS k t hc h3 (vp_in_nI hi h4) d (fun H1 locs1 hP1 _ hS1 => ?_)
  rw [nI_clamp (Nat.lt_trans hi h4), hset] at hP1
  exact kk ls H1 locs1 hl hP1 hS1
theorem kw_runV (h : kc_F C V cc nL own w0 rm ret) (g : kw_F C V hh) {y : MethodName} {cz : ByteArray} {nz n index k0 ci M : Nat} {fds : List (Option Nat)} {Tb : u_T} {rz : Option FieldType} {rmz : Room} {As rest : List Value} {ls : Array Slot} {H : Heap} {locs : List Loc}
    (hM : kx_Met (kc_l C) y cz nz rz rmz V (.ref (kc_ad V k0) :: As) σ tag rv σ') (hc : kc_cal y cz nz rz n) (hst : Cond.instanceMethod y ∈ lw_good) (hse : Cond.selects y.cls y y ∈ lw_good) (hlk : Cond.methodLink own index y ∈ lw_good) (ho : kc_ob V k0 ci fds) (hcl : cls_all[ci]? = some (y.cls, Tb, M)) (hn : As.length = n) (hR : kx_room rmz rm nz ∧ z.1 + 1 ≤ rm.cells ∧ z.2 + 6 ≤ rm.slots) (hs : st = As.reverse ++ .ref (kc_ad V k0) :: rest) (hW : (rest.map fun v => v.category).sum ≤ 8) (d : decode cc pc = .ok (.invokevirtual index, 3))
    (hl : lv_has ls nL L) (hP : va_P (kc_D V) cls_all (kc_w V σ) H) (hS : va_S (kc_A V) (kc_s C).heap H locs) : vx_Run (kc_p C) (kc_l C) (kc_e C) (kc_R C) (kc_s C) (kc_m C) (kc_args C) (kc_below C) (kc_meth C) (kc_c C) H locs z.1 z.2 1 6 (F0 (kc_m C) pc ls st) rest (kx_Qr V tag rv σ' (Value.ref (kc_ad V k0) :: As).toArray) (kx_Qx V tag σ) (kc_A V) := by
  subst hs
  have hRR := h.R
  exact vx_runV (C := y.cls) h.1 hM ⟨callB_of n h.ts (kc_goodIn hc.1) rfl hR.1.1.1 hR.1.1.2 (h.wd hc.2.1) (h.wd hlk) hc.2.2 (by rw [hRR]; exact hR.1.2), h.wd hst, h.wd hse⟩ ⟨kx_blind, va_recv (q := (y.cls, Tb, M)) h.K hP hcl (kc_at_o ho), fun U hU hWm => ⟨⟨rfl, by rw [hU]; exact hP, va_K.moved hWm.alike h.K, h.nx.warm hWm⟩, g.2.1.warm hWm, by rw [hU]; exact kc_zq.moved hWm.alike (g.1.kept hS)⟩⟩ rfl hn hl.1 rfl (by show 2 * 0 + _ ≤ 8; omega) d (by rw [hRR]; exact hR.2)
/-- the call returns -/
theorem kw_ok (h : kc_F C V cc nL own w0 rm ret) (g : kw_F C V hh) {y : MethodName} {cz : ByteArray} {nz n index k0 ci M : Nat} {fds : List (Option Nat)} {Tb : u_T} {rz : Option FieldType} {rmz : Room} {As rest : List Value}
    (hM : kx_Met (kc_l C) y cz nz rz rmz V (.ref (kc_ad V k0) :: As) σ tag rv σ') (ht : tag = 0) (hc : kc_cal y cz nz rz n) (hst : Cond.instanceMethod y ∈ lw_good) (hse : Cond.selects y.cls y y ∈ lw_good) (hlk : Cond.methodLink own index y ∈ lw_good) (ho : kc_ob V k0 ci fds) (hcl : cls_all[ci]? = some (y.cls, Tb, M)) (hn : As.length = n) (hR : kx_room rmz rm nz ∧ z.1 + 1 ≤ rm.cells ∧ z.2 + 6 ≤ rm.slots) (hs : st = As.reverse ++ .ref (kc_ad V k0) :: rest) (hW : (rest.map fun v => v.category).sum ≤ 8) (d : decode cc pc = .ok (.invokevirtual index, 3))
    (k : kc_Go C V nL (z.1 + 1, z.2 + 6) Q σ' (pc + 3) L (rv.toList ++ rest)) : kc_Go C V nL z Q σ pc L st := by
  intro ls H locs hl hP hS T hT X
  rcases kw_runV h g hM hc hst hse hlk ho hcl hn hR hs hW d hl hP hS T hT X with ⟨v, st₀, t, T', Lc, h0, X', hL, e1, e2, ⟨_, hv, hp, hF⟩, go⟩ | ⟨q, st₀, t', T', Lc, E, ce, h0, X', hL, e1, e2, ⟨ht2, _⟩, _⟩
  · cases hv
    obtain ⟨t2, a1, b1⟩ := k ls T'.heap (locs ++ Lc) hl (by rw [e1]; exact hp) (kc_back hS h0 hF e1 hL) T' rfl X'
    exact ⟨t2, go t2 a1, b1⟩
  · omega
/-- the call throws, and it is caught here -/
theorem kw_catch (h : kc_F C V cc nL own w0 rm ret) (g : kw_F C V hh) {y : MethodName} {cz : ByteArray} {nz n index k0 ci M : Nat} {fds : List (Option Nat)} {Tb : u_T} {rz : Option FieldType} {rmz : Room} {As rest : List Value}
    (hM : kx_Met (kc_l C) y cz nz rz rmz V (.ref (kc_ad V k0) :: As) σ tag rv σ') (ht : tag ≠ 0) (hc : kc_cal y cz nz rz n) (hst : Cond.instanceMethod y ∈ lw_good) (hse : Cond.selects y.cls y y ∈ lw_good) (hlk : Cond.methodLink own index y ∈ lw_good) (ho : kc_ob V k0 ci fds) (hcl : cls_all[ci]? = some (y.cls, Tb, M)) (hn : As.length = n) (hR : kx_room rmz rm nz ∧ z.1 + 1 ≤ rm.cells ∧ z.2 + 6 ≤ rm.slots) (hs : st = As.reverse ++ .ref (kc_ad V k0) :: rest) (hW : (rest.map fun v => v.category).sum ≤ 8) (d : decode cc pc = .ok (.invokevirtual index, 3))
    (pre : List ExceptionTableEntry) (x : ExceptionTableEntry) (suf : List ExceptionTableEntry) (hsplit : tableOf hh = pre ++ x :: suf) (hpass : ∀ w ∈ pre, w.catchType ≠ 0 ∧ ∃ j, (1 ≤ j ∧ j ≤ 5) ∧ j ≠ tag ∧ Cond.classLink own w.catchType (kx_nm j) ∈ lw_good) (hx : covers x pc = true) (h0 : x.catchType ≠ 0) (hlx : Cond.classLink own x.catchType (kx_nm tag) ∈ lw_good)
    (k : ∀ q : Nat, kc_Go C V nL (z.1 + 1, z.2 + 6) Q σ x.handlerPc L [.ref q]) : kc_Go C V nL z Q σ pc L st := by
  intro ls H locs hl hP hS T hT X
  rcases kw_runV h g hM hc hst hse hlk ho hcl hn hR hs hW d hl hP hS T hT X with ⟨v, st₀, t, T', Lc, h00, X', hL, e1, e2, ⟨ht0, _⟩, _⟩ | ⟨q, st₀, t', T', Lc, E, ce, h00, X', hL, e1, e2, ⟨ht2, hE, hp, hF⟩, hce, hcv, hcl2, hst2⟩
  · exact absurd ht0 ht
  · subst hE
    have hS2 := kc_back hS h00 hF e1 hL
    have w := vx_catch (pc := pc) (ls := ls) (rest := rest) (Q := Q) (H := T'.heap) (locs := locs ++ Lc) (cells := z.1 + 1) (slots := z.2 + 6) (E := kx_nm tag) (name := kx_nm tag) (ce := ce) (q := q) h.ow pre x suf (g.2.2.trans hsplit)
      (fun w hw => by
        obtain ⟨p1, j, p2, p3, p4⟩ := hpass w hw
        exact Or.inr ⟨p1, kx_nm j, h.wd p4, g.2.1.2.2 tag j ht2.1 ht2.2 p2.1 p2.2 (fun e => p3 e.symm)⟩) hx h0 (h.wd hlx) (va_Nw.use rfl (g.2.1.1 tag ht2.1 ht2.2)) (by rw [e1]; exact hce) hcv hcl2
      (k q ls T'.heap (locs ++ Lc) hl (by rw [e1]; exact hp) hS2)
    obtain ⟨t2, a1, b1⟩ := w T' rfl X'
    exact ⟨t2, hst2.trans a1, b1⟩
/-- a call of a static method that has a table of its own, and returns -/
theorem kw_static (h : kc_F C V cc nL own w0 rm ret) (gz : kc_zq V (kc_s C) (kc_s C).heap) (gn : kx_nx (kc_s C)) {y : MethodName} {cz : ByteArray} {nz n index : Nat} {rz : Option FieldType} {hz : List (Nat × Nat × Nat × Nat)} {rmz : Room} {As rest : List Value}
    (hM : kw_Met (kc_l C) y cz nz rz hz rmz V As σ rv σ') (hcw : Cond.codeWith y cz nz rz hz ∈ lw_good) (hini : Cond.initialized y.cls ∈ lw_good) (hd : y.cls ≠ "java/lang/invoke/MethodHandle" ∧ y.cls ≠ "java/lang/invoke/VarHandle" ∧ (parseMethodDescriptor y.desc).map (fun d => d.parameters.length) = some n) (hst : Cond.static y ∈ lw_good) (hlk : Cond.methodLink own index y ∈ lw_good) (hn : As.length = n) (hR : kx_room rmz rm nz) (hR2 : z.1 + 1 ≤ rm.cells ∧ z.2 + 6 ≤ rm.slots) (hs : st = As.reverse ++ rest) (hW : (rest.map fun v => v.category).sum ≤ 8) (d : decode cc pc = .ok (.invokestatic index, 3))
    (k : kc_Go C V nL (z.1 + 1, z.2 + 6) Q σ' (pc + 3) L (rv.toList ++ rest)) : kc_Go C V nL z Q σ pc L st := by
  subst hs
  intro ls H locs hl hP hS
  have hRR := h.R
  have hr := vx_runSW (p := kc_p C) (l := kc_l C) (R := kc_R C) (s := kc_s C) (m := kc_m C) (args := kc_args C) (c := kc_c C) (H := H) (e := kc_e C) (below := kc_below C) (meth := kc_meth C) (locs := locs) (cells := z.1) (slots := z.2) (g := F0 (kc_m C) pc ls (As.reverse ++ rest)) (rest := rest) h.1 hM (vx_cwSW n h.ts (kc_goodW hcw hlk hst hini) rfl hR.1.1 hR.1.2 hd (by rw [hRR]; exact hR.2)) ⟨kx_blind, fun U hU hWm => ⟨⟨rfl, by rw [hU]; exact hP, va_K.moved hWm.alike h.K, h.nx.warm hWm⟩, gn.warm hWm, by rw [hU]; exact kc_zq.moved hWm.alike (gz.kept hS)⟩⟩ rfl hn hl.1 rfl (by show 2 * 0 + _ ≤ 8; omega) d (by rw [hRR]; exact hR2)
  intro T hT X
  obtain ⟨v, st₀, t, T', Lc, h0, X', hL, e1, e2, ⟨hv, hp, hF⟩, go⟩ := hr T hT X
  cases hv
  obtain ⟨t2, a1, b1⟩ := k ls T'.heap (locs ++ Lc) hl (by rw [e1]; exact hp) (kc_back hS h0 hF e1 hL) T' rfl X'
  exact ⟨t2, go t2 a1, b1⟩
end KW
