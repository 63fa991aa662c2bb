/-! methods that may throw: each throw is 'new E()' without text; all of them happen before anything is written -/
def kx_nm (t : Nat) : String := match t with
  | 1 => "java/lang/IllegalStateException"
  | 2 => "java/util/NoSuchElementException"
  | 3 => "java/lang/IllegalArgumentException"
  | 4 => "java/lang/UnsupportedOperationException"
  | _ => "java/lang/IndexOutOfBoundsException"
def kx_dec : List MethodName := [y_JR_init, y_JE_init, y_JT_init]
def kx_nx (U : State) : Prop := (∀ i, 1 ≤ i → i ≤ 5 → va_Nw (.castable (kx_nm i) (kx_nm i)) U) ∧ (∀ y ∈ kx_dec, va_Nw (.declares y) U) ∧ ∀ i j, 1 ≤ i → i ≤ 5 → 1 ≤ j → j ≤ 5 → i ≠ j → va_Nc (kx_nm i) (kx_nm j) U
theorem kx_nx.warm {s U : State} (hW : s.WarmedH U.vm) (h : kx_nx s) : kx_nx U := ⟨fun i a b => (h.1 i a b).warmC hW, fun y hy => (h.2.1 y hy).warmD hW, fun i j a b c d e => (h.2.2 i j a b c d e).moved hW.alike⟩
theorem kx_nx.same {s U : State} (e : s.vm = U.vm) (h : kx_nx s) : kx_nx U := ⟨fun i a b => (h.1 i a b).same rfl e, fun y hy => (h.2.1 y hy).same rfl e, fun i j a b c d f => by
  obtain ⟨x, y, h1, h2, h3⟩ := h.2.2 i j a b c d f
  rw [e] at h1 h2 h3
  exact ⟨x, y, h1, h2, h3⟩⟩
def kc_zq (V : kc_V) (U : State) (H : Heap) : Prop := vx_Zq Bundle.tN "UNASSIGNED_STACK" Bundle.steD (kc_A V) U H ∧ vx_Zq Bundle.tN "SUPPRESSED_SENTINEL" Bundle.listD (kc_A V) U H
theorem kc_zq.moved {V : kc_V} {u U : State} {H : Heap} (hvm : u.vm.Alike U.vm) (h : kc_zq V u H) : kc_zq V U H := ⟨vx_Zq.moved hvm h.1, vx_Zq.moved hvm h.2⟩
theorem kc_zq.kept {V : kc_V} {U : State} {H H1 : Heap} {locs : List Loc} (h : kc_zq V U H) (hS : va_S (kc_A V) H H1 locs) : kc_zq V U H1 := ⟨h.1.kept hS.2.1, h.2.kept hS.2.1⟩
def kx_Pz (V : kc_V) (av : List Value) (σ : kc_Sg) : Array Value → State → Prop := fun v U => kc_Pz V av σ v U ∧ kx_nx U ∧ kc_zq V U U.heap
def kx_Qr (V : kc_V) (tag : Nat) (rv : Option Value) (σ : kc_Sg) : Array Value → State → Outcome → State → Prop := fun a st oc t => tag = 0 ∧ kc_Qz V rv σ a st oc t
def kx_Qx (V : kc_V) (tag : Nat) (σ : kc_Sg) : String → State → State → Prop := fun E st t => (1 ≤ tag ∧ tag ≤ 5) ∧ E = kx_nm tag ∧ va_P (kc_D V) cls_all (kc_w V σ) t.heap ∧ va_F (kc_A V) st t
/-- a contract: it throws the exception 'tag', and nothing has changed; or, where 'tag' is 0, it returns this value, and the contents are these -/
def kx_Met (l : Launch) (y : MethodName) (cc : ByteArray) (nL : Nat) (ret : Option FieldType) (rm : Room) (V : kc_V) (av : List Value) (σ : kc_Sg) (tag : Nat) (rv : Option Value) (σ' : kc_Sg) : Prop :=
  vx_Met l y (Cond.code y cc nL ret :: lw_good) rm (kx_Pz V av σ) (kx_Qr V tag rv σ') (kx_Qx V tag σ) 1 6 (kc_A V)
abbrev kx_E (C : kc_C) (V : kc_V) (tag : Nat) (rv : Option Value) (σ' σ : kc_Sg) : State → Prop := vx_MQ (kc_below C) (kx_Qr V tag rv σ') (kx_Qx V tag σ) (kc_args C) (kc_s C) 1 6 (kc_A V)
abbrev kx_rm (d : Nat) : Room := { frames := d, cells := 1, slots := 6, locals := 36 * d }
def kx_F (C : kc_C) (V : kc_V) : Prop := kc_zq V (kc_s C) (kc_s C).heap ∧ kx_nx (kc_s C) ∧ (kc_l C).stackTraces = false ∧ ∀ x ∈ (kc_c C).exceptionTable.toList, False
theorem kx_of {l : Launch} {y : MethodName} {cc : ByteArray} {nL : Nat} {ret : Option FieldType} {rm : Room} {V : kc_V} {av : List Value} {σ : kc_Sg} {tag : Nat} {rv : Option Value} {σ' : kc_Sg} (hlt : l.stackTraces = false) (hy : plainName y.cls = true) (hlen : (lg_sl av).length ≤ nL) (hV : kc_ok V)
    (body : ∀ C : kc_C, kc_l C = l → kc_F C V cc nL y.cls (Cond.code y cc nL ret) rm ret → kx_F C V → kc_Go C V nL (0, 0) (kx_E C V tag rv σ' σ) σ 0 (lv_args 0 av) []) : kx_Met l y cc nL ret rm V av σ tag rv σ' := by
  refine vx_ofW (cc := cc) (maxL := nL) (ret := ret) hy rfl ?_
  intro p e s m args below meth c s₁ B hml hT hv
  obtain ⟨⟨rfl, hP, hK, hN⟩, hX, hZ⟩ := hv
  rw [lg_entry_eq]
  exact body (p, l, e, rm, s, m, av.toArray, below, meth, c) rfl ⟨⟨B.exec, B.bytes, hml, findClass_of_methodNamed B.named, atoms_spec B.pre⟩, hK, rfl, hN, B.notSynchronized, B.returns, hV⟩ ⟨hZ, hX, hlt, hT⟩ _ s.heap [] (lv_entry av hlen) hP va_S.rf
section KX
variable {C : kc_C} {V : kc_V} {cc : ByteArray} {nL : Nat} {own : String} {w0 : Cond} {rm : Room} {ret : Option FieldType} {z : Nat × Nat} {Q : State → Prop} {σ σ' σ0 : kc_Sg} {pc : Nat} {L : List (Nat × Value)} {st : List Value} {tag : Nat} {rv : Option Value}
theorem kx_end (h : kc_F C V cc nL own w0 rm ret) (e0 : tag = 0) {H : Heap} {locs : List Loc} (hP : va_P (kc_D V) cls_all (kc_w V σ) H) (hS : va_S (kc_A V) (kc_s C).heap H locs) : ∀ t : State, t.heap = H → (kc_s C).WarmedH t.vm → kx_Qr V tag rv σ (kc_args C) (kc_s C) (.returned rv) t :=
  fun t ht hW => ⟨e0, kc_end h hP hS t ht hW⟩
theorem kx_iret (h : kc_F C V cc nL own w0 rm (some .int)) {v v' : Int32} (d : decode cc pc = .ok (.ireturn, 1)) (e0 : tag = 0) (e : v = v') (es : σ = σ') : kc_Go C V nL (0, 0) (kx_E C V tag (some (.int v')) σ' σ0) σ pc L [.int v] := by
  subst e
  subst es
  intro ls H locs hl hP hS
  exact W.widen (k := 1) (n := 6) (Nat.zero_le _) (Nat.zero_le _) (vx_ret (W.iret h.x h.b h.rt (kx_end h e0 hP hS) hS.2.2 d h.lk))
theorem kx_zret (h : kc_F C V cc nL own w0 rm (some .boolean)) {v v' : Int32} (d : decode cc pc = .ok (.ireturn, 1)) (hn : narrow .boolean (.int v) = .int v) (e0 : tag = 0) (e : v = v') (es : σ = σ') : kc_Go C V nL (0, 0) (kx_E C V tag (some (.int v')) σ' σ0) σ pc L [.int v] := by
  subst e
  subst es
  intro ls H locs hl hP hS
  exact W.widen (k := 1) (n := 6) (Nat.zero_le _) (Nat.zero_le _) (vx_ret (W.zret h.x h.b h.rt hn (kx_end h e0 hP hS) hS.2.2 d h.lk))
theorem kx_vret (h : kc_F C V cc nL own w0 rm none) (d : decode cc pc = .ok (.return_, 1)) (e0 : tag = 0) (es : σ = σ') : kc_Go C V nL (0, 0) (kx_E C V tag none σ' σ0) σ pc L [] := by
  subst es
  intro ls H locs hl hP hS
  exact W.widen (k := 1) (n := 6) (Nat.zero_le _) (Nat.zero_le _) (vx_ret (W.vret h.x h.b h.rt (kx_end h e0 hP hS) hS.2.2 d h.lk))
/-- 'throw new E()' -/
theorem kx_throw (h : kc_F C V cc nL own w0 rm ret) (g : kx_F C V) {names : List String} {ik ic t : Nat} (ht : 1 ≤ t ∧ t ≤ 5) (e0 : tag = t) (hfit : Bundle.fit (kx_nm t) = true) (hnames : ∀ n ∈ names, Bundle.fit n = true) (hcl : Cond.classLink own ik (kx_nm t) ∈ lw_good) (hin : Cond.initialized (kx_nm t) ∈ lw_good)
    (hat : ∀ w ∈ vx_at0 own ic (kx_nm t) names, w.before (kc_args C) (kc_s C) = true) (hgood : ∀ w ∈ Cond.classLink own ik (kx_nm t) :: Cond.initialized (kx_nm t) :: vx_at0 own ic (kx_nm t) names, vx_ot w = true)
    (hR : names.length + 3 < rm.frames ∧ 8 + (13 * (names.length + 1) + 42) ≤ rm.locals ∧ 1 ≤ rm.cells ∧ 6 ≤ rm.slots) (hW : (st.map fun v => v.category).sum ≤ 8)
    (d0 : decode cc pc = .ok (.new ik, 3)) (d3 : decode cc (pc + 3) = .ok (.dup, 1)) (d4 : decode cc (pc + 4) = .ok (.invokespecial ic, 3)) (d7 : decode cc (pc + 7) = .ok (.athrow, 1)) : kc_Go C V nL (0, 0) (kx_E C V tag rv σ' σ) σ pc L st := by
  subst e0
  intro ls H locs hl hP hS
  have hRR := h.R
  refine vx_throw0 (A := kc_A V) h.x h.b g.2.2.1 h.ow hfit hnames (h.wd hcl) (h.wd hin) hat hgood g.1.1 g.1.2 hS (hl.1.trans h.ml.symm) d0 d3 d4 d7 (fun x hx => (g.2.2.2 x hx).elim) (by rw [hRR]; exact hR.1) (by rw [hRR]; omega) (by rw [hRR]; exact hR.2.2.1) (by rw [hRR]; exact hR.2.2.2) h.lk (fun t hA hz hk => ⟨ht, rfl, hP.kept (fun k q hq => hk q.1 ((hP k q hq).lt)), ?_⟩) hS.2.2 (Nat.le_refl _) (Nat.le_refl _)
  exact ⟨Nat.le_trans hS.1 hz, fun q h1 h2 => (hk q (Nat.lt_of_lt_of_le h1 hS.1)).trans (hS.2.1 q h1 h2)⟩
/-- behind a call that throws: it goes on to the caller -/
theorem kx_gone (h : kc_F C V cc nL own w0 rm ret) (g : kx_F C V) {y : MethodName} {t : Nat} {a : Array Value} {rest : List Value} {rv2 : Option Value} {σ2 : kc_Sg} {ls : Array Slot} {H : Heap} {locs : List Loc} (ht : ¬ t = 0) (e0 : tag = t) (hS : va_S (kc_A V) (kc_s C).heap H locs)
    (hr : vx_Run (kc_p C) (kc_l C) (kc_e C) (kc_R C) (kc_s C) (kc_m C) (kc_args C) (kc_below C) (kc_meth C) (kc_c C) H locs 0 0 1 6 (F0 (kc_m C) pc ls st) rest (kx_Qr V t rv2 σ2 a) (kx_Qx V t σ) (kc_A V)) : W (kc_p C) (kc_l C) (kc_e C) (kc_R C) (kc_s C) (kc_m C) (kc_args C) (kc_below C) (kc_meth C) (kc_c C) H locs 0 0 (kx_E C V tag rv σ' σ) (F0 (kc_m C) pc ls st) := by
  subst e0
  intro T hT X
  rcases hr T hT X with ⟨v, st₀, t', T', Lc, h0, X', hL, e1, e2, hq, go⟩ | ⟨q, st₀, t', T', Lc, E, ce, h0, X', hL, e1, e2, ⟨ht2, hE, hp, hF⟩, hce, hcv, hcl, hst⟩
  · exact absurd hq.1 ht
  · have hS2 := kc_back hS h0 hF e1 hL
    obtain ⟨t2, a1, b1⟩ := vx_out (pc := pc) (ls := ls) (rest := rest) (E := E) (ce := ce) (q := q) (mc := 1) (ms := 6) (Qc := kx_Qr V tag rv σ') (XC := kx_Qx V tag σ) (H := T'.heap) (fun x hx => (g.2.2.2 x hx).elim) h.lk (by rw [e1]; exact hce) hcv hcl (fun u hu _ => ⟨ht2, hE, by rw [hu, e1]; exact hp, hS2.F hu⟩) hS2.2.2 (Nat.le_refl _) (Nat.le_refl _) T' rfl X'
    exact ⟨t2, hst.trans a1, b1⟩
theorem kx_blind {V : kc_V} {av : List Value} {σ : kc_Sg} : FrameBlind (kx_Pz V av σ) := fun a U g mk q => ⟨kc_blind a U g mk q.1, q.2.1.same rfl, kc_zq.moved (u := U) (U := U.calling g mk a) (Vm.Alike.refl U.vm) q.2.2⟩
abbrev kx_room (rmz rm : Room) (nz : Nat) : Prop := (rmz.cells = 1 ∧ rmz.slots = 6) ∧ rmz.frames + 1 ≤ rm.frames ∧ 8 + (nz + 11) + rmz.locals ≤ rm.locals
theorem kx_outS (h : kc_F C V cc nL own w0 rm ret) (g : kx_F C V) {y : MethodName} {cz : ByteArray} {nz n index t : Nat} {rz : Option FieldType} {rmz : Room} {As rest : List Value} {rv2 : Option Value} {σ2 : kc_Sg}
    (hM : kx_Met (kc_l C) y cz nz rz rmz V As σ t rv2 σ2) (ht : ¬ t = 0) (e0 : tag = t) (hc : kc_cal y cz nz rz n) (hst : Cond.static y ∈ lw_good) (hlk : Cond.methodLink own index y ∈ lw_good) (hn : As.length = n) (hR : kx_room rmz rm nz ∧ 0 + 1 ≤ rm.cells ∧ 0 + 6 ≤ rm.slots) (hs : st = As.reverse ++ rest) (hW : (rest.map fun v => v.category).sum ≤ 8) (d : decode cc pc = .ok (.invokestatic index, 3)) : kc_Go C V nL (0, 0) (kx_E C V tag rv σ' σ) σ pc L st := by
  subst hs
  intro ls H locs hl hP hS
  have hRR := h.R
  exact kx_gone h g (y := y) ht e0 hS (vx_runS h.1 hM ⟨callB_of n h.ts (kc_goodIn hc.1) rfl hR.1.1.1 hR.1.1.2 (h.wd hc.2.1) (h.wd hlk) hc.2.2 (by rw [hRR]; exact hR.1.2), h.wd hst⟩ ⟨kx_blind, fun U hU hWm => ⟨⟨rfl, by rw [hU]; exact hP, va_K.moved hWm.alike h.K, h.nx.warm hWm⟩, g.2.1.warm hWm, by rw [hU]; exact kc_zq.moved hWm.alike (g.1.kept hS)⟩⟩ rfl hn hl.1 rfl (by show 2 * 0 + _ ≤ 8; omega) d (by rw [hRR]; exact hR.2))
theorem kx_outV (h : kc_F C V cc nL own w0 rm ret) (g : kx_F C V) {y : MethodName} {cz : ByteArray} {nz n index t k0 ci M : Nat} {fds : List (Option Nat)} {Tb : u_T} {rz : Option FieldType} {rmz : Room} {As rest : List Value} {rv2 : Option Value} {σ2 : kc_Sg}
    (hM : kx_Met (kc_l C) y cz nz rz rmz V (.ref (kc_ad V k0) :: As) σ t rv2 σ2) (ht : ¬ t = 0) (e0 : tag = t) (hc : kc_cal y cz nz rz n) (hst : Cond.instanceMethod y ∈ lw_good) (hse : Cond.selects y.cls y y ∈ lw_good) (hlk : Cond.methodLink own index y ∈ lw_good) (ho : kc_ob V k0 ci fds) (hcl : cls_all[ci]? = some (y.cls, Tb, M)) (hn : As.length = n) (hR : kx_room rmz rm nz ∧ 0 + 1 ≤ rm.cells ∧ 0 + 6 ≤ rm.slots) (hs : st = As.reverse ++ .ref (kc_ad V k0) :: rest) (hW : (rest.map fun v => v.category).sum ≤ 8) (d : decode cc pc = .ok (.invokevirtual index, 3)) : kc_Go C V nL (0, 0) (kx_E C V tag rv σ' σ) σ pc L st := by
  subst hs
  intro ls H locs hl hP hS
  have hRR := h.R
  exact kx_gone h g (y := y) ht e0 hS (vx_runV (C := y.cls) h.1 hM ⟨callB_of n h.ts (kc_goodIn hc.1) rfl hR.1.1.1 hR.1.1.2 (h.wd hc.2.1) (h.wd hlk) hc.2.2 (by rw [hRR]; exact hR.1.2), h.wd hst, h.wd hse⟩ ⟨kx_blind, va_recv (q := (y.cls, Tb, M)) h.K hP hcl (kc_at_o ho), fun U hU hWm => ⟨⟨rfl, by rw [hU]; exact hP, va_K.moved hWm.alike h.K, h.nx.warm hWm⟩, g.2.1.warm hWm, by rw [hU]; exact kc_zq.moved hWm.alike (g.1.kept hS)⟩⟩ rfl hn hl.1 rfl (by show 2 * 0 + _ ≤ 8; omega) d (by rw [hRR]; exact hR.2))
end KX
