/-! own layer: a world of one shape; its contents are numbers by cell and place -/
abbrev kc_Sh : Type := (ClassId × Nat) ⊕ ((ClassId × Nat × Nat) ⊕ ((Nat × List (Option Nat)) ⊕ (ClassId × Nat)))
abbrev kc_Sg : Type := Nat → Nat → Int32
def kc_fv (ad : Nat → Nat) (f : Nat → Int32) : Nat → List (Option Nat) → List Value
  | _, [] => []
  | j, none :: t => .int (f j) :: kc_fv ad f (j + 1) t
  | j, some r :: t => .ref (ad r) :: kc_fv ad f (j + 1) t
def kc_ce (sh : Nat → kc_Sh) (ad : Nat → Nat) (σ : kc_Sg) (k : Nat) : va_E := match sh k with
  | .inl a => .inl (a.1, a.2, .inl (σ k))
  | .inr (.inl a) => .inl (a.1, a.2.1, .inr (.inr (.inr (.inr (fun i => some (ad (a.2.2 + i)))))))
  | .inr (.inr (.inl b)) => .inr (b.1, kc_fv ad (σ k) 0 b.2)
  | .inr (.inr (.inr a)) => .inl (a.1, a.2, .inr (.inl (fun i => (σ k i).toInt64)))
def kc_wo (sh : Nat → kc_Sh) (N : Nat) (ad : Nat → Nat) (σ : kc_Sg) : va_W := (List.range N).map (fun k => (ad k, kc_ce sh ad σ k))
section KCW
variable {sh : Nat → kc_Sh} {N : Nat} {ad : Nat → Nat} {σ σ' : kc_Sg} {k j i n r ci : Nat} {v : va_E} {f g : Nat → Int32} {x : Int32} {fds : List (Option Nat)} {cA : ClassId}
theorem kc_wo_at (h : k < N) : (kc_wo sh N ad σ)[k]? = some (ad k, kc_ce sh ad σ k) := by
  unfold kc_wo
  rw [List.getElem?_map, List.getElem?_range h]
  rfl
theorem kc_wo_in {q : Nat × va_E} (h : (kc_wo sh N ad σ)[k]? = some q) : k < N ∧ q = (ad k, kc_ce sh ad σ k) := by
  have hk : k < N := by
    have := (List.getElem?_eq_some_iff.mp h).1
    unfold kc_wo at this
    simpa using this
  exact ⟨hk, (Option.some.inj ((kc_wo_at hk).symm.trans h)).symm⟩
theorem kc_wo_set (h : k < N) (he : kc_ce sh ad σ' k = v) (ho : ∀ j, j ≠ k → kc_ce sh ad σ' j = kc_ce sh ad σ j) : (kc_wo sh N ad σ).set k (ad k, v) = kc_wo sh N ad σ' := by
  apply List.ext_getElem?
  intro j
  by_cases hj : k = j
  · subst hj
    rw [List.getElem?_set_self (by unfold kc_wo; simpa using h), kc_wo_at h, he]
  · rw [List.getElem?_set_ne hj]
    by_cases hN : j < N
    · rw [kc_wo_at hN, kc_wo_at hN, ho j (fun q => hj q.symm)]
    · rw [List.getElem?_eq_none (by unfold kc_wo; simpa using hN), List.getElem?_eq_none (by unfold kc_wo; simpa using hN)]
theorem kc_ce_eq (h : σ' k = σ k) : kc_ce sh ad σ' k = kc_ce sh ad σ k := by
  unfold kc_ce
  rw [h]
def kc_up (σ : kc_Sg) (k i : Nat) (x : Int32) : kc_Sg := fun j => if j = k then upd (σ k) i x else σ j
def kc_pu (σ : kc_Sg) (k : Nat) (f : Nat → Int32) : kc_Sg := fun j => if j = k then f else σ j
theorem kc_up_ne (h : j ≠ k) : kc_up σ k i x j = σ j := if_neg h
theorem kc_up_eq : kc_up σ k i x k = upd (σ k) i x := if_pos rfl
theorem kc_pu_ne (h : j ≠ k) : kc_pu σ k f j = σ j := if_neg h
theorem kc_pu_eq : kc_pu σ k f k = f := if_pos rfl
theorem kc_up_pu : kc_up σ k i x = kc_pu σ k (upd (σ k) i x) := rfl
theorem kc_ce_a (hs : sh k = .inl (cA, n)) : kc_ce sh ad σ k = .inl (cA, n, .inl (σ k)) := by
  unfold kc_ce
  rw [hs]
theorem kc_ce_r (hs : sh k = .inr (.inl (cA, n, r))) : kc_ce sh ad σ k = .inl (cA, n, .inr (.inr (.inr (.inr (fun i => some (ad (r + i))))))) := by
  unfold kc_ce
  rw [hs]
theorem kc_ce_o (hs : sh k = .inr (.inr (.inl (ci, fds)))) : kc_ce sh ad σ k = .inr (ci, kc_fv ad (σ k) 0 fds) := by
  unfold kc_ce
  rw [hs]
theorem kc_ce_l (hs : sh k = .inr (.inr (.inr (cA, n)))) : kc_ce sh ad σ k = .inl (cA, n, .inr (.inl (fun i => (σ k i).toInt64))) := by
  unfold kc_ce
  rw [hs]
theorem kc_fv_int : ∀ (fds : List (Option Nat)) (b j : Nat), fds[j]? = some none → (kc_fv ad f b fds)[j]? = some (.int (f (b + j)))
  | [], _, _, h => by cases h
  | none :: t, b, 0, _ => rfl
  | some r :: t, b, 0, h => by cases h
  | none :: t, b, j + 1, h => by
    show (kc_fv ad f (b + 1) t)[j]? = _
    rw [kc_fv_int t (b + 1) j h, show b + 1 + j = b + (j + 1) by omega]
  | some r :: t, b, j + 1, h => by
    show (kc_fv ad f (b + 1) t)[j]? = _
    rw [kc_fv_int t (b + 1) j h, show b + 1 + j = b + (j + 1) by omega]
theorem kc_fv_ref : ∀ (fds : List (Option Nat)) (b j : Nat), fds[j]? = some (some r) → (kc_fv ad f b fds)[j]? = some (.ref (ad r))
  | [], _, _, h => by cases h
  | none :: t, b, 0, h => by cases h
  | some q :: t, b, 0, h => by
    cases h
    rfl
  | none :: t, b, j + 1, h => kc_fv_ref t (b + 1) j h
  | some q :: t, b, j + 1, h => kc_fv_ref t (b + 1) j h
theorem kc_fv_len : ∀ (fds : List (Option Nat)) (b : Nat), (kc_fv ad f b fds).length = fds.length
  | [], _ => rfl
  | none :: t, b => congrArg (· + 1) (kc_fv_len t (b + 1))
  | some _ :: t, b => congrArg (· + 1) (kc_fv_len t (b + 1))
theorem kc_fv_congr : ∀ (fds : List (Option Nat)) (b : Nat), (∀ i, b ≤ i → f i = g i) → kc_fv ad f b fds = kc_fv ad g b fds
  | [], _, _ => rfl
  | none :: t, b, h => by
    show Value.int (f b) :: kc_fv ad f (b + 1) t = Value.int (g b) :: kc_fv ad g (b + 1) t
    rw [h b (Nat.le_refl _), kc_fv_congr t (b + 1) (fun i hi => h i (by omega))]
  | some r :: t, b, h => by
    show Value.ref (ad r) :: kc_fv ad f (b + 1) t = Value.ref (ad r) :: kc_fv ad g (b + 1) t
    rw [kc_fv_congr t (b + 1) (fun i hi => h i (by omega))]
theorem kc_fv_set : ∀ (fds : List (Option Nat)) (b j : Nat), fds[j]? = some none → (kc_fv ad f b fds).set j (.int x) = kc_fv ad (upd f (b + j) x) b fds
  | [], _, _, h => by cases h
  | none :: t, b, 0, _ => by
    show Value.int x :: kc_fv ad f (b + 1) t = Value.int (upd f (b + 0) x b) :: kc_fv ad (upd f (b + 0) x) (b + 1) t
    rw [kc_fv_congr (g := upd f (b + 0) x) t (b + 1) (fun i hi => by unfold upd; rw [if_neg (by omega)])]
    unfold upd
    rw [if_pos (by omega)]
  | some r :: t, b, 0, h => by cases h
  | none :: t, b, j + 1, h => by
    show Value.int (f b) :: (kc_fv ad f (b + 1) t).set j (.int x) = Value.int (upd f (b + (j + 1)) x b) :: kc_fv ad (upd f (b + (j + 1)) x) (b + 1) t
    rw [kc_fv_set t (b + 1) j h, show b + 1 + j = b + (j + 1) by omega]
    congr 2
    unfold upd
    rw [if_neg (by omega)]
  | some r :: t, b, j + 1, h => by
    show Value.ref (ad r) :: (kc_fv ad f (b + 1) t).set j (.int x) = Value.ref (ad r) :: kc_fv ad (upd f (b + (j + 1)) x) (b + 1) t
    rw [kc_fv_set t (b + 1) j h, show b + 1 + j = b + (j + 1) by omega]
end KCW
/-! what stands round a walk: program, launch, .. as one value; the world: tables, kinds, which cells may change, shape, how many, where -/
abbrev kc_C : Type := Program × Launch × Env × Room × State × MethodId × Array Value × List Frame × Method × Code
abbrev kc_p (C : kc_C) : Program := C.1
abbrev kc_l (C : kc_C) : Launch := C.2.1
abbrev kc_e (C : kc_C) : Env := C.2.2.1
abbrev kc_R (C : kc_C) : Room := C.2.2.2.1
abbrev kc_s (C : kc_C) : State := C.2.2.2.2.1
abbrev kc_m (C : kc_C) : MethodId := C.2.2.2.2.2.1
abbrev kc_args (C : kc_C) : Array Value := C.2.2.2.2.2.2.1
abbrev kc_below (C : kc_C) : List Frame := C.2.2.2.2.2.2.2.1
abbrev kc_meth (C : kc_C) : Method := C.2.2.2.2.2.2.2.2.1
abbrev kc_c (C : kc_C) : Code := C.2.2.2.2.2.2.2.2.2
abbrev kc_V : Type := va_G × List (ClassId × FieldType) × (Nat → Prop) × (Nat → kc_Sh) × Nat × (Nat → Nat)
abbrev kc_D (V : kc_V) : va_G := V.1
abbrev kc_ty (V : kc_V) : List (ClassId × FieldType) := V.2.1
abbrev kc_A (V : kc_V) : Nat → Prop := V.2.2.1
abbrev kc_sh (V : kc_V) : Nat → kc_Sh := V.2.2.2.1
abbrev kc_N (V : kc_V) : Nat := V.2.2.2.2.1
abbrev kc_ad (V : kc_V) : Nat → Nat := V.2.2.2.2.2
abbrev kc_w (V : kc_V) (σ : kc_Sg) : va_W := kc_wo (kc_sh V) (kc_N V) (kc_ad V) σ
def kc_ok (V : kc_V) : Prop := (∀ i j, i < kc_N V → j < kc_N V → kc_ad V i = kc_ad V j → i = j) ∧ ∀ i, i < kc_N V → kc_A V (kc_ad V i)
theorem kc_dis {V : kc_V} (h : kc_ok V) (σ : kc_Sg) : va_D (kc_A V) (kc_w V σ) := by
  refine ⟨fun i j p q hi hj hpq => ?_, fun k q hk => ?_⟩
  · obtain ⟨h1, rfl⟩ := kc_wo_in hi
    obtain ⟨h2, rfl⟩ := kc_wo_in hj
    exact h.1 i j h1 h2 hpq
  · obtain ⟨h1, rfl⟩ := kc_wo_in hk
    exact h.2 k h1
def kc_nx (U : State) : Prop := ∀ q ∈ kc_nest, va_Nw (.methodLinkNest q.1 q.2.1 q.2.2.1 q.2.2.2) U
theorem kc_nx.warm {s U : State} (hW : s.WarmedH U.vm) (h : kc_nx s) : kc_nx U := fun q hq => (h q hq).warmM hW
theorem kc_nx.same {s U : State} (e : s.vm = U.vm) (h : kc_nx s) : kc_nx U := fun q hq => (h q hq).same rfl e
/-- what a walk knows of what stands round it -/
def kc_F (C : kc_C) (V : kc_V) (cc : ByteArray) (nL : Nat) (own : String) (w0 : Cond) (rm : Room) (ret : Option FieldType) : Prop :=
  CallFix (kc_p C) (kc_m C) (kc_c C) cc nL (kc_s C) (kc_args C) (w0 :: lw_good) own ∧ va_K (kc_D V) cls_all (kc_ty V) (kc_s C) ∧ kc_R C = rm ∧ kc_nx (kc_s C) ∧ (kc_meth C).locks = false ∧ (kc_meth C).sig.returnType = ret ∧ kc_ok V
/-- the judgement: from pc with these locals and this stack, over every heap that holds the world with contents σ -/
def kc_Go (C : kc_C) (V : kc_V) (nL : Nat) (z : Nat × Nat) (Q : State → Prop) (σ : kc_Sg) (pc : Nat) (L : List (Nat × Value)) (st : List Value) : Prop :=
  ∀ (ls : Array Slot) (H : Heap) (locs : List Loc), lv_has ls nL L → va_P (kc_D V) cls_all (kc_w V σ) H → va_S (kc_A V) (kc_s C).heap H locs →
    W (kc_p C) (kc_l C) (kc_e C) (kc_R C) (kc_s C) (kc_m C) (kc_args C) (kc_below C) (kc_meth C) (kc_c C) H locs z.1 z.2 Q (F0 (kc_m C) pc ls st)
def kc_Pz (V : kc_V) (av : List Value) (σ : kc_Sg) : Array Value → State → Prop := fun v U => v = av.toArray ∧ va_P (kc_D V) cls_all (kc_w V σ) U.heap ∧ va_K (kc_D V) cls_all (kc_ty V) U ∧ kc_nx U
def kc_Qz (V : kc_V) (rv : Option Value) (σ : kc_Sg) : Array Value → State → Outcome → State → Prop := fun _ st oc t => oc = .returned rv ∧ va_P (kc_D V) cls_all (kc_w V σ) t.heap ∧ va_F (kc_A V) st t
/-- a contract: with these arguments and contents it returns this value, and the contents are these -/
def kc_Met (l : Launch) (y : MethodName) (cc : ByteArray) (nL : Nat) (ret : Option FieldType) (rm : Room) (V : kc_V) (av : List Value) (σ : kc_Sg) (rv : Option Value) (σ' : kc_Sg) : Prop :=
  Met l y (Cond.code y cc nL ret :: lw_good) rm (kc_Pz V av σ) (kc_Qz V rv σ') 0 0 (kc_A V)
abbrev kc_E (C : kc_C) (V : kc_V) (rv : Option Value) (σ : kc_Sg) : State → Prop := MQ (kc_below C) (kc_Qz V rv σ) (kc_args C) (kc_s C) 0 0 (kc_A V)
theorem kc_of {l : Launch} {y : MethodName} {cc : ByteArray} {nL : Nat} {ret : Option FieldType} {rm : Room} {V : kc_V} {av : List Value} {σ : kc_Sg} {rv : Option Value} {σ' : kc_Sg} (hy : plainName y.cls = true) (hlen : (lg_sl av).length ≤ nL) (hV : kc_ok V)
    (body : ∀ C : kc_C, kc_l C = l → kc_F C V cc nL y.cls (Cond.code y cc nL ret) rm ret → kc_Go C V nL (0, 0) (kc_E C V rv σ') σ 0 (lv_args 0 av) []) : kc_Met l y cc nL ret rm V av σ rv σ' := by
  refine Met.ofW (cc := cc) (maxL := nL) (ret := ret) hy rfl ?_
  intro p e s m args below meth c s₁ B hml hv
  obtain ⟨rfl, hP, hK, hN⟩ := hv
  rw [lg_entry_eq]
  exact body (p, l, e, rm, s, m, av.toArray, below, meth, c) rfl ⟨⟨B.exec, B.bytes, hml, findClass_of_methodNamed B.named, atoms_spec B.pre⟩, hK, rfl, hN, B.notSynchronized, B.returns, hV⟩ _ s.heap [] (lv_entry av hlen) hP va_S.rf
section KG
variable {C : kc_C} {V : kc_V} {cc : ByteArray} {nL : Nat} {own : String} {w0 : Cond} {rm : Room} {ret : Option FieldType} {z : Nat × Nat} {Q : State → Prop} {σ σ' : kc_Sg} {pc : Nat} {L : List (Nat × Value)} {st : List Value}
theorem kc_F.x (h : kc_F C V cc nL own w0 rm ret) : (kc_p C).tables.exec = Jvm.exec := h.1.1
theorem kc_F.b (h : kc_F C V cc nL own w0 rm ret) : (kc_c C).code = cc := h.1.2.1
theorem kc_F.ml (h : kc_F C V cc nL own w0 rm ret) : (kc_c C).maxLocals = nL := h.1.2.2.1
theorem kc_F.ow (h : kc_F C V cc nL own w0 rm ret) : (kc_s C).vm.findClass own = some (kc_m C).cls := h.1.2.2.2.1
theorem kc_F.ts (h : kc_F C V cc nL own w0 rm ret) : ∀ w ∈ (w0 :: lw_good), w.before (kc_args C) (kc_s C) = true := h.1.2.2.2.2
theorem kc_F.wd (h : kc_F C V cc nL own w0 rm ret) {w : Cond} (hw : w ∈ lw_good) : w.before (kc_args C) (kc_s C) = true := h.ts w (List.mem_cons_of_mem _ hw)
theorem kc_F.K (h : kc_F C V cc nL own w0 rm ret) : va_K (kc_D V) cls_all (kc_ty V) (kc_s C) := h.2.1
theorem kc_F.R (h : kc_F C V cc nL own w0 rm ret) : kc_R C = rm := h.2.2.1
theorem kc_F.nx (h : kc_F C V cc nL own w0 rm ret) : kc_nx (kc_s C) := h.2.2.2.1
theorem kc_F.lk (h : kc_F C V cc nL own w0 rm ret) : (kc_meth C).locks = false := h.2.2.2.2.1
theorem kc_F.rt (h : kc_F C V cc nL own w0 rm ret) : (kc_meth C).sig.returnType = ret := h.2.2.2.2.2.1
theorem kc_F.ok (h : kc_F C V cc nL own w0 rm ret) : kc_ok V := h.2.2.2.2.2.2
def kc_rem (x y : Int32) : Int32 := x - x / y * y
def kc_lrem (x y : Int64) : Int64 := x - x / y * y
def kc_shl (x y : Int32) : Int32 := x <<< (y &&& 31)
def kc_shr (x y : Int32) : Int32 := x >>> (y &&& 31)
def kc_ushr (x y : Int32) : Int32 := (x.toUInt32 >>> (y.toUInt32 &&& Int32.toUInt32 31)).toInt32
theorem kg_iconst (h : kc_F C V cc nL own w0 rm ret) {n : Int} {v : Int32} (d : decode cc pc = .ok (.iconst n, 1)) (hv : Int32.ofInt n = v) (k : kc_Go C V nL z Q σ (pc + 1) L (.int v :: st)) : kc_Go C V nL z Q σ pc L st := fun ls H locs hl hP hS => lv_iconst h.x h.b d hv (k ls H locs hl hP hS)
theorem kg_bipush (h : kc_F C V cc nL own w0 rm ret) {n : Int} {v : Int32} (d : decode cc pc = .ok (.bipush n, 2)) (hv : (Int8.ofInt n).toInt32 = v) (k : kc_Go C V nL z Q σ (pc + 2) L (.int v :: st)) : kc_Go C V nL z Q σ pc L st := fun ls H locs hl hP hS => lv_bipush h.x h.b d hv (k ls H locs hl hP hS)
theorem kg_sipush (h : kc_F C V cc nL own w0 rm ret) {n : Int} {v : Int32} (d : decode cc pc = .ok (.sipush n, 3)) (hv : (Int16.ofInt n).toInt32 = v) (k : kc_Go C V nL z Q σ (pc + 3) L (.int v :: st)) : kc_Go C V nL z Q σ pc L st := fun ls H locs hl hP hS => lv_sipush h.x h.b d hv (k ls H locs hl hP hS)
theorem kg_lconst (h : kc_F C V cc nL own w0 rm ret) {n : Fin 2} {v : Int64} (d : decode cc pc = .ok (.lconst n, 1)) (hv : Int64.ofNat (n : Nat) = v) (k : kc_Go C V nL z Q σ (pc + 1) L (.long v :: st)) : kc_Go C V nL z Q σ pc L st := fun ls H locs hl hP hS => lv_lconst h.x h.b d hv (k ls H locs hl hP hS)
theorem kg_ldc_w (h : kc_F C V cc nL own w0 rm ret) {index : Nat} {v : Int32} (d : decode cc pc = .ok (.ldc_w index, 3)) (hw : Cond.constant own index v ∈ lw_good) (k : kc_Go C V nL z Q σ (pc + 3) L (.int v :: st)) : kc_Go C V nL z Q σ pc L st := fun ls H locs hl hP hS => lv_ldcw h.x h.b h.ow (h.wd hw) d (k ls H locs hl hP hS)
theorem kg_ldc (h : kc_F C V cc nL own w0 rm ret) {index : Nat} {v : Int32} (d : decode cc pc = .ok (.ldc index, 2)) (hw : Cond.constant own index v ∈ lw_good) (k : kc_Go C V nL z Q σ (pc + 2) L (.int v :: st)) : kc_Go C V nL z Q σ pc L st := fun ls H locs hl hP hS => W.ldc h.x h.b h.ow (h.wd hw) rfl d (k ls H locs hl hP hS)
theorem kg_iload_n (h : kc_F C V cc nL own w0 rm ret) {j : Fin 4} {x : Int32} (d : decode cc pc = .ok (.iload_n j, 1)) (q : Nat) (hq : L[q]? = some ((j : Nat), .int x)) (k : kc_Go C V nL z Q σ (pc + 1) L (.int x :: st)) : kc_Go C V nL z Q σ pc L st := fun ls H locs hl hP hS => lv_iload_n h.x h.b d rfl (lv_at hl q hq) (k ls H locs hl hP hS)
theorem kg_iload (h : kc_F C V cc nL own w0 rm ret) {j : Nat} {x : Int32} (d : decode cc pc = .ok (.iload j, 2)) (q : Nat) (hq : L[q]? = some (j, .int x)) (k : kc_Go C V nL z Q σ (pc + 2) L (.int x :: st)) : kc_Go C V nL z Q σ pc L st := fun ls H locs hl hP hS => lv_iload h.x h.b d (lv_at hl q hq) (k ls H locs hl hP hS)
theorem kg_lload_n (h : kc_F C V cc nL own w0 rm ret) {j : Fin 4} {x : Int64} (d : decode cc pc = .ok (.lload_n j, 1)) (q : Nat) (hq : L[q]? = some ((j : Nat), .long x)) (k : kc_Go C V nL z Q σ (pc + 1) L (.long x :: st)) : kc_Go C V nL z Q σ pc L st := fun ls H locs hl hP hS => lv_lload_n h.x h.b d rfl (lv_at hl q hq) (k ls H locs hl hP hS)
theorem kg_lload (h : kc_F C V cc nL own w0 rm ret) {j : Nat} {x : Int64} (d : decode cc pc = .ok (.lload j, 2)) (q : Nat) (hq : L[q]? = some (j, .long x)) (k : kc_Go C V nL z Q σ (pc + 2) L (.long x :: st)) : kc_Go C V nL z Q σ pc L st := fun ls H locs hl hP hS => lv_lload h.x h.b d (lv_at hl q hq) (k ls H locs hl hP hS)
theorem kg_aload_n (h : kc_F C V cc nL own w0 rm ret) {j : Fin 4} {x : Nat} (d : decode cc pc = .ok (.aload_n j, 1)) (q : Nat) (hq : L[q]? = some ((j : Nat), .ref x)) (k : kc_Go C V nL z Q σ (pc + 1) L (.ref x :: st)) : kc_Go C V nL z Q σ pc L st := fun ls H locs hl hP hS => lv_aload_n h.x h.b d rfl (lv_at hl q hq) (k ls H locs hl hP hS)
theorem kg_aload (h : kc_F C V cc nL own w0 rm ret) {j : Nat} {x : Nat} (d : decode cc pc = .ok (.aload j, 2)) (q : Nat) (hq : L[q]? = some (j, .ref x)) (k : kc_Go C V nL z Q σ (pc + 2) L (.ref x :: st)) : kc_Go C V nL z Q σ pc L st := fun ls H locs hl hP hS => lv_aload h.x h.b d (lv_at hl q hq) (k ls H locs hl hP hS)
theorem kg_istore_n (h : kc_F C V cc nL own w0 rm ret) {j : Fin 4} {x : Int32} (d : decode cc pc = .ok (.istore_n j, 1)) (L' : List (Nat × Value)) (hL : ((j : Nat), Value.int x) :: L.filter (fun q => !(q.1 == (j : Nat)) && !(q.1 + 1 == (j : Nat) && q.2.category == 2)) = L') (hn : (j : Nat) < nL) (k : kc_Go C V nL z Q σ (pc + 1) L' st) : kc_Go C V nL z Q σ pc L (Value.int x :: st) := fun ls H locs hl hP hS => lv_istore_n h.x h.b d rfl hl hn hL (fun ls' hl' => k ls' H locs hl' hP hS)
theorem kg_istore (h : kc_F C V cc nL own w0 rm ret) {j : Nat} {x : Int32} (d : decode cc pc = .ok (.istore j, 2)) (L' : List (Nat × Value)) (hL : (j, Value.int x) :: L.filter (fun q => !(q.1 == j) && !(q.1 + 1 == j && q.2.category == 2)) = L') (hn : j < nL) (k : kc_Go C V nL z Q σ (pc + 2) L' st) : kc_Go C V nL z Q σ pc L (Value.int x :: st) := fun ls H locs hl hP hS => lv_istore h.x h.b d hl hn hL (fun ls' hl' => k ls' H locs hl' hP hS)
theorem kg_lstore_n (h : kc_F C V cc nL own w0 rm ret) {j : Fin 4} {x : Int64} (d : decode cc pc = .ok (.lstore_n j, 1)) (L' : List (Nat × Value)) (hL : ((j : Nat), Value.long x) :: L.filter (fun q => !(q.1 == (j : Nat)) && (!(q.1 == (j : Nat) + 1) && !(q.1 + 1 == (j : Nat) && q.2.category == 2))) = L') (hn : (j : Nat) + 1 < nL) (k : kc_Go C V nL z Q σ (pc + 1) L' st) : kc_Go C V nL z Q σ pc L (Value.long x :: st) := fun ls H locs hl hP hS => lv_lstore_n h.x h.b d rfl hl hn hL (fun ls' hl' => k ls' H locs hl' hP hS)
theorem kg_lstore (h : kc_F C V cc nL own w0 rm ret) {j : Nat} {x : Int64} (d : decode cc pc = .ok (.lstore j, 2)) (L' : List (Nat × Value)) (hL : (j, Value.long x) :: L.filter (fun q => !(q.1 == j) && (!(q.1 == j + 1) && !(q.1 + 1 == j && q.2.category == 2))) = L') (hn : j + 1 < nL) (k : kc_Go C V nL z Q σ (pc + 2) L' st) : kc_Go C V nL z Q σ pc L (Value.long x :: st) := fun ls H locs hl hP hS => lv_lstore h.x h.b d hl hn hL (fun ls' hl' => k ls' H locs hl' hP hS)
theorem kg_astore_n (h : kc_F C V cc nL own w0 rm ret) {j : Fin 4} {x : Nat} (d : decode cc pc = .ok (.astore_n j, 1)) (L' : List (Nat × Value)) (hL : ((j : Nat), Value.ref x) :: L.filter (fun q => !(q.1 == (j : Nat)) && !(q.1 + 1 == (j : Nat) && q.2.category == 2)) = L') (hn : (j : Nat) < nL) (k : kc_Go C V nL z Q σ (pc + 1) L' st) : kc_Go C V nL z Q σ pc L (Value.ref x :: st) := fun ls H locs hl hP hS => lv_astore_n h.x h.b d rfl hl hn hL (fun ls' hl' => k ls' H locs hl' hP hS)
theorem kg_astore (h : kc_F C V cc nL own w0 rm ret) {j : Nat} {x : Nat} (d : decode cc pc = .ok (.astore j, 2)) (L' : List (Nat × Value)) (hL : (j, Value.ref x) :: L.filter (fun q => !(q.1 == j) && !(q.1 + 1 == j && q.2.category == 2)) = L') (hn : j < nL) (k : kc_Go C V nL z Q σ (pc + 2) L' st) : kc_Go C V nL z Q σ pc L (Value.ref x :: st) := fun ls H locs hl hP hS => lv_astore h.x h.b d hl hn hL (fun ls' hl' => k ls' H locs hl' hP hS)
theorem kg_iinc (h : kc_F C V cc nL own w0 rm ret) {j : Nat} {n : Int} {x v : Int32} (d : decode cc pc = .ok (.iinc j n, 3)) (q : Nat) (hq : L[q]? = some (j, .int x)) (hv : x + Int32.ofInt n = v) (L' : List (Nat × Value)) (hL : (j, Value.int v) :: L.filter (fun q => !(q.1 == j) && !(q.1 + 1 == j && q.2.category == 2)) = L') (hn : j < nL) (k : kc_Go C V nL z Q σ (pc + 3) L' st) : kc_Go C V nL z Q σ pc L st := fun ls H locs hl hP hS => lv_iinc h.x h.b d hl hq hv hn hL (fun ls' hl' => k ls' H locs hl' hP hS)
theorem kg_iadd (h : kc_F C V cc nL own w0 rm ret) {x y : Int32} (d : decode cc pc = .ok (.iadd, 1)) (k : kc_Go C V nL z Q σ (pc + 1) L (.int (x + y) :: st)) : kc_Go C V nL z Q σ pc L (.int y :: .int x :: st) := fun ls H locs hl hP hS => lv_iadd h.x h.b d (k ls H locs hl hP hS)
theorem kg_isub (h : kc_F C V cc nL own w0 rm ret) {x y : Int32} (d : decode cc pc = .ok (.isub, 1)) (k : kc_Go C V nL z Q σ (pc + 1) L (.int (x - y) :: st)) : kc_Go C V nL z Q σ pc L (.int y :: .int x :: st) := fun ls H locs hl hP hS => lv_isub h.x h.b d (k ls H locs hl hP hS)
theorem kg_imul (h : kc_F C V cc nL own w0 rm ret) {x y : Int32} (d : decode cc pc = .ok (.imul, 1)) (k : kc_Go C V nL z Q σ (pc + 1) L (.int (x * y) :: st)) : kc_Go C V nL z Q σ pc L (.int y :: .int x :: st) := fun ls H locs hl hP hS => lv_imul h.x h.b d (k ls H locs hl hP hS)
theorem kg_iand (h : kc_F C V cc nL own w0 rm ret) {x y : Int32} (d : decode cc pc = .ok (.iand, 1)) (k : kc_Go C V nL z Q σ (pc + 1) L (.int (x &&& y) :: st)) : kc_Go C V nL z Q σ pc L (.int y :: .int x :: st) := fun ls H locs hl hP hS => lv_iand h.x h.b d (k ls H locs hl hP hS)
theorem kg_ior (h : kc_F C V cc nL own w0 rm ret) {x y : Int32} (d : decode cc pc = .ok (.ior, 1)) (k : kc_Go C V nL z Q σ (pc + 1) L (.int (x ||| y) :: st)) : kc_Go C V nL z Q σ pc L (.int y :: .int x :: st) := fun ls H locs hl hP hS => lv_ior h.x h.b d (k ls H locs hl hP hS)
theorem kg_ixor (h : kc_F C V cc nL own w0 rm ret) {x y : Int32} (d : decode cc pc = .ok (.ixor, 1)) (k : kc_Go C V nL z Q σ (pc + 1) L (.int (x ^^^ y) :: st)) : kc_Go C V nL z Q σ pc L (.int y :: .int x :: st) := fun ls H locs hl hP hS => lv_ixor h.x h.b d (k ls H locs hl hP hS)
theorem kg_ishl (h : kc_F C V cc nL own w0 rm ret) {x y : Int32} (d : decode cc pc = .ok (.ishl, 1)) (k : kc_Go C V nL z Q σ (pc + 1) L (.int (kc_shl x y) :: st)) : kc_Go C V nL z Q σ pc L (.int y :: .int x :: st) := fun ls H locs hl hP hS => lv_ishl h.x h.b d (k ls H locs hl hP hS)
theorem kg_ishr (h : kc_F C V cc nL own w0 rm ret) {x y : Int32} (d : decode cc pc = .ok (.ishr, 1)) (k : kc_Go C V nL z Q σ (pc + 1) L (.int (kc_shr x y) :: st)) : kc_Go C V nL z Q σ pc L (.int y :: .int x :: st) := fun ls H locs hl hP hS => lv_ishr h.x h.b d (k ls H locs hl hP hS)
theorem kg_iushr (h : kc_F C V cc nL own w0 rm ret) {x y : Int32} (d : decode cc pc = .ok (.iushr, 1)) (k : kc_Go C V nL z Q σ (pc + 1) L (.int (kc_ushr x y) :: st)) : kc_Go C V nL z Q σ pc L (.int y :: .int x :: st) := fun ls H locs hl hP hS => lv_iushr h.x h.b d rfl (k ls H locs hl hP hS)
theorem kg_ladd (h : kc_F C V cc nL own w0 rm ret) {x y : Int64} (d : decode cc pc = .ok (.ladd, 1)) (k : kc_Go C V nL z Q σ (pc + 1) L (.long (x + y) :: st)) : kc_Go C V nL z Q σ pc L (.long y :: .long x :: st) := fun ls H locs hl hP hS => lv_ladd h.x h.b d (k ls H locs hl hP hS)
theorem kg_lsub (h : kc_F C V cc nL own w0 rm ret) {x y : Int64} (d : decode cc pc = .ok (.lsub, 1)) (k : kc_Go C V nL z Q σ (pc + 1) L (.long (x - y) :: st)) : kc_Go C V nL z Q σ pc L (.long y :: .long x :: st) := fun ls H locs hl hP hS => lv_lsub h.x h.b d (k ls H locs hl hP hS)
theorem kg_lmul (h : kc_F C V cc nL own w0 rm ret) {x y : Int64} (d : decode cc pc = .ok (.lmul, 1)) (k : kc_Go C V nL z Q σ (pc + 1) L (.long (x * y) :: st)) : kc_Go C V nL z Q σ pc L (.long y :: .long x :: st) := fun ls H locs hl hP hS => lv_lmul h.x h.b d (k ls H locs hl hP hS)
theorem kg_irem (h : kc_F C V cc nL own w0 rm ret) {x y : Int32} (d : decode cc pc = .ok (.irem, 1)) (hne : ¬ y = 0) (k : kc_Go C V nL z Q σ (pc + 1) L (.int (kc_rem x y) :: st)) : kc_Go C V nL z Q σ pc L (.int y :: .int x :: st) := fun ls H locs hl hP hS => lv_irem h.x h.b d hne (k ls H locs hl hP hS)
theorem kg_idiv (h : kc_F C V cc nL own w0 rm ret) {x y : Int32} (d : decode cc pc = .ok (.idiv, 1)) (hne : ¬ y = 0) (k : kc_Go C V nL z Q σ (pc + 1) L (.int (x / y) :: st)) : kc_Go C V nL z Q σ pc L (.int y :: .int x :: st) := fun ls H locs hl hP hS => lv_idiv h.x h.b d hne (k ls H locs hl hP hS)
theorem kg_lrem (h : kc_F C V cc nL own w0 rm ret) {x y : Int64} (d : decode cc pc = .ok (.lrem, 1)) (hne : ¬ y = 0) (k : kc_Go C V nL z Q σ (pc + 1) L (.long (kc_lrem x y) :: st)) : kc_Go C V nL z Q σ pc L (.long y :: .long x :: st) := fun ls H locs hl hP hS => lv_lrem h.x h.b d hne (k ls H locs hl hP hS)
theorem kg_ineg (h : kc_F C V cc nL own w0 rm ret) {x : Int32} (d : decode cc pc = .ok (.ineg, 1)) (k : kc_Go C V nL z Q σ (pc + 1) L (.int (-x) :: st)) : kc_Go C V nL z Q σ pc L (.int x :: st) := fun ls H locs hl hP hS => lv_ineg h.x h.b d (k ls H locs hl hP hS)
theorem kg_i2l (h : kc_F C V cc nL own w0 rm ret) {x : Int32} (d : decode cc pc = .ok (.i2l, 1)) (k : kc_Go C V nL z Q σ (pc + 1) L (.long x.toInt64 :: st)) : kc_Go C V nL z Q σ pc L (.int x :: st) := fun ls H locs hl hP hS => lv_i2l h.x h.b d rfl (k ls H locs hl hP hS)
theorem kg_l2i (h : kc_F C V cc nL own w0 rm ret) {x : Int64} (d : decode cc pc = .ok (.l2i, 1)) (k : kc_Go C V nL z Q σ (pc + 1) L (.int x.toInt32 :: st)) : kc_Go C V nL z Q σ pc L (.long x :: st) := fun ls H locs hl hP hS => lv_l2i h.x h.b d rfl (k ls H locs hl hP hS)
theorem kg_dup (h : kc_F C V cc nL own w0 rm ret) {va : Value} (d : decode cc pc = .ok (.dup, 1)) (hva : va.category = 1) (k : kc_Go C V nL z Q σ (pc + 1) L (va :: va :: st)) : kc_Go C V nL z Q σ pc L (va :: st) := fun ls H locs hl hP hS => lv_dup h.x h.b d hva (k ls H locs hl hP hS)
theorem kg_pop (h : kc_F C V cc nL own w0 rm ret) {va : Value} (d : decode cc pc = .ok (.pop, 1)) (hva : va.category = 1) (k : kc_Go C V nL z Q σ (pc + 1) L st) : kc_Go C V nL z Q σ pc L (va :: st) := fun ls H locs hl hP hS => lv_pop h.x h.b d hva (k ls H locs hl hP hS)
theorem kg_dup_x1 (h : kc_F C V cc nL own w0 rm ret) {va vb : Value} (d : decode cc pc = .ok (.dup_x1, 1)) (hva : va.category = 1) (hvb : vb.category = 1) (k : kc_Go C V nL z Q σ (pc + 1) L (va :: vb :: va :: st)) : kc_Go C V nL z Q σ pc L (va :: vb :: st) := fun ls H locs hl hP hS => lv_dup_x1 h.x h.b d hva hvb (k ls H locs hl hP hS)
theorem kg_dup_x2 (h : kc_F C V cc nL own w0 rm ret) {va vb vd : Value} (d : decode cc pc = .ok (.dup_x2, 1)) (hva : va.category = 1) (hvb : vb.category = 1) (hvd : vd.category = 1) (k : kc_Go C V nL z Q σ (pc + 1) L (va :: vb :: vd :: va :: st)) : kc_Go C V nL z Q σ pc L (va :: vb :: vd :: st) := fun ls H locs hl hP hS => lv_dup_x2 h.x h.b d hva hvb hvd (k ls H locs hl hP hS)
theorem kg_dup2 (h : kc_F C V cc nL own w0 rm ret) {va vb : Value} (d : decode cc pc = .ok (.dup2, 1)) (hva : va.category = 1) (hvb : vb.category = 1) (k : kc_Go C V nL z Q σ (pc + 1) L (va :: vb :: va :: vb :: st)) : kc_Go C V nL z Q σ pc L (va :: vb :: st) := fun ls H locs hl hP hS => lv_dup2_11 h.x h.b d hva hvb (k ls H locs hl hP hS)
theorem kg_if_eq (h : kc_F C V cc nL own w0 rm ret) {x : Int32} {off : Int} {tgt : Nat} (d : decode cc pc = .ok (.ifCond .eq off, 3)) (ht : (pc : Int) + off = (tgt : Int)) (kt : x = 0 → kc_Go C V nL z Q σ tgt L st) (kf : ¬ (x = 0) → kc_Go C V nL z Q σ (pc + 3) L st) : kc_Go C V nL z Q σ pc L (.int x :: st) := fun ls H locs hl hP hS => lv_if_eq h.x h.b d ht (fun q => kt q ls H locs hl hP hS) (fun q => kf q ls H locs hl hP hS)
theorem kg_icmp_eq (h : kc_F C V cc nL own w0 rm ret) {x y : Int32} {off : Int} {tgt : Nat} (d : decode cc pc = .ok (.if_icmp .eq off, 3)) (ht : (pc : Int) + off = (tgt : Int)) (kt : x = y → kc_Go C V nL z Q σ tgt L st) (kf : ¬ (x = y) → kc_Go C V nL z Q σ (pc + 3) L st) : kc_Go C V nL z Q σ pc L (.int y :: .int x :: st) := fun ls H locs hl hP hS => lv_icmp_eq h.x h.b d ht (fun q => kt q ls H locs hl hP hS) (fun q => kf q ls H locs hl hP hS)
theorem kg_if_ne (h : kc_F C V cc nL own w0 rm ret) {x : Int32} {off : Int} {tgt : Nat} (d : decode cc pc = .ok (.ifCond .ne off, 3)) (ht : (pc : Int) + off = (tgt : Int)) (kt : ¬ x = 0 → kc_Go C V nL z Q σ tgt L st) (kf : x = 0 → kc_Go C V nL z Q σ (pc + 3) L st) : kc_Go C V nL z Q σ pc L (.int x :: st) := fun ls H locs hl hP hS => lv_if_ne h.x h.b d ht (fun q => kt q ls H locs hl hP hS) (fun q => kf q ls H locs hl hP hS)
theorem kg_icmp_ne (h : kc_F C V cc nL own w0 rm ret) {x y : Int32} {off : Int} {tgt : Nat} (d : decode cc pc = .ok (.if_icmp .ne off, 3)) (ht : (pc : Int) + off = (tgt : Int)) (kt : ¬ x = y → kc_Go C V nL z Q σ tgt L st) (kf : x = y → kc_Go C V nL z Q σ (pc + 3) L st) : kc_Go C V nL z Q σ pc L (.int y :: .int x :: st) := fun ls H locs hl hP hS => lv_icmp_ne h.x h.b d ht (fun q => kt q ls H locs hl hP hS) (fun q => kf q ls H locs hl hP hS)
theorem kg_if_lt (h : kc_F C V cc nL own w0 rm ret) {x : Int32} {off : Int} {tgt : Nat} (d : decode cc pc = .ok (.ifCond .lt off, 3)) (ht : (pc : Int) + off = (tgt : Int)) (kt : x < 0 → kc_Go C V nL z Q σ tgt L st) (kf : ¬ (x < 0) → kc_Go C V nL z Q σ (pc + 3) L st) : kc_Go C V nL z Q σ pc L (.int x :: st) := fun ls H locs hl hP hS => lv_if_lt h.x h.b d ht (fun q => kt q ls H locs hl hP hS) (fun q => kf q ls H locs hl hP hS)
theorem kg_icmp_lt (h : kc_F C V cc nL own w0 rm ret) {x y : Int32} {off : Int} {tgt : Nat} (d : decode cc pc = .ok (.if_icmp .lt off, 3)) (ht : (pc : Int) + off = (tgt : Int)) (kt : x < y → kc_Go C V nL z Q σ tgt L st) (kf : ¬ (x < y) → kc_Go C V nL z Q σ (pc + 3) L st) : kc_Go C V nL z Q σ pc L (.int y :: .int x :: st) := fun ls H locs hl hP hS => lv_icmp_lt h.x h.b d ht (fun q => kt q ls H locs hl hP hS) (fun q => kf q ls H locs hl hP hS)
theorem kg_if_ge (h : kc_F C V cc nL own w0 rm ret) {x : Int32} {off : Int} {tgt : Nat} (d : decode cc pc = .ok (.ifCond .ge off, 3)) (ht : (pc : Int) + off = (tgt : Int)) (kt : 0 ≤ x → kc_Go C V nL z Q σ tgt L st) (kf : ¬ (0 ≤ x) → kc_Go C V nL z Q σ (pc + 3) L st) : kc_Go C V nL z Q σ pc L (.int x :: st) := fun ls H locs hl hP hS => lv_if_ge h.x h.b d ht (fun q => kt q ls H locs hl hP hS) (fun q => kf q ls H locs hl hP hS)
theorem kg_icmp_ge (h : kc_F C V cc nL own w0 rm ret) {x y : Int32} {off : Int} {tgt : Nat} (d : decode cc pc = .ok (.if_icmp .ge off, 3)) (ht : (pc : Int) + off = (tgt : Int)) (kt : y ≤ x → kc_Go C V nL z Q σ tgt L st) (kf : ¬ (y ≤ x) → kc_Go C V nL z Q σ (pc + 3) L st) : kc_Go C V nL z Q σ pc L (.int y :: .int x :: st) := fun ls H locs hl hP hS => lv_icmp_ge h.x h.b d ht (fun q => kt q ls H locs hl hP hS) (fun q => kf q ls H locs hl hP hS)
theorem kg_if_gt (h : kc_F C V cc nL own w0 rm ret) {x : Int32} {off : Int} {tgt : Nat} (d : decode cc pc = .ok (.ifCond .gt off, 3)) (ht : (pc : Int) + off = (tgt : Int)) (kt : 0 < x → kc_Go C V nL z Q σ tgt L st) (kf : ¬ (0 < x) → kc_Go C V nL z Q σ (pc + 3) L st) : kc_Go C V nL z Q σ pc L (.int x :: st) := fun ls H locs hl hP hS => lv_if_gt h.x h.b d ht (fun q => kt q ls H locs hl hP hS) (fun q => kf q ls H locs hl hP hS)
theorem kg_icmp_gt (h : kc_F C V cc nL own w0 rm ret) {x y : Int32} {off : Int} {tgt : Nat} (d : decode cc pc = .ok (.if_icmp .gt off, 3)) (ht : (pc : Int) + off = (tgt : Int)) (kt : y < x → kc_Go C V nL z Q σ tgt L st) (kf : ¬ (y < x) → kc_Go C V nL z Q σ (pc + 3) L st) : kc_Go C V nL z Q σ pc L (.int y :: .int x :: st) := fun ls H locs hl hP hS => lv_icmp_gt h.x h.b d ht (fun q => kt q ls H locs hl hP hS) (fun q => kf q ls H locs hl hP hS)
theorem kg_if_le (h : kc_F C V cc nL own w0 rm ret) {x : Int32} {off : Int} {tgt : Nat} (d : decode cc pc = .ok (.ifCond .le off, 3)) (ht : (pc : Int) + off = (tgt : Int)) (kt : x ≤ 0 → kc_Go C V nL z Q σ tgt L st) (kf : ¬ (x ≤ 0) → kc_Go C V nL z Q σ (pc + 3) L st) : kc_Go C V nL z Q σ pc L (.int x :: st) := fun ls H locs hl hP hS => lv_if_le h.x h.b d ht (fun q => kt q ls H locs hl hP hS) (fun q => kf q ls H locs hl hP hS)
theorem kg_icmp_le (h : kc_F C V cc nL own w0 rm ret) {x y : Int32} {off : Int} {tgt : Nat} (d : decode cc pc = .ok (.if_icmp .le off, 3)) (ht : (pc : Int) + off = (tgt : Int)) (kt : x ≤ y → kc_Go C V nL z Q σ tgt L st) (kf : ¬ (x ≤ y) → kc_Go C V nL z Q σ (pc + 3) L st) : kc_Go C V nL z Q σ pc L (.int y :: .int x :: st) := fun ls H locs hl hP hS => lv_icmp_le h.x h.b d ht (fun q => kt q ls H locs hl hP hS) (fun q => kf q ls H locs hl hP hS)
theorem kg_goto (h : kc_F C V cc nL own w0 rm ret) {off : Int} {tgt : Nat} (d : decode cc pc = .ok (.goto off, 3)) (ht : (pc : Int) + off = (tgt : Int)) (k : kc_Go C V nL z Q σ tgt L st) : kc_Go C V nL z Q σ pc L st := fun ls H locs hl hP hS => lv_goto h.x h.b d ht (k ls H locs hl hP hS)
theorem kg_at {pc' : Nat} (e : pc = pc') (k : kc_Go C V nL z Q σ pc' L st) : kc_Go C V nL z Q σ pc L st := by
  subst e
  exact k
theorem kg_loc (ks : List Nat) {L' : List (Nat × Value)} (hL : lv_pick L ks = L') (k : kc_Go C V nL z Q σ pc L' st) : kc_Go C V nL z Q σ pc L st := fun ls H locs hl hP hS => k ls H locs (lv_sub hl ks hL) hP hS
theorem kg_to {α : Sort _} {P : α → Prop} {a b : α} (e : a = b) (h : P a) : P b := e ▸ h
theorem kg_top {x x' : Int32} (e : x = x') (k : kc_Go C V nL z Q σ pc L (.int x' :: st)) : kc_Go C V nL z Q σ pc L (.int x :: st) := by
  subst e
  exact k
theorem kg_topl {x x' : Int64} (e : x = x') (k : kc_Go C V nL z Q σ pc L (.long x' :: st)) : kc_Go C V nL z Q σ pc L (.long x :: st) := by
  subst e
  exact k
theorem kg_sig (e : σ = σ') (k : kc_Go C V nL z Q σ' pc L st) : kc_Go C V nL z Q σ pc L st := by
  subst e
  exact k
def kc_ai (V : kc_V) (k n : Nat) : Prop := ∃ (cA : ClassId) (t : Nat), k < kc_N V ∧ kc_sh V k = .inl (cA, n) ∧ (kc_ty V)[t]? = some (cA, .int) ∧ n < 2 ^ 31
def kc_az (V : kc_V) (k n : Nat) : Prop := ∃ (cA : ClassId) (t : Nat), k < kc_N V ∧ kc_sh V k = .inl (cA, n) ∧ (kc_ty V)[t]? = some (cA, .boolean) ∧ n < 2 ^ 31
def kc_al (V : kc_V) (k n : Nat) : Prop := ∃ (cA : ClassId) (t : Nat), k < kc_N V ∧ kc_sh V k = .inr (.inr (.inr (cA, n))) ∧ (kc_ty V)[t]? = some (cA, .long) ∧ n < 2 ^ 31
def kc_ar (V : kc_V) (k n r : Nat) : Prop := ∃ (cA : ClassId) (t : Nat), k < kc_N V ∧ kc_sh V k = .inr (.inl (cA, n, r)) ∧ (kc_ty V)[t]? = some (cA, .array .int) ∧ n < 2 ^ 31
def kc_ob (V : kc_V) (k ci : Nat) (fds : List (Option Nat)) : Prop := k < kc_N V ∧ kc_sh V k = .inr (.inr (.inl (ci, fds)))
theorem kc_at_a {k n : Nat} {cA : ClassId} (hk : k < kc_N V) (hs : kc_sh V k = .inl (cA, n)) : (kc_w V σ)[k]? = some (kc_ad V k, .inl (cA, n, .inl (σ k))) := by rw [kc_wo_at hk, kc_ce_a hs]
theorem kc_at_o {k ci : Nat} {fds : List (Option Nat)} (ho : kc_ob V k ci fds) : (kc_w V σ)[k]? = some (kc_ad V k, .inr (ci, kc_fv (kc_ad V) (σ k) 0 fds)) := by rw [kc_wo_at ho.1, kc_ce_o ho.2]
theorem kc_set_a {k n : Nat} {cA : ClassId} {f : Nat → Int32} (hk : k < kc_N V) (hs : kc_sh V k = .inl (cA, n)) : (kc_w V σ).set k (kc_ad V k, .inl (cA, n, .inl f)) = kc_w V (kc_pu σ k f) :=
  kc_wo_set hk (by rw [kc_ce_a hs, kc_pu_eq]) (fun j hj => kc_ce_eq (kc_pu_ne hj))
theorem kc_set_o {k ci j : Nat} {fds : List (Option Nat)} {x : Int32} (ho : kc_ob V k ci fds) (hj : fds[j]? = some none) : (kc_w V σ).set k (kc_ad V k, .inr (ci, (kc_fv (kc_ad V) (σ k) 0 fds).set j (.int x))) = kc_w V (kc_up σ k j x) :=
  kc_wo_set ho.1 (by rw [kc_ce_o ho.2, kc_up_eq, kc_fv_set fds 0 j hj, Nat.zero_add]) (fun i hi => kc_ce_eq (kc_up_ne hi))
theorem kg_geti (h : kc_F C V cc nL own w0 rm ret) {k ci j M index : Nat} {fds : List (Option Nat)} {Cn : String} {Tb : u_T} (ho : kc_ob V k ci fds) (hc : cls_all[ci]? = some (Cn, Tb, M)) (hui : ∀ w ∈ u_ws Cn Tb M, w ∈ lw_good) (hj : j < M) (hlk : Cond.fieldLink own index Cn (Tb j).2.1 (Tb j).2.2.1 ∈ lw_good) (hcl : (Tb j).1 = Cn) (d : decode cc pc = .ok (.getfield index, 3)) (hf : fds[j]? = some none) (kk : kc_Go C V nL z Q σ (pc + 3) L (.int (σ k j) :: st)) : kc_Go C V nL z Q σ pc L (.ref (kc_ad V k) :: st) := fun ls H locs hl hP hS => va_get h.x h.b h.ts (fun w hw => List.mem_cons_of_mem _ (hui w hw)) h.ow h.K hP k (kc_at_o ho) hc j hj (h.wd hlk) (fun x hx => by rw [← hcl]; exact hcl ▸ hx) (by rw [kc_fv_int fds 0 j hf, Nat.zero_add]) d (kk ls H locs hl hP hS)
theorem kg_getr (h : kc_F C V cc nL own w0 rm ret) {k ci j r M index : Nat} {fds : List (Option Nat)} {Cn : String} {Tb : u_T} (ho : kc_ob V k ci fds) (hc : cls_all[ci]? = some (Cn, Tb, M)) (hui : ∀ w ∈ u_ws Cn Tb M, w ∈ lw_good) (hj : j < M) (hlk : Cond.fieldLink own index Cn (Tb j).2.1 (Tb j).2.2.1 ∈ lw_good) (hcl : (Tb j).1 = Cn) (d : decode cc pc = .ok (.getfield index, 3)) (hf : fds[j]? = some (some r)) (kk : kc_Go C V nL z Q σ (pc + 3) L (.ref (kc_ad V r) :: st)) : kc_Go C V nL z Q σ pc L (.ref (kc_ad V k) :: st) := fun ls H locs hl hP hS => va_get h.x h.b h.ts (fun w hw => List.mem_cons_of_mem _ (hui w hw)) h.ow h.K hP k (kc_at_o ho) hc j hj (h.wd hlk) (fun x hx => by rw [← hcl]; exact hcl ▸ hx) (kc_fv_ref fds 0 j hf) d (kk ls H locs hl hP hS)
theorem kg_puti (h : kc_F C V cc nL own w0 rm ret) {k ci j M index : Nat} {fds : List (Option Nat)} {Cn : String} {Tb : u_T} {x : Int32} (ho : kc_ob V k ci fds) (hc : cls_all[ci]? = some (Cn, Tb, M)) (hui : ∀ w ∈ u_ws Cn Tb M, w ∈ lw_good) {ty0 : Nat → FieldType} (hty : ∀ k, k < M → parseFieldDescriptor (Tb k).2.2.1 = some (ty0 k)) (hnm : ∀ a, a < M → ∀ b, b < M → a ≠ b → (Tb a).2.1 ≠ (Tb b).2.1) (hj : j < M) (hlk : Cond.fieldLink own index Cn (Tb j).2.1 (Tb j).2.2.1 ∈ lw_good) (hcl : (Tb j).1 = Cn) (hfin : (Tb j).2.2.2 = false) (hn : narrow (ty0 j) (.int x) = .int x) (hfit : fits (ty0 j) (.int x) = true) (d : decode cc pc = .ok (.putfield index, 3)) (hf : fds[j]? = some none) (kk : kc_Go C V nL z Q (kc_up σ k j x) (pc + 3) L st) : kc_Go C V nL z Q σ pc L (.int x :: .ref (kc_ad V k) :: st) := by
  intro ls H locs hl hP hS
  refine va_put h.x h.b h.ts (fun w hw => List.mem_cons_of_mem _ (hui w hw)) ty0 hty hnm h.ow h.K hP (kc_dis h.ok σ) hS k (kc_at_o ho) hc j hj (h.wd hlk) (fun x hx => by rw [← hcl]; exact hcl ▸ hx) hfin (hty j hj) hn hfit (by rw [kc_fv_len]; exact (List.getElem?_eq_some_iff.mp hf).1) d (fun H1 locs1 hP1 _ hS1 => ?_)
  rw [kc_set_o ho hf] at hP1
  exact kk ls H1 locs1 hl hP1 hS1
theorem kg_iald (h : kc_F C V cc nL own w0 rm ret) {k n i : Nat} {x : Int32} (ha : kc_ai V k n) (hx : x = nI i) (hi : i < n) (d : decode cc pc = .ok (.iaload, 1)) (kk : kc_Go C V nL z Q σ (pc + 1) L (.int (σ k i) :: st)) : kc_Go C V nL z Q σ pc L (.int x :: .ref (kc_ad V k) :: st) := by
  obtain ⟨cA, t, h1, h2, h3, h4⟩ := ha
  subst hx
  intro ls H locs hl hP hS
  refine va_iald h.x h.b h.K hP k t (kc_at_a h1 h2) h3 (vp_in_nI hi h4) d ?_
  rw [nI_clamp (Nat.lt_trans hi h4)]
  exact kk ls H locs hl hP hS
theorem kg_zald (h : kc_F C V cc nL own w0 rm ret) {k n i : Nat} {x : Int32} (ha : kc_az V k n) (hx : x = nI i) (hi : i < n) (d : decode cc pc = .ok (.baload, 1)) (kk : kc_Go C V nL z Q σ (pc + 1) L (.int (σ k i) :: st)) : kc_Go C V nL z Q σ pc L (.int x :: .ref (kc_ad V k) :: st) := by
  obtain ⟨cA, t, h1, h2, h3, h4⟩ := ha
  subst hx
  intro ls H locs hl hP hS
  refine va_zald h.x h.b h.K hP k t (kc_at_a h1 h2) h3 (vp_in_nI hi h4) d ?_
  rw [nI_clamp (Nat.lt_trans hi h4)]
  exact kk ls H locs hl hP hS
theorem kg_iast (h : kc_F C V cc nL own w0 rm ret) {k n i : Nat} {x y : Int32} (ha : kc_ai V k n) (hx : x = nI i) (hi : i < n) (d : decode cc pc = .ok (.iastore, 1)) (kk : kc_Go C V nL z Q (kc_up σ k i y) (pc + 1) L st) : kc_Go C V nL z Q σ pc L (.int y :: .int x :: .ref (kc_ad V k) :: st) := by
  obtain ⟨cA, t, h1, h2, h3, h4⟩ := ha
  subst hx
  intro ls H locs hl hP hS
  refine va_iast h.x h.b h.K hP (kc_dis h.ok σ) hS k t (kc_at_a h1 h2) h3 (vp_in_nI hi h4) d (fun H1 locs1 hP1 _ hS1 => ?_)
  rw [nI_clamp (Nat.lt_trans hi h4), kc_set_a h1 h2] at hP1
  exact kk ls H1 locs1 hl hP1 hS1
theorem kg_zast (h : kc_F C V cc nL own w0 rm ret) {k n i : Nat} {x y : Int32} (ha : kc_az V k n) (hx : x = nI i) (hi : i < n) (hy : vp_nar .boolean y = y) (d : decode cc pc = .ok (.bastore, 1)) (kk : kc_Go C V nL z Q (kc_up σ k i y) (pc + 1) L st) : kc_Go C V nL z Q σ pc L (.int y :: .int x :: .ref (kc_ad V k) :: st) := by
  obtain ⟨cA, t, h1, h2, h3, h4⟩ := ha
  subst hx
  intro ls H locs hl hP hS
  refine va_zast h.x h.b h.K hP (kc_dis h.ok σ) hS k t (kc_at_a h1 h2) h3 (vp_in_nI hi h4) d (fun H1 locs1 hP1 _ hS1 => ?_)
  rw [nI_clamp (Nat.lt_trans hi h4), hy, kc_set_a h1 h2] at hP1
  exact kk ls H1 locs1 hl hP1 hS1
theorem kg_aald (h : kc_F C V cc nL own w0 rm ret) {k n r i : Nat} {x : Int32} (ha : kc_ar V k n r) (hx : x = nI i) (hi : i < n) (d : decode cc pc = .ok (.aaload, 1)) (kk : kc_Go C V nL z Q σ (pc + 1) L (.ref (kc_ad V (r + i)) :: st)) : kc_Go C V nL z Q σ pc L (.int x :: .ref (kc_ad V k) :: st) := by
  obtain ⟨cA, t, h1, h2, h3, h4⟩ := ha
  subst hx
  intro ls H locs hl hP hS
  have hc : (kc_w V σ)[k]? = some (kc_ad V k, .inl (cA, n, .inr (.inr (.inr (.inr (fun i => some (kc_ad V (r + i)))))))) := by rw [kc_wo_at h1, kc_ce_r h2]
  have hcl : (nI i).toNatClampNeg = i := nI_clamp (Nat.lt_trans hi h4)
  refine W.aald (v := .ref (kc_ad V (r + i))) h.x h.b (hP k _ hc) ((h.K.2 t _ h3).1 n (fun j => va_rf (some (kc_ad V (r + j))))) rfl (fun q => by cases q) ?_ ?_ rfl rfl d (kk ls H locs hl hP hS)
  · show ¬ (nI i < 0 ∨ (arrV _ _ _).slots.size ≤ _)
    rw [arrV_size]
    exact vp_in_nI hi h4
  · show (arrV _ _ _).slots[_]? = _
    rw [hcl, arrV_read _ _ hi]
    rfl
theorem kg_alen (h : kc_F C V cc nL own w0 rm ret) {k n : Nat} (ha : kc_ai V k n) (d : decode cc pc = .ok (.arraylength, 1)) (kk : kc_Go C V nL z Q σ (pc + 1) L (.int (nI n) :: st)) : kc_Go C V nL z Q σ pc L (.ref (kc_ad V k) :: st) := by
  obtain ⟨cA, t, h1, h2, h3, h4⟩ := ha
  intro ls H locs hl hP hS
  exact va_alen h.x h.b h.K hP k t (kc_at_a h1 h2) h3 rfl d (kk ls H locs hl hP hS)
theorem kg_copy (h : kc_F C V cc nL own w0 rm ret) {k0 k1 n0 n1 a b n index : Nat} (h0 : kc_ai V k0 n0) (h1 : kc_ai V k1 n1) (ha : a + n ≤ n0) (hb : b + n ≤ n1) (hlk : Cond.methodLink own index arraycopyName ∈ lw_good) (hnat : Cond.native arraycopyName ∈ lw_good) (hst : Cond.static arraycopyName ∈ lw_good) (hini : Cond.initialized "java/lang/System" ∈ lw_good) (hR : 1 ≤ rm.frames ∧ 8 + (nativeFrameWords "java/lang/System" "arraycopy" 5 + 11) ≤ rm.locals) (hW : (st.map fun v => v.category).sum ≤ 8) (d : decode cc pc = .ok (.invokestatic index, 3)) (kk : kc_Go C V nL z Q (kc_pu σ k1 (va_cpy (σ k0) (σ k1) a b n)) (pc + 3) L st) : kc_Go C V nL z Q σ pc L (.int (nI n) :: .int (nI b) :: .ref (kc_ad V k1) :: .int (nI a) :: .ref (kc_ad V k0) :: st) := by
  obtain ⟨cA, t, p1, p2, p3, p4⟩ := h0
  obtain ⟨cB, u, q1, q2, q3, q4⟩ := h1
  intro ls H locs hl hP hS
  have hRR := h.R
  have e1 : (nI a).toNatClampNeg = a := nI_clamp (by omega)
  have e2 : (nI b).toNatClampNeg = b := nI_clamp (by omega)
  have e3 : (nI n).toNatClampNeg = n := nI_clamp (by omega)
  refine va_copyi h.x h.b (h.ml.trans hl.1.symm) h.ow (h.wd hlk) (h.wd hnat) (h.wd hst) (h.wd hini) h.K hP (kc_dis h.ok σ) hS k0 k1 t u (kc_at_a p1 p2) (kc_at_a q1 q2) p3 q3 rfl (nI_pos (by omega)) (nI_pos (by omega)) (nI_pos (by omega)) (by rw [e1, e3]; exact ha) (by rw [e2, e3]; exact hb) (fun _ _ => rfl) (by rw [hRR]; exact hR.1) (by rw [hRR]; omega) d (fun H1 locs1 hP1 _ hS1 => ?_)
  rw [e1, e2, e3, kc_set_a q1 q2] at hP1
  exact kk ls H1 locs1 hl hP1 hS1
theorem kc_end (h : kc_F C V cc nL own w0 rm ret) {rv : Option Value} {H : Heap} {locs : List Loc} (hP : va_P (kc_D V) cls_all (kc_w V σ) H) (hS : va_S (kc_A V) (kc_s C).heap H locs) : ∀ t : State, t.heap = H → (kc_s C).WarmedH t.vm → kc_Qz V rv σ (kc_args C) (kc_s C) (.returned rv) t :=
  fun t ht _ => ⟨rfl, by rw [ht]; exact hP, hS.F ht⟩
theorem kg_iret (h : kc_F C V cc nL own w0 rm (some .int)) {v v' : Int32} (d : decode cc pc = .ok (.ireturn, 1)) (e : v = v') (es : σ = σ') : kc_Go C V nL (0, 0) (kc_E C V (some (.int v')) σ') σ pc L [.int v] := by
  subst e
  subst es
  intro ls H locs hl hP hS
  exact W.iret h.x h.b h.rt (kc_end h hP hS) hS.2.2 d h.lk
theorem kg_zret (h : kc_F C V cc nL own w0 rm (some .boolean)) {v v' : Int32} (d : decode cc pc = .ok (.ireturn, 1)) (hn : narrow .boolean (.int v) = .int v) (e : v = v') (es : σ = σ') : kc_Go C V nL (0, 0) (kc_E C V (some (.int v')) σ') σ pc L [.int v] := by
  subst e
  subst es
  intro ls H locs hl hP hS
  exact W.zret h.x h.b h.rt hn (kc_end h hP hS) hS.2.2 d h.lk
theorem kg_vret (h : kc_F C V cc nL own w0 rm none) (d : decode cc pc = .ok (.return_, 1)) (es : σ = σ') : kc_Go C V nL (0, 0) (kc_E C V none σ') σ pc L [] := by
  subst es
  intro ls H locs hl hP hS
  exact W.vret h.x h.b h.rt (kc_end h hP hS) hS.2.2 d h.lk
theorem kg_aret {rt : FieldType} (h : kc_F C V cc nL own w0 rm (some rt)) (hrt : (∃ n, rt = .object n) ∨ ∃ t, rt = .array t) {a a' : Nat} (d : decode cc pc = .ok (.areturn, 1)) (e : a = a') (es : σ = σ') : kc_Go C V nL (0, 0) (kc_E C V (some (.ref a')) σ') σ pc L [.ref a] := by
  subst e
  subst es
  intro ls H locs hl hP hS
  exact W.aret h.x h.b h.rt hrt (Or.inr ⟨a, rfl⟩) (kc_end h hP hS) hS.2.2 d h.lk
theorem kc_good {w : Cond} (h : w ∈ lw_good) : (w.onTables && w.keeps) = true ∨ ∃ ty, w = .arrayClass ty := good_of_word (List.mem_filter.mp h).2
theorem kc_goodIn {w0 w1 : Cond} (h : w1 ∈ lw_good) : GoodIn (w0 :: lw_good) (w1 :: lw_good) := by
  intro w hw
  rcases List.mem_cons.mp hw with rfl | hw
  · exact ⟨List.mem_cons_of_mem _ h, kc_good h⟩
  · exact ⟨List.mem_cons_of_mem _ hw, kc_good hw⟩
theorem kc_blind {V : kc_V} {av : List Value} {σ : kc_Sg} : FrameBlind (kc_Pz V av σ) := fun a U g mk q => ⟨q.1, q.2.1, va_K.moved (u := U) (U := U.calling g mk a) (Vm.Alike.refl U.vm) q.2.2.1, q.2.2.2.same rfl⟩
/-- what a caller must know of a callee: its code, that its class is ready, its name and how many arguments -/
def kc_cal (y : MethodName) (cz : ByteArray) (nz : Nat) (rz : Option FieldType) (n : Nat) : Prop := Cond.code y cz nz rz ∈ lw_good ∧ Cond.initialized y.cls ∈ lw_good ∧ (y.cls ≠ "java/lang/invoke/MethodHandle" ∧ y.cls ≠ "java/lang/invoke/VarHandle" ∧ (parseMethodDescriptor y.desc).map (fun d => d.parameters.length) = some n)
abbrev kc_room (rmz rm : Room) (nz : Nat) : Prop := (rmz.cells = 0 ∧ rmz.slots = 0) ∧ rmz.frames + 1 ≤ rm.frames ∧ 8 + (nz + 11) + rmz.locals ≤ rm.locals
theorem kc_back {H H1 : Heap} {locs locs1 : List Loc} {A : Nat → Prop} {s t T : State} (hS : va_S A s.heap H locs) (h0 : T.heap = H) (hF : va_F A T t) (e : H1 = t.heap) (hl : ∀ q ∈ locs1, A q.base) : va_S A s.heap H1 (locs ++ locs1) := by
  subst h0
  subst e
  refine ⟨Nat.le_trans hS.1 hF.1, fun q h1 h2 => ?_, fun q hq => ?_⟩
  · rw [hF.2 q (Nat.lt_of_lt_of_le h1 hS.1) h2]
    exact hS.2.1 q h1 h2
  · rcases List.mem_append.mp hq with h | h
    · exact hS.2.2 q h
    · exact hl q h
theorem kc_ran {rest : List Value} {rv : Option Value} {a : Array Value} {st0 : List Value} {ls : Array Slot} {H : Heap} {locs : List Loc}
    (hr : va_Run (kc_p C) (kc_l C) (kc_e C) (kc_R C) (kc_s C) (kc_m C) (kc_args C) (kc_below C) (kc_meth C) (kc_c C) H locs z.1 z.2 0 0 (F0 (kc_m C) pc ls st0) rest (kc_Qz V rv σ' a) (kc_A V)) (hl : lv_has ls nL L) (hS : va_S (kc_A V) (kc_s C).heap H locs)
    (k : kc_Go C V nL z Q σ' (pc + 3) L (rv.toList ++ rest)) : W (kc_p C) (kc_l C) (kc_e C) (kc_R C) (kc_s C) (kc_m C) (kc_args C) (kc_below C) (kc_meth C) (kc_c C) H locs z.1 z.2 Q (F0 (kc_m C) pc ls st0) := by
  intro T hT X
  obtain ⟨v, st₀, t, T', Lc, h0, X', hL, e1, e2, ⟨hv, hp, hF⟩, go⟩ := hr T hT X
  cases hv
  obtain ⟨t2, a1, b1⟩ := k ls T'.heap (locs ++ Lc) hl (by rw [e1]; exact hp) (kc_back hS h0 hF e1 hL) T' rfl X'
  exact ⟨t2, go t2 a1, b1⟩
theorem kg_static (h : kc_F C V cc nL own w0 rm ret) {y : MethodName} {cz : ByteArray} {nz n index : Nat} {rz : Option FieldType} {rmz : Room} {As rest : List Value} {rv : Option Value}
    (hM : kc_Met (kc_l C) y cz nz rz rmz V As σ rv σ') (hc : kc_cal y cz nz rz n) (hst : Cond.static y ∈ lw_good) (hlk : Cond.methodLink own index y ∈ lw_good) (hn : As.length = n) (hR : kc_room rmz rm nz) (hs : st = As.reverse ++ rest) (hW : (rest.map fun v => v.category).sum ≤ 8) (d : decode cc pc = .ok (.invokestatic index, 3))
    (k : kc_Go C V nL z Q σ' (pc + 3) L (rv.toList ++ rest)) (hz : z.1 + 0 ≤ rm.cells ∧ z.2 + 0 ≤ rm.slots) : kc_Go C V nL z Q σ pc L st := by
  subst hs
  intro ls H locs hl hP hS
  have hRR := h.R
  exact kc_ran (va_runS h.1 hM ⟨callB_of n h.ts (kc_goodIn hc.1) rfl hR.1.1 hR.1.2 (h.wd hc.2.1) (h.wd hlk) hc.2.2 (by rw [hRR]; exact hR.2), h.wd hst⟩ ⟨kc_blind, fun U hU hWm => ⟨rfl, by rw [hU]; exact hP, va_K.moved hWm.alike h.K, h.nx.warm hWm⟩⟩ rfl hn hl.1 rfl (by show 2 * 0 + _ ≤ 8; omega) d (by rw [hRR]; exact hz)) hl hS k
theorem kg_virtual (h : kc_F C V cc nL own w0 rm ret) {y : MethodName} {cz : ByteArray} {nz n index k0 ci : Nat} {fds : List (Option Nat)} {Tb : u_T} {M : Nat} {rz : Option FieldType} {rmz : Room} {As rest : List Value} {rv : Option Value}
    (hM : kc_Met (kc_l C) y cz nz rz rmz V (.ref (kc_ad V k0) :: As) σ rv σ') (hc : kc_cal y cz nz rz n) (hst : Cond.instanceMethod y ∈ lw_good) (hse : Cond.selects y.cls y y ∈ lw_good) (hlk : Cond.methodLink own index y ∈ lw_good) (ho : kc_ob V k0 ci fds) (hcl : cls_all[ci]? = some (y.cls, Tb, M)) (hn : As.length = n) (hR : kc_room rmz rm nz) (hs : st = As.reverse ++ .ref (kc_ad V k0) :: rest) (hW : (rest.map fun v => v.category).sum ≤ 8) (d : decode cc pc = .ok (.invokevirtual index, 3))
    (k : kc_Go C V nL z Q σ' (pc + 3) L (rv.toList ++ rest)) (hz : z.1 + 0 ≤ rm.cells ∧ z.2 + 0 ≤ rm.slots) : kc_Go C V nL z Q σ pc L st := by
  subst hs
  intro ls H locs hl hP hS
  have hRR := h.R
  exact kc_ran (va_runV (C := y.cls) h.1 hM ⟨callB_of n h.ts (kc_goodIn hc.1) rfl hR.1.1 hR.1.2 (h.wd hc.2.1) (h.wd hlk) hc.2.2 (by rw [hRR]; exact hR.2), h.wd hst, h.wd hse⟩ ⟨kc_blind, va_recv (q := (y.cls, Tb, M)) h.K hP hcl (kc_at_o ho), fun U hU hWm => ⟨rfl, by rw [hU]; exact hP, va_K.moved hWm.alike h.K, h.nx.warm hWm⟩⟩ rfl hn hl.1 rfl (by show 2 * 0 + _ ≤ 8; omega) d (by rw [hRR]; exact hz)) hl hS k
theorem kg_staticN (h : kc_F C V cc nL own w0 rm ret) {y : MethodName} {cz : ByteArray} {nz n index : Nat} {host : String} {rz : Option FieldType} {rmz : Room} {As rest : List Value} {rv : Option Value}
    (hM : kc_Met (kc_l C) y cz nz rz rmz V As σ rv σ') (hc : kc_cal y cz nz rz n) (hst : Cond.static y ∈ lw_good) (hlk : (own, index, y, host) ∈ kc_nest) (hn : As.length = n) (hR : kc_room rmz rm nz) (hs : st = As.reverse ++ rest) (hW : (rest.map fun v => v.category).sum ≤ 8) (d : decode cc pc = .ok (.invokestatic index, 3))
    (k : kc_Go C V nL z Q σ' (pc + 3) L (rv.toList ++ rest)) (hz : z.1 + 0 ≤ rm.cells ∧ z.2 + 0 ≤ rm.slots) : kc_Go C V nL z Q σ pc L st := by
  subst hs
  intro ls H locs hl hP hS
  have hRR := h.R
  exact kc_ran (va_runSN h.1 hM ⟨va_cnB n h.ts (kc_goodIn hc.1) rfl hR.1.1 hR.1.2 (h.nx _ hlk) (h.wd hc.2.1) hc.2.2 (by rw [hRR]; exact hR.2), h.wd hst, trivial⟩ ⟨kc_blind, fun U hU hWm => ⟨rfl, by rw [hU]; exact hP, va_K.moved hWm.alike h.K, h.nx.warm hWm⟩⟩ rfl hn hl.1 rfl (by show 2 * 0 + _ ≤ 8; omega) d (by rw [hRR]; exact hz)) hl hS k
theorem kg_staticI (h : kc_F C V cc nL own w0 rm ret) {y : MethodName} {cz : ByteArray} {nz n index : Nat} {rz : Option FieldType} {rmz : Room} {As rest : List Value} {v : Value}
    (hM : kc_Met (kc_l C) y cz nz rz rmz V As σ (some v) σ') (hc : kc_cal y cz nz rz n) (hst : Cond.static y ∈ lw_good) (hlk : Cond.methodLink own index y ∈ lw_good) (hn : As.length = n) (hR : kc_room rmz rm nz) (hs : st = As.reverse ++ rest) (hW : (rest.map fun v => v.category).sum ≤ 8) (d : decode cc pc = .ok (.invokestatic index, 3))
    (k : kc_Go C V nL z Q σ' (pc + 3) L (v :: rest)) (hz : z.1 + 0 ≤ rm.cells ∧ z.2 + 0 ≤ rm.slots) : kc_Go C V nL z Q σ pc L st := kg_static h hM hc hst hlk hn hR hs hW d k hz
theorem kg_staticV (h : kc_F C V cc nL own w0 rm ret) {y : MethodName} {cz : ByteArray} {nz n index : Nat} {rz : Option FieldType} {rmz : Room} {As rest : List Value} 
    (hM : kc_Met (kc_l C) y cz nz rz rmz V As σ none σ') (hc : kc_cal y cz nz rz n) (hst : Cond.static y ∈ lw_good) (hlk : Cond.methodLink own index y ∈ lw_good) (hn : As.length = n) (hR : kc_room rmz rm nz) (hs : st = As.reverse ++ rest) (hW : (rest.map fun v => v.category).sum ≤ 8) (d : decode cc pc = .ok (.invokestatic index, 3))
    (k : kc_Go C V nL z Q σ' (pc + 3) L rest) (hz : z.1 + 0 ≤ rm.cells ∧ z.2 + 0 ≤ rm.slots) : kc_Go C V nL z Q σ pc L st := kg_static h hM hc hst hlk hn hR hs hW d k hz
theorem kg_virtualI (h : kc_F C V cc nL own w0 rm ret) {y : MethodName} {cz : ByteArray} {nz n index k0 ci : Nat} {fds : List (Option Nat)} {Tb : u_T} {M : Nat} {rz : Option FieldType} {rmz : Room} {As rest : List Value} {v : Value}
    (hM : kc_Met (kc_l C) y cz nz rz rmz V (.ref (kc_ad V k0) :: As) σ (some v) σ') (hc : kc_cal y cz nz rz n) (hst : Cond.instanceMethod y ∈ lw_good) (hse : Cond.selects y.cls y y ∈ lw_good) (hlk : Cond.methodLink own index y ∈ lw_good) (ho : kc_ob V k0 ci fds) (hcl : cls_all[ci]? = some (y.cls, Tb, M)) (hn : As.length = n) (hR : kc_room rmz rm nz) (hs : st = As.reverse ++ .ref (kc_ad V k0) :: rest) (hW : (rest.map fun v => v.category).sum ≤ 8) (d : decode cc pc = .ok (.invokevirtual index, 3))
    (k : kc_Go C V nL z Q σ' (pc + 3) L (v :: rest)) (hz : z.1 + 0 ≤ rm.cells ∧ z.2 + 0 ≤ rm.slots) : kc_Go C V nL z Q σ pc L st := kg_virtual h hM hc hst hse hlk ho hcl hn hR hs hW d k hz
theorem kg_virtualV (h : kc_F C V cc nL own w0 rm ret) {y : MethodName} {cz : ByteArray} {nz n index k0 ci : Nat} {fds : List (Option Nat)} {Tb : u_T} {M : Nat} {rz : Option FieldType} {rmz : Room} {As rest : List Value} 
    (hM : kc_Met (kc_l C) y cz nz rz rmz V (.ref (kc_ad V k0) :: As) σ none σ') (hc : kc_cal y cz nz rz n) (hst : Cond.instanceMethod y ∈ lw_good) (hse : Cond.selects y.cls y y ∈ lw_good) (hlk : Cond.methodLink own index y ∈ lw_good) (ho : kc_ob V k0 ci fds) (hcl : cls_all[ci]? = some (y.cls, Tb, M)) (hn : As.length = n) (hR : kc_room rmz rm nz) (hs : st = As.reverse ++ .ref (kc_ad V k0) :: rest) (hW : (rest.map fun v => v.category).sum ≤ 8) (d : decode cc pc = .ok (.invokevirtual index, 3))
    (k : kc_Go C V nL z Q σ' (pc + 3) L rest) (hz : z.1 + 0 ≤ rm.cells ∧ z.2 + 0 ≤ rm.slots) : kc_Go C V nL z Q σ pc L st := kg_virtual h hM hc hst hse hlk ho hcl hn hR hs hW d k hz
theorem kg_staticNI (h : kc_F C V cc nL own w0 rm ret) {y : MethodName} {cz : ByteArray} {nz n index : Nat} {host : String} {rz : Option FieldType} {rmz : Room} {As rest : List Value} {v : Value}
    (hM : kc_Met (kc_l C) y cz nz rz rmz V As σ (some v) σ') (hc : kc_cal y cz nz rz n) (hst : Cond.static y ∈ lw_good) (hlk : (own, index, y, host) ∈ kc_nest) (hn : As.length = n) (hR : kc_room rmz rm nz) (hs : st = As.reverse ++ rest) (hW : (rest.map fun v => v.category).sum ≤ 8) (d : decode cc pc = .ok (.invokestatic index, 3))
    (k : kc_Go C V nL z Q σ' (pc + 3) L (v :: rest)) (hz : z.1 + 0 ≤ rm.cells ∧ z.2 + 0 ≤ rm.slots) : kc_Go C V nL z Q σ pc L st := kg_staticN h hM hc hst hlk hn hR hs hW d k hz
theorem kg_staticNV (h : kc_F C V cc nL own w0 rm ret) {y : MethodName} {cz : ByteArray} {nz n index : Nat} {host : String} {rz : Option FieldType} {rmz : Room} {As rest : List Value} 
    (hM : kc_Met (kc_l C) y cz nz rz rmz V As σ none σ') (hc : kc_cal y cz nz rz n) (hst : Cond.static y ∈ lw_good) (hlk : (own, index, y, host) ∈ kc_nest) (hn : As.length = n) (hR : kc_room rmz rm nz) (hs : st = As.reverse ++ rest) (hW : (rest.map fun v => v.category).sum ≤ 8) (d : decode cc pc = .ok (.invokestatic index, 3))
    (k : kc_Go C V nL z Q σ' (pc + 3) L rest) (hz : z.1 + 0 ≤ rm.cells ∧ z.2 + 0 ≤ rm.slots) : kc_Go C V nL z Q σ pc L st := kg_staticN h hM hc hst hlk hn hR hs hW d k hz
end KG
/-- for i from i0, n times -/
def kc_it {α : Type} (f : Nat → α → α) : Nat → Nat → α → α
  | 0, _, a => a
  | n + 1, i, a => kc_it f n (i + 1) (f i a)
theorem kc_loop {α : Type} (P : Nat → α → Prop) (f : Nat → α → α) (i0 e : Nat) (hs : ∀ i a, i0 ≤ i → i < e → P (i + 1) (f i a) → P i a) : ∀ n i a, i0 ≤ i → i + n = e → P e (kc_it f n i a) → P i a
  | 0, i, a, _, h, hp => by
    have : i = e := h
    subst this
    exact hp
  | n + 1, i, a, h0, h, hp => hs i a h0 (by omega) (kc_loop P f i0 e hs n (i + 1) (f i a) (by omega) (by omega) hp)
