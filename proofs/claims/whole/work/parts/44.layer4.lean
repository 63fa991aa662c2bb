/-! constructors: the world is a list that grows -/
theorem arrV_congr {cA : ClassId} {n : Nat} {f g : Nat → Value} (h : ∀ j, j < n → f j = g j) : arrV cA n f = arrV cA n g := by
  unfold arrV
  rw [show (fun j : Fin n => f j.val) = (fun j : Fin n => g j.val) from funext fun j => h j.val j.isLt]
def kn_Go (C : kc_C) (V : kc_V) (nL : Nat) (z : Nat × Nat) (Q : State → Prop) (ws : va_W) (pc : Nat) (L : List (Nat × Value)) (st : List Value) : Prop :=
  ∀ (ls : Array Slot) (H : Heap) (locs : List Loc), lv_has ls nL L → va_P (kc_D V) cls_all ws H → va_D (kc_A V) ws → va_S (kc_A V) (kc_s C).heap H locs →
    W (kc_p C) (kc_l C) (kc_e C) (kc_R C) (kc_s C) (kc_m C) (kc_args C) (kc_below C) (kc_meth C) (kc_c C) H locs z.1 z.2 Q (F0 (kc_m C) pc ls st)
def kn_F (C : kc_C) (V : kc_V) : Prop := (∀ q, (kc_s C).heap.size ≤ q → kc_A V q) ∧ va_AOA .int (kc_s C)
/-- the world of a constructor: tables, kinds, which cells may change; shape and places are not used -/
abbrev kn_V (D : va_G) (ty : List (ClassId × FieldType)) (A : Nat → Prop) : kc_V := (D, ty, A, fun _ => .inl (0, 0), 0, fun _ => 0)
theorem kn_V_ok (D : va_G) (ty : List (ClassId × FieldType)) (A : Nat → Prop) : kc_ok (kn_V D ty A) := ⟨fun _ _ h => absurd h (Nat.not_lt_zero _), fun _ h => absurd h (Nat.not_lt_zero _)⟩
def kn_Pz (D : va_G) (ty : List (ClassId × FieldType)) (av : List Value) (ws : va_W) (sz : Nat) : Array Value → State → Prop := va_Pc av (fun U => U.heap.size = sz ∧ va_P D cls_all ws U.heap ∧ va_K D cls_all ty U ∧ va_D (fun _ => True) ws ∧ kc_nx U ∧ va_AOA .int U)
def kn_Qz {S : Type} (D : va_G) (ws : va_W) (sz : Nat) (ws' : S → va_W) : Array Value → State → Outcome → State → Prop := va_Qv (fun _ : S => True) (fun u t => va_P D cls_all (ws' u) t.heap ∧ va_D (va_A ws sz) (ws' u)) (va_A ws sz)
def kn_Met {S : Type} (l : Launch) (y : MethodName) (cc : ByteArray) (nL : Nat) (rm : Room) (D : va_G) (ty : List (ClassId × FieldType)) (av : List Value) (ws : va_W) (ws' : S → va_W) (mc ms : Nat) : Prop :=
  ∀ sz : Nat, Met l y (Cond.code y cc nL none :: lw_good) rm (kn_Pz D ty av ws sz) (kn_Qz D ws sz ws') mc ms (va_A ws sz)
theorem kn_of {S : Type} {l : Launch} {y : MethodName} {cc : ByteArray} {nL : Nat} {rm : Room} {D : va_G} {ty : List (ClassId × FieldType)} {av : List Value} {ws : va_W} {ws' : S → va_W} {mc ms : Nat} (hy : plainName y.cls = true) (hlen : (lg_sl av).length ≤ nL)
    (body : ∀ (C : kc_C) (A : Nat → Prop), kc_l C = l → kc_F C (kn_V D ty A) cc nL y.cls (Cond.code y cc nL none) rm none → kn_F C (kn_V D ty A) → (kc_meth C).name = y.name → kn_Go C (kn_V D ty A) nL (0, 0) (MQ (kc_below C) (va_Qv (fun _ : S => True) (fun u t => va_P D cls_all (ws' u) t.heap ∧ va_D A (ws' u)) A) (kc_args C) (kc_s C) mc ms A) ws 0 (lv_args 0 av) []) : kn_Met l y cc nL rm D ty av ws ws' mc ms := by
  intro sz
  refine Met.ofW (cc := cc) (maxL := nL) (ret := none) hy rfl ?_
  intro p e s m args below meth c s₁ B hml hv
  obtain ⟨rfl, hsz, hP, hK, hD0, hN, hO⟩ := hv
  subst hsz
  rw [lg_entry_eq]
  exact body (p, l, e, rm, s, m, av.toArray, below, meth, c) (va_A ws s.heap.size) rfl ⟨⟨B.exec, B.bytes, hml, findClass_of_methodNamed B.named, atoms_spec B.pre⟩, hK, rfl, hN, B.notSynchronized, B.returns, kn_V_ok _ _ _⟩ ⟨fun q h => Or.inr h, hO⟩ (name_of_methodNamed B.named B.method).1 _ s.heap [] (lv_entry av hlen) hP (hD0.self) va_S.rf
theorem kn_fm {ws wc : va_W} (isC : List Nat) (hC : isC.map (fun i => ws[i]?) = wc.map some) : isC.filterMap (fun i => ws[i]?) = wc := by
  have h : isC.filterMap (fun i => ws[i]?) = (isC.map (fun i => ws[i]?)).filterMap id := by
    rw [List.filterMap_map]
    rfl
  rw [h, hC, List.filterMap_map]
  show wc.filterMap some = wc
  exact List.filterMap_some
theorem va_AOA_warm {t : FieldType} {s U : State} (hW : s.WarmedH U.vm) (h : va_AOA t s) : va_AOA t U := by
  have e : (Cond.arrayOver (.array t)).before #[] (s.setVm U.vm) = true := by
    rw [Cond.arrayOver_setVmC hW.alike]
    exact h
  exact e
section KN
variable {C : kc_C} {V : kc_V} {cc : ByteArray} {nL : Nat} {own : String} {w0 : Cond} {rm : Room} {ret : Option FieldType} {z : Nat × Nat} {Q : State → Prop} {ws ws' : va_W} {pc : Nat} {L : List (Nat × Value)} {st : List Value}
theorem kn_aload_n (h : kc_F C V cc nL own w0 rm ret) {j : Fin 4} {x : Nat} (d : decode cc pc = .ok (.aload_n j, 1)) (q : Nat) (hq : L[q]? = some ((j : Nat), .ref x)) (k : kn_Go C V nL z Q ws (pc + 1) L (.ref x :: st)) : kn_Go C V nL z Q ws pc L st := fun ls H locs hl hP hD hS => lv_aload_n h.x h.b d rfl (lv_at hl q hq) (k ls H locs hl hP hD hS)
theorem kn_iconst (h : kc_F C V cc nL own w0 rm ret) {n : Int} {v : Int32} (d : decode cc pc = .ok (.iconst n, 1)) (hv : Int32.ofInt n = v) (k : kn_Go C V nL z Q ws (pc + 1) L (.int v :: st)) : kn_Go C V nL z Q ws pc L st := fun ls H locs hl hP hD hS => lv_iconst h.x h.b d hv (k ls H locs hl hP hD hS)
theorem kn_bipush (h : kc_F C V cc nL own w0 rm ret) {n : Int} {v : Int32} (d : decode cc pc = .ok (.bipush n, 2)) (hv : (Int8.ofInt n).toInt32 = v) (k : kn_Go C V nL z Q ws (pc + 2) L (.int v :: st)) : kn_Go C V nL z Q ws pc L st := fun ls H locs hl hP hD hS => lv_bipush h.x h.b d hv (k ls H locs hl hP hD hS)
theorem kn_sipush (h : kc_F C V cc nL own w0 rm ret) {n : Int} {v : Int32} (d : decode cc pc = .ok (.sipush n, 3)) (hv : (Int16.ofInt n).toInt32 = v) (k : kn_Go C V nL z Q ws (pc + 3) L (.int v :: st)) : kn_Go C V nL z Q ws pc L st := fun ls H locs hl hP hD hS => lv_sipush h.x h.b d hv (k ls H locs hl hP hD hS)
theorem kn_dup (h : kc_F C V cc nL own w0 rm ret) {va : Value} (d : decode cc pc = .ok (.dup, 1)) (hva : va.category = 1) (k : kn_Go C V nL z Q ws (pc + 1) L (va :: va :: st)) : kn_Go C V nL z Q ws pc L (va :: st) := fun ls H locs hl hP hD hS => lv_dup h.x h.b d hva (k ls H locs hl hP hD hS)
theorem kn_astore_n (h : kc_F C V cc nL own w0 rm ret) {j : Fin 4} {x : Nat} (d : decode cc pc = .ok (.astore_n j, 1)) (L' : List (Nat × Value)) (hL : ((j : Nat), Value.ref x) :: L.filter (fun q => !(q.1 == (j : Nat)) && !(q.1 + 1 == (j : Nat) && q.2.category == 2)) = L') (hn : (j : Nat) < nL) (k : kn_Go C V nL z Q ws (pc + 1) L' st) : kn_Go C V nL z Q ws pc L (.ref x :: st) := fun ls H locs hl hP hD hS => lv_astore_n h.x h.b d rfl hl hn hL (fun ls' hl' => k ls' H locs hl' hP hD hS)
theorem kn_at {pc' : Nat} (e : pc = pc') (k : kn_Go C V nL z Q ws pc' L st) : kn_Go C V nL z Q ws pc L st := by
  subst e
  exact k
theorem kn_z {z' : Nat × Nat} (e : z = z') (k : kn_Go C V nL z' Q ws pc L st) : kn_Go C V nL z Q ws pc L st := by
  subst e
  exact k
theorem kn_obj (h : kc_F C V cc nL own w0 rm ret) {idx a : Nat} (hlk : Cond.methodLink own idx Lib.objectInit ∈ lw_good) (hin : Cond.instanceMethod Lib.objectInit ∈ lw_good) (hco : Cond.code Lib.objectInit ⟨#[0xb1]⟩ 1 none ∈ lw_good) (hR : 1 ≤ rm.frames ∧ 20 ≤ rm.locals) (hW : (st.map fun v => v.category).sum ≤ 8) (d : decode cc pc = .ok (.invokespecial idx, 3)) (k : kn_Go C V nL z Q ws (pc + 3) L st) : kn_Go C V nL z Q ws pc L (.ref a :: st) := by
  intro ls H locs hl hP hD hS
  have hRR := h.R
  exact W.objInit h.x h.b h.ow (h.wd hlk) (h.wd hin) (h.wd hco) rfl (hl.1.trans h.ml.symm) rfl d (by rw [hRR]; exact hR.1) (by rw [hRR]; show 2 * 0 + _ + 12 ≤ _; omega) (k ls H locs hl hP hD hS)
theorem kn_new (h : kc_F C V cc nL own w0 rm ret) (g : kn_F C V) {Cn : String} {Tb : u_T} {M ci index : Nat} {ty : Nat → FieldType} {fs : List Value} (hui : ∀ w ∈ u_ws Cn Tb M, w ∈ lw_good) (hty : ∀ k, k < M → parseFieldDescriptor (Tb k).2.2.1 = some (ty k)) (hlk : Cond.classLink own index Cn ∈ lw_good) (hin : Cond.instantiable Cn M ∈ lw_good) (hini : Cond.initialized Cn ∈ lw_good) (hc : cls_all[ci]? = some (Cn, Tb, M)) (hfs : ∀ j, j < M → defaultValue (ty j) = vp_V fs j) (hR : z.1 + 1 ≤ rm.cells ∧ z.2 + M ≤ rm.slots) (d : decode cc pc = .ok (.new index, 3))
    (k : ∀ q : Nat, kn_Go C V nL (z.1 + 1, z.2 + M) Q (ws ++ [(q, .inr (ci, fs))]) (pc + 3) L (.ref q :: st)) : kn_Go C V nL z Q ws pc L st := by
  intro ls H locs hl hP hD hS
  have hRR := h.R
  exact va_new h.x h.b h.ts (fun w hw => List.mem_cons_of_mem _ (hui w hw)) ty hty h.ow (h.wd hlk) (h.wd hin) (h.wd hini) h.K hP hD hS g.1 hc hfs (by rw [hRR]; exact hR.1) (by rw [hRR]; exact hR.2) d (fun q H1 hP1 hD1 hS1 => k q ls H1 locs hl hP1 hD1 hS1)
theorem kn_put (h : kc_F C V cc nL own w0 rm ret) {Cn : String} {Tb : u_T} {M ci index q0 a j : Nat} {ty : Nat → FieldType} {fs : List Value} {v : Value} (hui : ∀ w ∈ u_ws Cn Tb M, w ∈ lw_good) (hty : ∀ k, k < M → parseFieldDescriptor (Tb k).2.2.1 = some (ty k)) (hnm : ∀ a, a < M → ∀ b, b < M → a ≠ b → (Tb a).2.1 ≠ (Tb b).2.1) (he : ws[q0]? = some (a, .inr (ci, fs))) (hc : cls_all[ci]? = some (Cn, Tb, M)) (hj : j < M) (hlk : Cond.fieldLink own index Cn (Tb j).2.1 (Tb j).2.2.1 ∈ lw_good) (hcl : (Tb j).1 = Cn) (hfin : (Tb j).2.2.2 = false) (hn : narrow (ty j) v = v) (hfit : fits (ty j) v = true) (hl2 : j < fs.length) (d : decode cc pc = .ok (.putfield index, 3)) (hw : ws.set q0 (a, .inr (ci, fs.set j v)) = ws')
    (k : kn_Go C V nL z Q ws' (pc + 3) L st) : kn_Go C V nL z Q ws pc L (v :: .ref a :: st) := by
  subst hw
  intro ls H locs hl hP hD hS
  exact va_put h.x h.b h.ts (fun w hw => List.mem_cons_of_mem _ (hui w hw)) ty hty hnm h.ow h.K hP hD hS q0 he hc j hj (h.wd hlk) (fun x hx => by rw [← hcl]; exact hcl ▸ hx) hfin (hty j hj) hn hfit hl2 d (fun H1 locs1 hP1 hD1 hS1 => k ls H1 locs1 hl hP1 hD1 hS1)
theorem kn_putF (h : kc_F C V cc nL own w0 rm ret) (hin : (kc_meth C).name = "<init>") {Tb : u_T} {M ci index q0 a j : Nat} {ty : Nat → FieldType} {fs : List Value} {v : Value} (hui : ∀ w ∈ u_ws own Tb M, w ∈ lw_good) (hty : ∀ k, k < M → parseFieldDescriptor (Tb k).2.2.1 = some (ty k)) (hnm : ∀ a, a < M → ∀ b, b < M → a ≠ b → (Tb a).2.1 ≠ (Tb b).2.1) (he : ws[q0]? = some (a, .inr (ci, fs))) (hc : cls_all[ci]? = some (own, Tb, M)) (hj : j < M) (hlk : Cond.fieldLink own index own (Tb j).2.1 (Tb j).2.2.1 ∈ lw_good) (hcl : (Tb j).1 = own) (hfin : (Tb j).2.2.2 = true) (hn : narrow (ty j) v = v) (hfit : fits (ty j) v = true) (hl2 : j < fs.length) (d : decode cc pc = .ok (.putfield index, 3)) (hw : ws.set q0 (a, .inr (ci, fs.set j v)) = ws')
    (k : kn_Go C V nL z Q ws' (pc + 3) L st) : kn_Go C V nL z Q ws pc L (v :: .ref a :: st) := by
  subst hw
  intro ls H locs hl hP hD hS
  exact va_putF h.x h.b h.ts (fun w hw => List.mem_cons_of_mem _ (hui w hw)) ty hty hnm h.ow h.K hP hD hS q0 he hc j hj (h.wd hlk) (fun x hx => by rw [← hcl]; exact hcl ▸ hx) hfin hin hcl (hty j hj) hn hfit hl2 d (fun H1 locs1 hP1 hD1 hS1 => k ls H1 locs1 hl hP1 hD1 hS1)
theorem kn_get (h : kc_F C V cc nL own w0 rm ret) {Cn : String} {Tb : u_T} {M ci index q0 a j : Nat} {fs : List Value} {v : Value} (hui : ∀ w ∈ u_ws Cn Tb M, w ∈ lw_good) (he : ws[q0]? = some (a, .inr (ci, fs))) (hc : cls_all[ci]? = some (Cn, Tb, M)) (hj : j < M) (hlk : Cond.fieldLink own index Cn (Tb j).2.1 (Tb j).2.2.1 ∈ lw_good) (hcl : (Tb j).1 = Cn) (hv : fs[j]? = some v) (d : decode cc pc = .ok (.getfield index, 3)) (k : kn_Go C V nL z Q ws (pc + 3) L (v :: st)) : kn_Go C V nL z Q ws pc L (.ref a :: st) :=
  fun ls H locs hl hP hD hS => va_get h.x h.b h.ts (fun w hw => List.mem_cons_of_mem _ (hui w hw)) h.ow h.K hP q0 he hc j hj (h.wd hlk) (fun x hx => by rw [← hcl]; exact hcl ▸ hx) hv d (k ls H locs hl hP hD hS)
theorem kn_newi (h : kc_F C V cc nL own w0 rm ret) (g : kn_F C V) {cA : ClassId} {t0 N' : Nat} {n : Int32} (ht : (kc_ty V)[t0]? = some (cA, .int)) (harr : Cond.arrayClass .int ∈ lw_good) (hn : ¬ n < 0) (hN : n.toNatClampNeg = N') (hbytes : N' * componentBytes .int ≤ 536870912) (hR : z.1 + 1 ≤ rm.cells ∧ z.2 + N' ≤ rm.slots) (d : decode cc pc = .ok (.newarray .int, 2))
    (k : ∀ q : Nat, kn_Go C V nL (z.1 + 1, z.2 + N') Q (ws ++ [(q, .inl (cA, N', .inl (fun _ => 0)))]) (pc + 2) L (.ref q :: st)) : kn_Go C V nL z Q ws pc L (.int n :: st) := by
  intro ls H locs hl hP hD hS
  have hRR := h.R
  refine va_newa h.x h.b (atype := .int) (h.wd harr) rfl h.K hP hD hS g.1 (a0 := (N', .inl (fun _ => 0))) (fun c => rfl) hn hN hbytes (by rw [hRR]; exact hR.1) (by rw [hRR]; exact hR.2) d (fun q c H1 hK1 hP1 hD1 hS1 => ?_)
  have h1 : (kc_s C).vm.findClass ("[" ++ (.int : FieldType).toString) = some c := (hK1.2 (kc_ty V).length (c, .int) (by simp <;> rfl)).2
  have h2 : (kc_s C).vm.findClass ("[" ++ (.int : FieldType).toString) = some cA := (h.K.2 t0 _ ht).2
  cases h1.symm.trans h2
  exact k q ls H1 locs hl hP1 hD1 hS1
theorem kn_newz (h : kc_F C V cc nL own w0 rm ret) (g : kn_F C V) {cA : ClassId} {t0 N' : Nat} {n : Int32} (ht : (kc_ty V)[t0]? = some (cA, .boolean)) (harr : Cond.arrayClass .boolean ∈ lw_good) (hn : ¬ n < 0) (hN : n.toNatClampNeg = N') (hbytes : N' * componentBytes .boolean ≤ 536870912) (hR : z.1 + 1 ≤ rm.cells ∧ z.2 + N' ≤ rm.slots) (d : decode cc pc = .ok (.newarray .boolean, 2))
    (k : ∀ q : Nat, kn_Go C V nL (z.1 + 1, z.2 + N') Q (ws ++ [(q, .inl (cA, N', .inl (fun _ => 0)))]) (pc + 2) L (.ref q :: st)) : kn_Go C V nL z Q ws pc L (.int n :: st) := by
  intro ls H locs hl hP hD hS
  have hRR := h.R
  refine va_newa h.x h.b (atype := .boolean) (h.wd harr) rfl h.K hP hD hS g.1 (a0 := (N', .inl (fun _ => 0))) (fun c => rfl) hn hN hbytes (by rw [hRR]; exact hR.1) (by rw [hRR]; exact hR.2) d (fun q c H1 hK1 hP1 hD1 hS1 => ?_)
  have h1 : (kc_s C).vm.findClass ("[" ++ (.boolean : FieldType).toString) = some c := (hK1.2 (kc_ty V).length (c, .boolean) (by simp <;> rfl)).2
  have h2 : (kc_s C).vm.findClass ("[" ++ (.boolean : FieldType).toString) = some cA := (h.K.2 t0 _ ht).2
  cases h1.symm.trans h2
  exact k q ls H1 locs hl hP1 hD1 hS1
theorem kn_newl (h : kc_F C V cc nL own w0 rm ret) (g : kn_F C V) {cA : ClassId} {t0 N' : Nat} {n : Int32} (ht : (kc_ty V)[t0]? = some (cA, .long)) (harr : Cond.arrayClass .long ∈ lw_good) (hn : ¬ n < 0) (hN : n.toNatClampNeg = N') (hbytes : N' * componentBytes .long ≤ 536870912) (hR : z.1 + 1 ≤ rm.cells ∧ z.2 + N' ≤ rm.slots) (d : decode cc pc = .ok (.newarray .long, 2))
    (k : ∀ q : Nat, kn_Go C V nL (z.1 + 1, z.2 + N') Q (ws ++ [(q, .inl (cA, N', .inr (.inl (fun _ => 0))))]) (pc + 2) L (.ref q :: st)) : kn_Go C V nL z Q ws pc L (.int n :: st) := by
  intro ls H locs hl hP hD hS
  have hRR := h.R
  refine va_newa h.x h.b (atype := .long) (h.wd harr) rfl h.K hP hD hS g.1 (a0 := (N', .inr (.inl (fun _ => 0)))) (fun c => rfl) hn hN hbytes (by rw [hRR]; exact hR.1) (by rw [hRR]; exact hR.2) d (fun q c H1 hK1 hP1 hD1 hS1 => ?_)
  have h1 : (kc_s C).vm.findClass ("[" ++ (.long : FieldType).toString) = some c := (hK1.2 (kc_ty V).length (c, .long) (by simp <;> rfl)).2
  have h2 : (kc_s C).vm.findClass ("[" ++ (.long : FieldType).toString) = some cA := (h.K.2 t0 _ ht).2
  cases h1.symm.trans h2
  exact k q ls H1 locs hl hP1 hD1 hS1
theorem kn_mna (h : kc_F C V cc nL own w0 rm ret) (g : kn_F C V) {cI cII : ClassId} {t0 t1 N' K' index : Nat} {n k0 : Int32} (ht : (kc_ty V)[t0]? = some (cI, .int)) (ht1 : (kc_ty V)[t1]? = some (cII, .array .int)) (harr : Cond.arrayClass .int ∈ lw_good) (hlk : Cond.classLink own index ("[" ++ (FieldType.array .int).toString) ∈ lw_good) (hn : ¬ n < 0) (hk : ¬ k0 < 0) (hN : n.toNatClampNeg = N') (hK : k0.toNatClampNeg = K') (hb : N' ≤ 100 ∧ K' ≤ 100) (hR : z.1 + (1 + N') ≤ rm.cells ∧ z.2 + (N' + N' * K') ≤ rm.slots) (d : decode cc pc = .ok (.multianewarray index 2, 4))
    (k : ∀ (q : Nat) (r : Nat → Nat), kn_Go C V nL (z.1 + 1 + N', z.2 + N' + N' * K') Q ((ws ++ [(q, .inl (cII, N', .inr (.inr (.inr (.inr (fun i => if i < N' then some (r i) else none))))))]) ++ (List.range N').map (fun i => (r i, .inl (cI, K', .inl (fun _ => 0))))) (pc + 4) L (.ref q :: st)) : kn_Go C V nL z Q ws pc L (.int k0 :: .int n :: st) := by
  intro ls H locs hl hP hD hS
  have hRR := h.R
  have e0 : ws = ws ++ va_pl [] (fun _ => .inl (cI, K', .inl (fun _ => 0))) := by simp [va_pl]
  have hP0 : va_P (kc_D V) cls_all (ws ++ va_pl [] (fun _ => .inl (cI, K', .inl (fun _ => 0)))) H := by rw [← e0]; exact hP
  have hD0 : va_D (kc_A V) (ws ++ va_pl [] (fun _ => .inl (cI, K', .inl (fun _ => 0)))) := by rw [← e0]; exact hD
  have hcy : (kc_s C).vm.findClass (FieldType.array .int).toString = some cI := (h.K.2 t0 _ ht).2
  refine va_mna (ty := .int) h.x h.b h.ow (h.wd hlk) g.2 (h.wd harr) hcy h.K hP0 hD0 hS g.1 (z := (K', .inl (fun _ => 0))) hn hk hN hK (by omega) (by have : K' * componentBytes .int ≤ 100 * componentBytes .int := Nat.mul_le_mul hb.2 (Nat.le_refl _); have e9 : componentBytes .int = 4 := rfl; omega) (by omega) rfl rfl (by rw [hRR]; exact hR.1) (by rw [hRR]; exact hR.2) (fun c => arrV_new c K' (.int 0)) d (fun q r c H1 _ _ hK1 hP1 hD1 hS1 => ?_)
  have h1 : (kc_s C).vm.findClass ("[" ++ (FieldType.array .int).toString) = some c := (hK1.2 (kc_ty V).length (c, .array .int) (by simp)).2
  have h2 : (kc_s C).vm.findClass ("[" ++ (FieldType.array .int).toString) = some cII := (h.K.2 t1 _ ht1).2
  cases h1.symm.trans h2
  have e1 : va_pl ([] ++ (List.range N').map r) (vr_up (fun _ => .inl (cI, K', .inl (fun _ => 0))) ((List.range N').map r) (.inl (cI, K', .inl (fun _ => 0)))) = (List.range N').map (fun i => ((r i, .inl (cI, K', .inl (fun _ => 0))) : Nat × va_E)) := by
    unfold va_pl
    rw [List.nil_append, List.map_map]
    apply List.map_congr_left
    intro i hi
    show (r i, vr_up _ _ _ (r i)) = _
    rw [vr_up_in (List.mem_map.mpr ⟨i, hi, rfl⟩)]
  rw [e1] at hP1 hD1
  exact k q r ls H1 locs hl hP1 hD1 hS1
/-- a constructor of ours: the cells of the callee at the places isC, the rest at isR -/
theorem kn_back {S : Type} {wc wr : va_W} {w1 : S → va_W} {mc ms sz : Nat} {a : Array Value} {rest st0 : List Value} {ls : Array Slot} {H : Heap} {locs : List Loc} (g : kn_F C V) (isC isR : List Nat) (hC : isC.map (fun i => ws[i]?) = wc.map some) (hRr : isR.map (fun i => ws[i]?) = wr.map some) (hn : va_nd isR = true) (hdis : ∀ i ∈ isR, i ∉ isC)
    (hsz : H.size = sz) (hl : lv_has ls nL L) (hP : va_P (kc_D V) cls_all ws H) (hD : va_D (kc_A V) ws) (hS : va_S (kc_A V) (kc_s C).heap H locs)
    (hr : va_Run (kc_p C) (kc_l C) (kc_e C) (kc_R C) (kc_s C) (kc_m C) (kc_args C) (kc_below C) (kc_meth C) (kc_c C) H locs z.1 z.2 mc ms (F0 (kc_m C) pc ls st0) rest (kn_Qz (kc_D V) wc sz w1 a) (va_A wc sz))
    (k : ∀ u : S, kn_Go C V nL (z.1 + mc, z.2 + ms) Q (wr ++ w1 u) (pc + 3) L rest) : W (kc_p C) (kc_l C) (kc_e C) (kc_R C) (kc_s C) (kc_m C) (kc_args C) (kc_below C) (kc_meth C) (kc_c C) H locs z.1 z.2 Q (F0 (kc_m C) pc ls st0) := by
  subst hsz
  have hFc := va_free (wc := wc) hD hS g.1 isC hC
  refine va_callv hr hS (fun q _ h => hFc q h) hFc (fun u t H1 locs1 ht hvm _ hB hz hk1 hS1 => ?_)
  obtain ⟨hP1, hD1⟩ := hB
  rw [ht] at hP1
  obtain ⟨hPj, hDj⟩ := va_join hP hD isC isR hC hRr hn hdis hk1 hFc hP1 hD1
  exact k u ls H1 locs1 hl hPj hDj hS1
theorem kn_ctor (h : kc_F C V cc nL own w0 rm ret) (g : kn_F C V) {S : Type} {y : MethodName} {cz : ByteArray} {nz n index b mc ms : Nat} {rmz : Room} {As rest : List Value} {wc wr : va_W} {w1 : S → va_W}
    (hM : kn_Met (kc_l C) y cz nz rmz (kc_D V) (kc_ty V) (.ref b :: As) wc w1 mc ms) (hc : kc_cal y cz nz none n) (hst : Cond.instanceMethod y ∈ lw_good) (hy1 : y.name = "<init>") (hlk : Cond.methodLink own index y ∈ lw_good) (hn : As.length = n) (hR : (rmz.cells = mc ∧ rmz.slots = ms) ∧ (rmz.frames + 1 ≤ rm.frames ∧ 8 + (nz + 11) + rmz.locals ≤ rm.locals) ∧ z.1 + mc ≤ rm.cells ∧ z.2 + ms ≤ rm.slots) (hs : st = As.reverse ++ .ref b :: rest) (hW : (rest.map fun v => v.category).sum ≤ 8) (d : decode cc pc = .ok (.invokespecial index, 3)) (isC isR : List Nat) (hC : isC.map (fun i => ws[i]?) = wc.map some) (hRr : isR.map (fun i => ws[i]?) = wr.map some) (hnd : va_nd isR = true ∧ va_nd isC = true) (hdis : ∀ i ∈ isR, i ∉ isC)
    (k : ∀ u : S, kn_Go C V nL (z.1 + mc, z.2 + ms) Q (wr ++ w1 u) (pc + 3) L rest) : kn_Go C V nL z Q ws pc L st := by
  subst hs
  intro ls H locs hl hP hD hS
  have hRR := h.R
  refine kn_back g isC isR hC hRr hnd.1 hdis rfl hl hP hD hS (va_runI h.1 (hM H.size) ⟨callB_of n h.ts (kc_goodIn hc.1) rfl hR.1.1 hR.1.2 (h.wd hc.2.1) (h.wd hlk) hc.2.2 (by rw [hRR]; exact hR.2.1), hy1, h.wd hst⟩ ⟨fun a U g mk q => ⟨q.1, q.2.1, q.2.2.1, va_K.moved (u := U) (U := U.calling g mk a) (Vm.Alike.refl U.vm) q.2.2.2.1, q.2.2.2.2.1, q.2.2.2.2.2.1.same rfl, q.2.2.2.2.2.2⟩, fun U hU hWm => ⟨rfl, by rw [hU], by rw [hU]; exact hP.sub isC (by rw [kn_fm isC hC]), va_K.moved hWm.alike h.K, (hD.sub isC hnd.2 hC).weaken (fun _ _ _ _ => trivial), h.nx.warm hWm, va_AOA_warm hWm g.2⟩⟩ rfl hn hl.1 rfl (by show 2 * 0 + _ ≤ 8; omega) d (by rw [hRR]; exact hR.2.2)) k
theorem kn_ctorN (h : kc_F C V cc nL own w0 rm ret) (g : kn_F C V) {S : Type} {y : MethodName} {cz : ByteArray} {nz n index b mc ms : Nat} {host : String} {rmz : Room} {As rest : List Value} {wc wr : va_W} {w1 : S → va_W}
    (hM : kn_Met (kc_l C) y cz nz rmz (kc_D V) (kc_ty V) (.ref b :: As) wc w1 mc ms) (hc : kc_cal y cz nz none n) (hst : Cond.instanceMethod y ∈ lw_good) (hy1 : y.name = "<init>") (hlk : (own, index, y, host) ∈ kc_nest) (hn : As.length = n) (hR : (rmz.cells = mc ∧ rmz.slots = ms) ∧ (rmz.frames + 1 ≤ rm.frames ∧ 8 + (nz + 11) + rmz.locals ≤ rm.locals) ∧ z.1 + mc ≤ rm.cells ∧ z.2 + ms ≤ rm.slots) (hs : st = As.reverse ++ .ref b :: rest) (hW : (rest.map fun v => v.category).sum ≤ 8) (d : decode cc pc = .ok (.invokespecial index, 3)) (isC isR : List Nat) (hC : isC.map (fun i => ws[i]?) = wc.map some) (hRr : isR.map (fun i => ws[i]?) = wr.map some) (hnd : va_nd isR = true ∧ va_nd isC = true) (hdis : ∀ i ∈ isR, i ∉ isC)
    (k : ∀ u : S, kn_Go C V nL (z.1 + mc, z.2 + ms) Q (wr ++ w1 u) (pc + 3) L rest) : kn_Go C V nL z Q ws pc L st := by
  subst hs
  intro ls H locs hl hP hD hS
  have hRR := h.R
  refine kn_back g isC isR hC hRr hnd.1 hdis rfl hl hP hD hS (va_runIN h.1 (hM H.size) ⟨va_cnB n h.ts (kc_goodIn hc.1) rfl hR.1.1 hR.1.2 (h.nx _ hlk) (h.wd hc.2.1) hc.2.2 (by rw [hRR]; exact hR.2.1), hy1, h.wd hst⟩ ⟨fun a U g mk q => ⟨q.1, q.2.1, q.2.2.1, va_K.moved (u := U) (U := U.calling g mk a) (Vm.Alike.refl U.vm) q.2.2.2.1, q.2.2.2.2.1, q.2.2.2.2.2.1.same rfl, q.2.2.2.2.2.2⟩, fun U hU hWm => ⟨rfl, by rw [hU], by rw [hU]; exact hP.sub isC (by rw [kn_fm isC hC]), va_K.moved hWm.alike h.K, (hD.sub isC hnd.2 hC).weaken (fun _ _ _ _ => trivial), h.nx.warm hWm, va_AOA_warm hWm g.2⟩⟩ rfl hn hl.1 rfl (by show 2 * 0 + _ ≤ 8; omega) d (by rw [hRR]; exact hR.2.2)) k
theorem kn_vret (h : kc_F C V cc nL own w0 rm none) {S : Type} {w1 : S → va_W} {mc ms : Nat} (d : decode cc pc = .ok (.return_, 1)) (u : S) (e : ws = w1 u) (ez : z = (mc, ms)) : kn_Go C V nL z (MQ (kc_below C) (va_Qv (fun _ : S => True) (fun u t => va_P (kc_D V) cls_all (w1 u) t.heap ∧ va_D (kc_A V) (w1 u)) (kc_A V)) (kc_args C) (kc_s C) mc ms (kc_A V)) ws pc L [] := by
  subst e
  subst ez
  intro ls H locs hl hP hD hS
  exact W.vret h.x h.b h.rt (fun t ht _ => ⟨⟨u, rfl, trivial, by rw [ht]; exact hP, hD⟩, hS.F ht⟩) hS.2.2 d h.lk
end KN
