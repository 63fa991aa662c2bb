theorem kl_end {p : Program} {l : Launch} {e : Env} {s : State} {m : MethodId} {below : List Frame} {meth : Method} {c : Code} {b : Nat} {V : kc_V} (hx : p.tables.exec = Jvm.exec) (hb : c.code = code) (hr : meth.sig.returnType = ret) (hlk : meth.locks = false) (hA : kc_A V = fun q => s.heap.size ≤ q) (z : Nat × Nat) (σ : kc_Sg) (L : List (Nat × Value)) (h1 : z.1 ≤ 601024) (h2 : z.2 ≤ 7293034) : kc_Go (p, l, e, room_1, s, m, #[Value.ref b], below, meth, c) V 7 z (lw_Z below #[Value.ref b] s) σ 1052 L [] := by
  intro ls H locs hl hP hS
  refine va_forget (fun q hq => ?_) (W.widen (k := 601024) (n := 7293034) h1 h2 (lv_iconst (v := 1) hx hb d_L_law_1052 (by decide +kernel) (lw_ret hx hb hr hlk d_L_law_1053)))
  have h := hS.2.2 q hq
  rw [hA] at h
  exact h
set_option maxHeartbeats 4000000 in
theorem whole_go {R : Nat → kc_Sg → Prop} (hS : kl_S R) (h0 : R 0 kl_s0) {p : Program} {e : Env} {s : State} {m : MethodId} {below : List Frame} {meth : Method} {c : Code} (l : Launch) (hlt : l.stackTraces = false) {b L : Nat} {xs : Nat → Int32} (hL : L ≤ 2560) (C0 : lw_At p s m meth c b L xs) : W p l e room_1 s m #[Value.ref b] below meth c s.heap [] 0 0 (lw_Z below #[Value.ref b] s) (entryFrame m ([Value.ref b] : List Value).toArray 7) := by
  obtain ⟨hx, hb, hr, hml, hown, hts, hX, hbl, hlk, hgv⟩ := C0
  have hg := kl_good hts
  obtain ⟨D, cI, cII, cZ, cJ, hK⟩ := kl_K hts (kl_AOA hts)
  have hC : kc_F (p, l, e, room_1, s, m, #[Value.ref b], below, meth, c) (kn_V D [(cI, .int), (cII, .array .int), (cZ, .boolean), (cJ, .long)] (fun q => s.heap.size ≤ q)) code 7 "KeyCustodyLaw" (Cond.initialized "KeyCustodyLaw") room_1 ret := by
    refine ⟨⟨hx, hb, hml, hown, fun w hw => ?_⟩, hK, rfl, kl_nx hts, hlk, hr, kn_V_ok _ _ _⟩
    rcases List.mem_cons.mp hw with rfl | hw
    · exact hg _ tw_0
    · exact hg w hw
  rw [lg_entry_eq]
  refine kl_first (C := (p, l, e, room_1, s, m, #[Value.ref b], below, meth, c)) (b := b) hC ⟨fun q h => h, kl_AOA hts⟩ (fun V hV eD eA eT => ?_) _ s.heap [] (lv_entry [.ref b] (Nat.le_of_ble_eq_true rfl)) (fun k q hq => by cases hq) ⟨fun i j p q hi => (by cases hi), fun k q hq => (by cases hq)⟩ va_S.rf
  have hC2 : kc_F (p, l, e, room_1, s, m, #[Value.ref b], below, meth, c) V code 7 "KeyCustodyLaw" (Cond.initialized "KeyCustodyLaw") room_1 ret := ⟨hC.1, by rw [eD, eT]; exact hK, rfl, kl_nx hts, hlk, hr, hV.ok⟩
  have hH : kl_H (p, l, e, room_1, s, m, #[Value.ref b], below, meth, c) V b L xs (Cond.initialized "KeyCustodyLaw") ret := ⟨hC2, hV, ⟨kl_zq hts hgv (fun a h => by rw [eA]; exact Nat.not_le_of_lt h), kl_xn hts hgv⟩, ⟨hX, hbl, by rw [eA]; exact Nat.not_le_of_lt hbl⟩, hL, hlt⟩
  refine kg_iconst hC2 d_L_law_20 (v := nI 0) (by decide +kernel) ?_
  refine kg_istore hC2 d_L_law_21 [(4, .int (nI 0)), (3, .ref (kc_ad V 50)), (2, .ref (kc_ad V 38)), (1, .ref (kc_ad V 0)), (0, .ref b)] rfl (by decide) ?_
  exact kg_loc [4, 3, 2, 1, 0] rfl (kl_loop hH hS (kl_end hx hb hr hlk eA) 513 0 kl_s0 (by omega) (by omega) h0)
