/-! what the law knows at its entry -/
theorem kl_good {args : Array Value} {s : State} (h : ∀ w ∈ lw_tbl, w.before args s = true) : ∀ w ∈ lw_good, w.before args s = true := fun w hw => h w (List.mem_filter.mp hw).1
theorem kl_arr {args : Array Value} {s : State} {t : FieldType} (h : (Cond.arrayClass t).before args s = true) : ∃ c : ClassId, ArrOfT s c t ∧ s.vm.findClass ("[" ++ t.toString) = some c := by
  obtain ⟨c, k, comp, h1, h2, h3⟩ := Cond.arrayClass_spec h
  exact ⟨c, fun n z => ⟨fun k h => (by cases h), k, h2, comp, h3⟩, h1⟩
theorem kl_arrA {args : Array Value} {s : State} {t : FieldType} (h : (Cond.arrayOver (.array t)).before args s = true) : ∃ c : ClassId, ArrOfT s c (.array t) ∧ s.vm.findClass ("[" ++ (FieldType.array t).toString) = some c := by
  obtain ⟨comp, c, k, h0, h2, h3, h1⟩ := Cond.arrayOver_specA h
  exact ⟨c, fun n z => ⟨fun k h => (by cases h), k, h2, comp, h3⟩, h1⟩
theorem kl_K {args : Array Value} {s : State} (h : ∀ w ∈ lw_tbl, w.before args s = true) (hA : va_AOA .int s) : ∃ (D : va_G) (cI cII cZ cJ : ClassId), va_K D cls_all [(cI, .int), (cII, .array .int), (cZ, .boolean), (cJ, .long)] s := by
  have hg := kl_good h
  obtain ⟨c0, i0, h0⟩ := u_known (C := "KeyCustody") (T := T_K) (N := 7) hg ui_K (hg _ tw_19)
  obtain ⟨c1, i1, h1⟩ := u_known (C := "KeyCustodyModel") (T := T_M) (N := 18) hg ui_M (hg _ tw_599)
  obtain ⟨c2, i2, h2⟩ := u_known (C := "KeyCustody$Board") (T := T_B) (N := 2) hg ui_B (hg _ tw_43)
  obtain ⟨c3, i3, h3⟩ := u_known (C := "KeyCustody$Group") (T := T_G) (N := 3) hg ui_G (hg _ tw_27)
  obtain ⟨c4, i4, h4⟩ := u_known (C := "KeyCustody$Week") (T := T_V) (N := 9) hg ui_V (hg _ tw_57)
  obtain ⟨cI, a1, a2⟩ := kl_arr (hg _ tw_55)
  obtain ⟨cII, b1, b2⟩ := kl_arrA (va_AOA.use (A := args) hA)
  obtain ⟨cZ, d1, d2⟩ := kl_arr (hg _ tw_659)
  obtain ⟨cJ, e1, e2⟩ := kl_arr (hg _ tw_798)
  refine ⟨(fun c => match c with | 0 => c0 | 1 => c1 | 2 => c2 | 3 => c3 | _ => c4, fun c => match c with | 0 => i0 | 1 => i1 | 2 => i2 | 3 => i3 | _ => i4), cI, cII, cZ, cJ, fun c q hq => ?_, fun k q hq => ?_⟩
  · match c, hq with
    | 0, hq =>
      cases hq
      exact h0
    | 1, hq =>
      cases hq
      exact h1
    | 2, hq =>
      cases hq
      exact h2
    | 3, hq =>
      cases hq
      exact h3
    | 4, hq =>
      cases hq
      exact h4
    | c + 5, hq => cases hq
  · match k, hq with
    | 0, hq =>
      cases hq
      exact ⟨a1, a2⟩
    | 1, hq =>
      cases hq
      exact ⟨b1, b2⟩
    | 2, hq =>
      cases hq
      exact ⟨d1, d2⟩
    | 3, hq =>
      cases hq
      exact ⟨e1, e2⟩
    | k + 4, hq => cases hq
theorem kl_AOA {args : Array Value} {s : State} (h : ∀ w ∈ lw_tbl, w.before args s = true) : va_AOA .int s := va_AOA.of (h _ (List.mem_append_right _ (List.mem_of_getElem? (i := 63) (by decide +kernel))))
theorem kl_nx {args : Array Value} {s : State} (h : ∀ w ∈ lw_tbl, w.before args s = true) : kc_nx s := by
  intro q hq
  refine va_Nw.of rfl (A := args) (h _ (List.mem_append_right _ ?_))
  simp only [kc_nest, List.mem_cons, List.not_mem_nil, or_false] at hq
  rcases hq with rfl | rfl | rfl | rfl | rfl | rfl
  · exact List.mem_of_getElem? (i := 28) (by decide +kernel)
  · exact List.mem_of_getElem? (i := 44) (by decide +kernel)
  · exact List.mem_of_getElem? (i := 302) (by decide +kernel)
  · exact List.mem_of_getElem? (i := 316) (by decide +kernel)
  · exact List.mem_of_getElem? (i := 365) (by decide +kernel)
  · exact List.mem_of_getElem? (i := 500) (by decide +kernel)
theorem kl_xn {args : Array Value} {s : State} (h : ∀ w ∈ lw_tbl, w.before args s = true) (hn : (Jvm.Cond.and given_1 narrow_1).before args s = true) : kx_nx s := by
  have hf := flat_of_before _ hn
  refine ⟨fun i h1 h2 => ?_, fun y hy => ?_, fun i j h1 h2 h3 h4 h5 => ?_⟩
  · refine va_Nw.of rfl (A := args) (h _ (List.mem_append_right _ ?_))
    rcases (show i = 1 ∨ i = 2 ∨ i = 3 ∨ i = 4 ∨ i = 5 by omega) with rfl | rfl | rfl | rfl | rfl
    · exact List.mem_of_getElem? (i := 226) (by decide +kernel)
    · exact List.mem_of_getElem? (i := 285) (by decide +kernel)
    · exact List.mem_of_getElem? (i := 133) (by decide +kernel)
    · exact List.mem_of_getElem? (i := 325) (by decide +kernel)
    · exact List.mem_of_getElem? (i := 532) (by decide +kernel)
  · refine va_Nw.of rfl (A := args) (h _ (List.mem_append_right _ ?_))
    simp only [kx_dec, List.mem_cons, List.not_mem_nil, or_false] at hy
    rcases hy with rfl | rfl | rfl
    · exact List.mem_of_getElem? (i := 134) (by decide +kernel)
    · exact List.mem_of_getElem? (i := 136) (by decide +kernel)
    · exact List.mem_of_getElem? (i := 138) (by decide +kernel)
  · refine va_Nc.of (args := args) (hf _ ?_)
    rcases (show i = 1 ∨ i = 2 ∨ i = 3 ∨ i = 4 ∨ i = 5 by omega) with rfl | rfl | rfl | rfl | rfl <;> rcases (show j = 1 ∨ j = 2 ∨ j = 3 ∨ j = 4 ∨ j = 5 by omega) with rfl | rfl | rfl | rfl | rfl <;> first | exact absurd rfl h5 | decide +kernel
theorem kl_zq {args : Array Value} {s : State} (h : ∀ w ∈ lw_tbl, w.before args s = true) (hn : (Jvm.Cond.and given_1 narrow_1).before args s = true) {V : kc_V} (hA : ∀ a, a < s.heap.size → ¬ kc_A V a) : kc_zq V s s.heap := by
  have hf := flat_of_before _ hn
  have hg := kl_good h
  exact ⟨vx_Zqof (args := args) (h _ (List.mem_append_right _ (List.mem_of_getElem? (i := 158) (by decide +kernel)))) (hg _ tw_6) (hf _ (by decide +kernel)) hA, vx_Zqof (args := args) (h _ (List.mem_append_right _ (List.mem_of_getElem? (i := 160) (by decide +kernel)))) (hg _ tw_6) (hf _ (by decide +kernel)) hA⟩
