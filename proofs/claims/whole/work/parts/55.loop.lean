def kl_S (R : Nat → kc_Sg → Prop) : Prop := kl_S_group R ∧ kl_S_found R ∧ kl_S_fault R ∧ kl_S_deal R ∧ kl_S_look R ∧ kl_S_answer R ∧ kl_S_close R ∧ kl_S_wipe R ∧ kl_S_recover R ∧ kl_S_share R ∧ kl_S_fits R ∧ kl_S_sum R ∧ kl_S_element R ∧ kl_S_reconstruct R ∧ kl_S_post R ∧ kl_S_about R
set_option maxHeartbeats 4000000 in
set_option maxRecDepth 100000 in
theorem kl_loop {C : kc_C} {V : kc_V} {Q : State → Prop} {b N : Nat} {xs : Nat → Int32} {w0 : Cond} {ret : Option FieldType} {R : Nat → kc_Sg → Prop} (h : kl_H C V b N xs w0 ret) (hS : kl_S R) (hE : ∀ (z : Nat × Nat) (σ : kc_Sg) (L : List (Nat × Value)), z.1 ≤ 601024 → z.2 ≤ 7293034 → kc_Go C V 7 z Q σ 1052 L []) : ∀ (m n : Nat) (σ : kc_Sg), N < 5 * n + 5 * m + 5 → 5 * n ≤ 2560 → R n σ → kc_Go C V 7 (51 + n, 5024 + 6 * n) Q σ 23 (kl_L V b n) [] := by
  intro m
  induction m with
  | zero =>
    intro n σ hm hn hR
    have hC := h.1
    have hN := h.2.2.2.2.1
    refine kg_iload hC d_L_law_23 4 rfl ?_
    refine kg_aload_n hC d_L_law_25 0 rfl ?_
    refine kl_slen h d_L_law_26 ?_
    refine kg_iconst hC d_L_law_27 (v := nI 5) (by decide +kernel) ?_
    refine kg_isub hC d_L_law_28 ?_
    refine kg_icmp_gt hC d_L_law_29 (tgt := 1052) rfl (fun _ => hE _ _ _ (by show 51 + n ≤ 601024; omega) (by show 5024 + 6 * n ≤ 7293034; omega)) (fun q => ?_)
    have hq := kl_in hN hn q
    omega
  | succ m ih =>
    intro n σ hm hn hR
    have hC := h.1
    have hN := h.2.2.2.2.1
    refine kg_iload hC d_L_law_23 4 rfl ?_
    refine kg_aload_n hC d_L_law_25 0 rfl ?_
    refine kl_slen h d_L_law_26 ?_
    refine kg_iconst hC d_L_law_27 (v := nI 5) (by decide +kernel) ?_
    refine kg_isub hC d_L_law_28 ?_
    refine kg_icmp_gt hC d_L_law_29 (tgt := 1052) rfl (fun _ => hE _ _ _ (by show 51 + n ≤ 601024; omega) (by show 5024 + 6 * n ≤ 7293034; omega)) (fun q => ?_)
    have hq := kl_in hN hn q
    refine kg_aload_n hC d_L_law_32 0 rfl ?_
    refine kg_iload hC d_L_law_33 4 rfl ?_
    refine kl_sld h (i := 5 * n) rfl (by omega) d_L_law_35 ?_
    refine kg_bipush hC d_L_law_36 (v := nI 15) (by decide +kernel) ?_
    refine kg_iand hC d_L_law_38 ?_
    obtain ⟨j, hj, ej⟩ := kl_and15 (xs (5 * n))
    have K : ∀ σ2 : kc_Sg, R (n + 1) σ2 → kc_Go C V 7 (51 + n + 1, 5024 + 6 * n + 6) Q σ2 1046 (kl_L V b n) [] := fun σ2 hR2 => by
      refine kg_iinc hC d_L_law_1046 4 rfl (v := nI (5 * (n + 1))) (by rw [show Int32.ofInt 5 = nI 5 by decide +kernel, nI_add, show 5 * n + 5 = 5 * (n + 1) by omega]) [(4, .int (nI (5 * (n + 1)))), (0, .ref b), (1, .ref (kc_ad V 0)), (2, .ref (kc_ad V 38)), (3, .ref (kc_ad V 50))] rfl (by decide) ?_
      refine kg_goto hC d_L_law_1049 (tgt := 23) rfl ?_
      exact kg_loc [1, 2, 3, 4, 0] rfl (ih (n + 1) σ2 (by omega) (by omega) hR2)
    have hz : 51 + n + 1 ≤ 601024 ∧ 5024 + 6 * n + 6 ≤ 7293034 := by omega
    rcases (show j = 0 ∨ j = 1 ∨ j = 2 ∨ j = 3 ∨ j = 4 ∨ j = 5 ∨ j = 6 ∨ j = 7 ∨ j = 8 ∨ j = 9 ∨ j = 10 ∨ j = 11 ∨ j = 12 ∨ j = 13 ∨ j = 14 ∨ j = 15 by omega) with rfl | rfl | rfl | rfl | rfl | rfl | rfl | rfl | rfl | rfl | rfl | rfl | rfl | rfl | rfl | rfl
    · exact kg_tabIn hC d_L_law_39 (n := 0) ⟨ej, by decide⟩ (by decide) (by decide) (off := 77) rfl (tgt := 116) rfl (kl_c_group h hS.1 hq hR hz K)
    · exact kg_tabIn hC d_L_law_39 (n := 1) ⟨ej, by decide⟩ (by decide) (by decide) (off := 137) rfl (tgt := 176) rfl (kl_c_found h hS.2.1 hq hR hz K)
    · exact kg_tabIn hC d_L_law_39 (n := 2) ⟨ej, by decide⟩ (by decide) (by decide) (off := 209) rfl (tgt := 248) rfl (kl_c_fault h hS.2.2.1 hq hR hz K)
    · exact kg_tabIn hC d_L_law_39 (n := 3) ⟨ej, by decide⟩ (by decide) (by decide) (off := 257) rfl (tgt := 296) rfl (kl_c_deal h hS.2.2.2.1 hq hR hz K)
    · exact kg_tabIn hC d_L_law_39 (n := 4) ⟨ej, by decide⟩ (by decide) (by decide) (off := 329) rfl (tgt := 368) rfl (kl_c_look h hS.2.2.2.2.1 hq hR hz K)
    · exact kg_tabIn hC d_L_law_39 (n := 5) ⟨ej, by decide⟩ (by decide) (by decide) (off := 385) rfl (tgt := 424) rfl (kl_c_answer h hS.2.2.2.2.2.1 hq hR hz K)
    · exact kg_tabIn hC d_L_law_39 (n := 6) ⟨ej, by decide⟩ (by decide) (by decide) (off := 460) rfl (tgt := 499) rfl (kl_c_close h hS.2.2.2.2.2.2.1 hq hR hz K)
    · exact kg_tabIn hC d_L_law_39 (n := 7) ⟨ej, by decide⟩ (by decide) (by decide) (off := 504) rfl (tgt := 543) rfl (kl_c_wipe h hS.2.2.2.2.2.2.2.1 hq hR hz K)
    · exact kg_tabIn hC d_L_law_39 (n := 8) ⟨ej, by decide⟩ (by decide) (by decide) (off := 540) rfl (tgt := 579) rfl (kl_c_recover h hS.2.2.2.2.2.2.2.2.1 hq hR hz K)
    · exact kg_tabIn hC d_L_law_39 (n := 9) ⟨ej, by decide⟩ (by decide) (by decide) (off := 596) rfl (tgt := 635) rfl (kl_c_share h hS.2.2.2.2.2.2.2.2.2.1 hq hR hz K)
    · exact kg_tabIn hC d_L_law_39 (n := 10) ⟨ej, by decide⟩ (by decide) (by decide) (off := 652) rfl (tgt := 691) rfl (kl_c_fits h hS.2.2.2.2.2.2.2.2.2.2.1 hq hR hz K)
    · exact kg_tabIn hC d_L_law_39 (n := 11) ⟨ej, by decide⟩ (by decide) (by decide) (off := 715) rfl (tgt := 754) rfl (kl_c_sum h hS.2.2.2.2.2.2.2.2.2.2.2.1 hq hR hz K)
    · exact kg_tabIn hC d_L_law_39 (n := 12) ⟨ej, by decide⟩ (by decide) (by decide) (off := 771) rfl (tgt := 810) rfl (kl_c_element h hS.2.2.2.2.2.2.2.2.2.2.2.2.1 hq hR hz K)
    · exact kg_tabIn hC d_L_law_39 (n := 13) ⟨ej, by decide⟩ (by decide) (by decide) (off := 827) rfl (tgt := 866) rfl (kl_c_reconstruct h hS.2.2.2.2.2.2.2.2.2.2.2.2.2.1 hq hR hz K)
    · exact kg_tabIn hC d_L_law_39 (n := 14) ⟨ej, by decide⟩ (by decide) (by decide) (off := 883) rfl (tgt := 922) rfl (kl_c_post h hS.2.2.2.2.2.2.2.2.2.2.2.2.2.2.1 hq hR hz K)
    · exact kg_tabIn hC d_L_law_39 (n := 15) ⟨ej, by decide⟩ (by decide) (by decide) (off := 951) rfl (tgt := 990) rfl (kl_c_about h hS.2.2.2.2.2.2.2.2.2.2.2.2.2.2.2 hq hR hz K)
