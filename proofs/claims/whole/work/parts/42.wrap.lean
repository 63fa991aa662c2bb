def kw_c_group (t : Nat) : Int32 := if t = 0 then nI 0 else nI 1
set_option maxHeartbeats 4000000 in
set_option maxRecDepth 100000 in
theorem kw_L_group (l : Launch) {V : kc_V} (hV : kc_G V) (σ σ' : kc_Sg) (p0 : Int32) (p1 : Int32) (p2 : Int32) (tag : Nat) (hM : kx_Met l y_K_group b_K_group 4 none (kx_rm 6) V [.ref (kc_ad V 0), .int p0, .int p1, .int p2] σ tag none σ') (ht : tag = 0 ∨ tag = 3) : kw_Met l y_L_group b_L_group 5 (some .int) [(0, 7, 10, 13)] (kx_rm 7) V [.ref (kc_ad V 0), .int p0, .int p1, .int p2] σ (some (.int (kw_c_group tag))) (if tag = 0 then σ' else σ) := by
  refine kw_of (by decide) (Nat.le_of_ble_eq_true rfl) hV.ok (fun C hl hC hG => ?_)
  subst hl
  show kc_Go C V 5 (0, 0) (kw_E C V (some (.int (kw_c_group tag))) (if tag = 0 then σ' else σ)) σ 0 [(0, .ref (kc_ad V 0)), (1, .int p0), (2, .int p1), (3, .int p2)] []
  refine kg_aload_n hC d_L_group_0 0 rfl ?_
  refine kg_iload_n hC d_L_group_1 1 rfl ?_
  refine kg_iload_n hC d_L_group_2 2 rfl ?_
  refine kg_iload_n hC d_L_group_3 3 rfl ?_
  by_cases h0 : tag = 0
  · refine kw_ok hC hG hM h0 cal_K_group tw_119 tw_120 tw_118 (ko_0 hV) rfl rfl (by decide) (rest := []) rfl (Nat.le_of_ble_eq_true rfl) d_L_group_4 ?_
    show kc_Go C V 5 (1, 6) (kw_E C V (some (.int (kw_c_group tag))) (if tag = 0 then σ' else σ)) σ' 7 [(0, .ref (kc_ad V 0)), (1, .int p0), (2, .int p1), (3, .int p2)] []
    refine kg_goto hC d_L_group_7 (tgt := 14) rfl ?_
    refine kg_iconst hC d_L_group_14 kn_i_0 ?_
    exact kw_iret hC d_L_group_15 (by rw [kw_c_group, if_pos h0]) (by rw [if_pos h0])
  · rcases ht with h | h
    · exact absurd h h0
    · subst h
      refine kw_catch hC hG hM (by decide) cal_K_group tw_119 tw_120 tw_118 (ko_0 hV) rfl rfl (by decide) (rest := []) rfl (Nat.le_of_ble_eq_true rfl) d_L_group_4 [] ⟨0, 7, 10, 13⟩ [] rfl (fun w hw => absurd hw List.not_mem_nil) (by decide) (by decide) tw_117 (fun q => ?_)
      show kc_Go C V 5 (1, 6) (kw_E C V (some (.int (kw_c_group 3))) (if 3 = 0 then σ' else σ)) σ 10 [(0, .ref (kc_ad V 0)), (1, .int p0), (2, .int p1), (3, .int p2)] [.ref q]
      refine kg_astore hC d_L_group_10 [(4, .ref q), (0, .ref (kc_ad V 0)), (1, .int p0), (2, .int p1), (3, .int p2)] rfl (by decide) ?_
      refine kg_iconst hC d_L_group_12 kn_i_1 ?_
      exact kw_iret hC d_L_group_13 (by decide) (if_neg (by decide)).symm
def kw_c_found (t : Nat) : Int32 := if t = 0 then nI 0 else if t = 1 then nI 1 else nI 2
set_option maxHeartbeats 4000000 in
set_option maxRecDepth 100000 in
theorem kw_L_found (l : Launch) {V : kc_V} (hV : kc_G V) (σ σ' : kc_Sg) (p0 : Int32) (p1 : Int32) (p2 : Int32) (p3 : Int32) (tag : Nat) (hM : kx_Met l y_K_found b_K_found 6 none (kx_rm 6) V [.ref (kc_ad V 0), .int p0, .int p1, .int p2, .int p3] σ tag none σ') (ht : tag = 0 ∨ tag = 1 ∨ tag = 3) : kw_Met l y_L_found b_L_found 6 (some .int) [(0, 9, 12, 19), (0, 9, 16, 13)] (kx_rm 7) V [.ref (kc_ad V 0), .int p0, .int p1, .int p2, .int p3] σ (some (.int (kw_c_found tag))) (if tag = 0 then σ' else σ) := by
  refine kw_of (by decide) (Nat.le_of_ble_eq_true rfl) hV.ok (fun C hl hC hG => ?_)
  subst hl
  show kc_Go C V 6 (0, 0) (kw_E C V (some (.int (kw_c_found tag))) (if tag = 0 then σ' else σ)) σ 0 [(0, .ref (kc_ad V 0)), (1, .int p0), (2, .int p1), (3, .int p2), (4, .int p3)] []
  refine kg_aload_n hC d_L_found_0 0 rfl ?_
  refine kg_iload_n hC d_L_found_1 1 rfl ?_
  refine kg_iload_n hC d_L_found_2 2 rfl ?_
  refine kg_iload_n hC d_L_found_3 3 rfl ?_
  refine kg_iload hC d_L_found_4 4 rfl ?_
  by_cases h0 : tag = 0
  · refine kw_ok hC hG hM h0 cal_K_found tw_217 tw_218 tw_216 (ko_0 hV) rfl rfl (by decide) (rest := []) rfl (Nat.le_of_ble_eq_true rfl) d_L_found_6 ?_
    show kc_Go C V 6 (1, 6) (kw_E C V (some (.int (kw_c_found tag))) (if tag = 0 then σ' else σ)) σ' 9 [(0, .ref (kc_ad V 0)), (1, .int p0), (2, .int p1), (3, .int p2), (4, .int p3)] []
    refine kg_goto hC d_L_found_9 (tgt := 20) rfl ?_
    refine kg_iconst hC d_L_found_20 kn_i_0 ?_
    exact kw_iret hC d_L_found_21 (by rw [kw_c_found, if_pos h0]) (by rw [if_pos h0])
  · rcases ht with h | h | h
    · exact absurd h h0
    · subst h
      refine kw_catch hC hG hM (by decide) cal_K_found tw_217 tw_218 tw_216 (ko_0 hV) rfl rfl (by decide) (rest := []) rfl (Nat.le_of_ble_eq_true rfl) d_L_found_6 [] ⟨0, 9, 12, 19⟩ [⟨0, 9, 16, 13⟩] rfl (fun w hw => absurd hw List.not_mem_nil) (by decide) (by decide) tw_215 (fun q => ?_)
      show kc_Go C V 6 (1, 6) (kw_E C V (some (.int (kw_c_found 1))) (if 1 = 0 then σ' else σ)) σ 12 [(0, .ref (kc_ad V 0)), (1, .int p0), (2, .int p1), (3, .int p2), (4, .int p3)] [.ref q]
      refine kg_astore hC d_L_found_12 [(5, .ref q), (0, .ref (kc_ad V 0)), (1, .int p0), (2, .int p1), (3, .int p2), (4, .int p3)] rfl (by decide) ?_
      refine kg_iconst hC d_L_found_14 kn_i_1 ?_
      exact kw_iret hC d_L_found_15 (by decide) (if_neg (by decide)).symm
    · subst h
      refine kw_catch hC hG hM (by decide) cal_K_found tw_217 tw_218 tw_216 (ko_0 hV) rfl rfl (by decide) (rest := []) rfl (Nat.le_of_ble_eq_true rfl) d_L_found_6 [⟨0, 9, 12, 19⟩] ⟨0, 9, 16, 13⟩ [] rfl (fun w hw => by
          rcases List.mem_cons.mp hw with rfl | hw
          · exact ⟨by decide, 1, by decide, by decide, tw_215⟩
          exact absurd hw List.not_mem_nil) (by decide) (by decide) tw_117 (fun q => ?_)
      show kc_Go C V 6 (1, 6) (kw_E C V (some (.int (kw_c_found 3))) (if 3 = 0 then σ' else σ)) σ 16 [(0, .ref (kc_ad V 0)), (1, .int p0), (2, .int p1), (3, .int p2), (4, .int p3)] [.ref q]
      refine kg_astore hC d_L_found_16 [(5, .ref q), (0, .ref (kc_ad V 0)), (1, .int p0), (2, .int p1), (3, .int p2), (4, .int p3)] rfl (by decide) ?_
      refine kg_iconst hC d_L_found_18 kn_i_2 ?_
      exact kw_iret hC d_L_found_19 (by decide) (if_neg (by decide)).symm
def kw_c_fault (t : Nat) : Int32 := if t = 0 then nI 0 else if t = 1 then nI 1 else if t = 2 then nI 2 else if t = 3 then nI 3 else nI 4
set_option maxHeartbeats 4000000 in
set_option maxRecDepth 100000 in
theorem kw_L_fault (l : Launch) {V : kc_V} (hV : kc_G V) (σ σ' : kc_Sg) (p0 : Int32) (p1 : Int32) (tag : Nat) (hM : kx_Met l y_K_fault b_K_fault 3 none (kx_rm 7) V [.ref (kc_ad V 0), .int p0, .int p1] σ tag none σ') (ht : tag = 0 ∨ tag = 1 ∨ tag = 2 ∨ tag = 3 ∨ tag = 4) : kw_Met l y_L_fault b_L_fault 4 (some .int) [(0, 6, 9, 19), (0, 6, 12, 25), (0, 6, 15, 13), (0, 6, 18, 27)] (kx_rm 8) V [.ref (kc_ad V 0), .int p0, .int p1] σ (some (.int (kw_c_fault tag))) (if tag = 0 then σ' else σ) := by
  refine kw_of (by decide) (Nat.le_of_ble_eq_true rfl) hV.ok (fun C hl hC hG => ?_)
  subst hl
  show kc_Go C V 4 (0, 0) (kw_E C V (some (.int (kw_c_fault tag))) (if tag = 0 then σ' else σ)) σ 0 [(0, .ref (kc_ad V 0)), (1, .int p0), (2, .int p1)] []
  refine kg_aload_n hC d_L_fault_0 0 rfl ?_
  refine kg_iload_n hC d_L_fault_1 1 rfl ?_
  refine kg_iload_n hC d_L_fault_2 2 rfl ?_
  by_cases h0 : tag = 0
  · refine kw_ok hC hG hM h0 cal_K_fault tw_273 tw_274 tw_272 (ko_0 hV) rfl rfl (by decide) (rest := []) rfl (Nat.le_of_ble_eq_true rfl) d_L_fault_3 ?_
    show kc_Go C V 4 (1, 6) (kw_E C V (some (.int (kw_c_fault tag))) (if tag = 0 then σ' else σ)) σ' 6 [(0, .ref (kc_ad V 0)), (1, .int p0), (2, .int p1)] []
    refine kg_goto hC d_L_fault_6 (tgt := 21) rfl ?_
    refine kg_iconst hC d_L_fault_21 kn_i_0 ?_
    exact kw_iret hC d_L_fault_22 (by rw [kw_c_fault, if_pos h0]) (by rw [if_pos h0])
  · rcases ht with h | h | h | h | h
    · exact absurd h h0
    · subst h
      refine kw_catch hC hG hM (by decide) cal_K_fault tw_273 tw_274 tw_272 (ko_0 hV) rfl rfl (by decide) (rest := []) rfl (Nat.le_of_ble_eq_true rfl) d_L_fault_3 [] ⟨0, 6, 9, 19⟩ [⟨0, 6, 12, 25⟩, ⟨0, 6, 15, 13⟩, ⟨0, 6, 18, 27⟩] rfl (fun w hw => absurd hw List.not_mem_nil) (by decide) (by decide) tw_215 (fun q => ?_)
      show kc_Go C V 4 (1, 6) (kw_E C V (some (.int (kw_c_fault 1))) (if 1 = 0 then σ' else σ)) σ 9 [(0, .ref (kc_ad V 0)), (1, .int p0), (2, .int p1)] [.ref q]
      refine kg_astore_n hC d_L_fault_9 [(3, .ref q), (0, .ref (kc_ad V 0)), (1, .int p0), (2, .int p1)] rfl (by decide) ?_
      refine kg_iconst hC d_L_fault_10 kn_i_1 ?_
      exact kw_iret hC d_L_fault_11 (by decide) (if_neg (by decide)).symm
    · subst h
      refine kw_catch hC hG hM (by decide) cal_K_fault tw_273 tw_274 tw_272 (ko_0 hV) rfl rfl (by decide) (rest := []) rfl (Nat.le_of_ble_eq_true rfl) d_L_fault_3 [⟨0, 6, 9, 19⟩] ⟨0, 6, 12, 25⟩ [⟨0, 6, 15, 13⟩, ⟨0, 6, 18, 27⟩] rfl (fun w hw => by
          rcases List.mem_cons.mp hw with rfl | hw
          · exact ⟨by decide, 1, by decide, by decide, tw_215⟩
          exact absurd hw List.not_mem_nil) (by decide) (by decide) tw_270 (fun q => ?_)
      show kc_Go C V 4 (1, 6) (kw_E C V (some (.int (kw_c_fault 2))) (if 2 = 0 then σ' else σ)) σ 12 [(0, .ref (kc_ad V 0)), (1, .int p0), (2, .int p1)] [.ref q]
      refine kg_astore_n hC d_L_fault_12 [(3, .ref q), (0, .ref (kc_ad V 0)), (1, .int p0), (2, .int p1)] rfl (by decide) ?_
      refine kg_iconst hC d_L_fault_13 kn_i_2 ?_
      exact kw_iret hC d_L_fault_14 (by decide) (if_neg (by decide)).symm
    · subst h
      refine kw_catch hC hG hM (by decide) cal_K_fault tw_273 tw_274 tw_272 (ko_0 hV) rfl rfl (by decide) (rest := []) rfl (Nat.le_of_ble_eq_true rfl) d_L_fault_3 [⟨0, 6, 9, 19⟩, ⟨0, 6, 12, 25⟩] ⟨0, 6, 15, 13⟩ [⟨0, 6, 18, 27⟩] rfl (fun w hw => by
          rcases List.mem_cons.mp hw with rfl | hw
          · exact ⟨by decide, 1, by decide, by decide, tw_215⟩
          rcases List.mem_cons.mp hw with rfl | hw
          · exact ⟨by decide, 2, by decide, by decide, tw_270⟩
          exact absurd hw List.not_mem_nil) (by decide) (by decide) tw_117 (fun q => ?_)
      show kc_Go C V 4 (1, 6) (kw_E C V (some (.int (kw_c_fault 3))) (if 3 = 0 then σ' else σ)) σ 15 [(0, .ref (kc_ad V 0)), (1, .int p0), (2, .int p1)] [.ref q]
      refine kg_astore_n hC d_L_fault_15 [(3, .ref q), (0, .ref (kc_ad V 0)), (1, .int p0), (2, .int p1)] rfl (by decide) ?_
      refine kg_iconst hC d_L_fault_16 kn_i_3 ?_
      exact kw_iret hC d_L_fault_17 (by decide) (if_neg (by decide)).symm
    · subst h
      refine kw_catch hC hG hM (by decide) cal_K_fault tw_273 tw_274 tw_272 (ko_0 hV) rfl rfl (by decide) (rest := []) rfl (Nat.le_of_ble_eq_true rfl) d_L_fault_3 [⟨0, 6, 9, 19⟩, ⟨0, 6, 12, 25⟩, ⟨0, 6, 15, 13⟩] ⟨0, 6, 18, 27⟩ [] rfl (fun w hw => by
          rcases List.mem_cons.mp hw with rfl | hw
          · exact ⟨by decide, 1, by decide, by decide, tw_215⟩
          rcases List.mem_cons.mp hw with rfl | hw
          · exact ⟨by decide, 2, by decide, by decide, tw_270⟩
          rcases List.mem_cons.mp hw with rfl | hw
          · exact ⟨by decide, 3, by decide, by decide, tw_117⟩
          exact absurd hw List.not_mem_nil) (by decide) (by decide) tw_271 (fun q => ?_)
      show kc_Go C V 4 (1, 6) (kw_E C V (some (.int (kw_c_fault 4))) (if 4 = 0 then σ' else σ)) σ 18 [(0, .ref (kc_ad V 0)), (1, .int p0), (2, .int p1)] [.ref q]
      refine kg_astore_n hC d_L_fault_18 [(3, .ref q), (0, .ref (kc_ad V 0)), (1, .int p0), (2, .int p1)] rfl (by decide) ?_
      refine kg_iconst hC d_L_fault_19 kn_i_4 ?_
      exact kw_iret hC d_L_fault_20 (by decide) (if_neg (by decide)).symm
def kw_c_deal (t : Nat) : Int32 := if t = 0 then nI 0 else if t = 1 then nI 1 else if t = 2 then nI 2 else if t = 3 then nI 3 else nI 4
set_option maxHeartbeats 4000000 in
set_option maxRecDepth 100000 in
theorem kw_L_deal (l : Launch) {V : kc_V} (hV : kc_G V) (σ σ' : kc_Sg) (p0 : Int32) (p1 : Int32) (p2 : Int32) (p3 : Int32) (tag : Nat) (hM : kx_Met l y_K_deal b_K_deal 5 none (kx_rm 7) V [.ref (kc_ad V 0), .int p0, .int p1, .int p2, .int p3] σ tag none σ') (ht : tag = 0 ∨ tag = 1 ∨ tag = 2 ∨ tag = 3 ∨ tag = 4) : kw_Met l y_L_deal b_L_deal 6 (some .int) [(0, 9, 12, 19), (0, 9, 16, 25), (0, 9, 20, 13), (0, 9, 24, 27)] (kx_rm 8) V [.ref (kc_ad V 0), .int p0, .int p1, .int p2, .int p3] σ (some (.int (kw_c_deal tag))) (if tag = 0 then σ' else σ) := by
  refine kw_of (by decide) (Nat.le_of_ble_eq_true rfl) hV.ok (fun C hl hC hG => ?_)
  subst hl
  show kc_Go C V 6 (0, 0) (kw_E C V (some (.int (kw_c_deal tag))) (if tag = 0 then σ' else σ)) σ 0 [(0, .ref (kc_ad V 0)), (1, .int p0), (2, .int p1), (3, .int p2), (4, .int p3)] []
  refine kg_aload_n hC d_L_deal_0 0 rfl ?_
  refine kg_iload_n hC d_L_deal_1 1 rfl ?_
  refine kg_iload_n hC d_L_deal_2 2 rfl ?_
  refine kg_iload_n hC d_L_deal_3 3 rfl ?_
  refine kg_iload hC d_L_deal_4 4 rfl ?_
  by_cases h0 : tag = 0
  · refine kw_ok hC hG hM h0 cal_K_deal tw_346 tw_347 tw_345 (ko_0 hV) rfl rfl (by decide) (rest := []) rfl (Nat.le_of_ble_eq_true rfl) d_L_deal_6 ?_
    show kc_Go C V 6 (1, 6) (kw_E C V (some (.int (kw_c_deal tag))) (if tag = 0 then σ' else σ)) σ' 9 [(0, .ref (kc_ad V 0)), (1, .int p0), (2, .int p1), (3, .int p2), (4, .int p3)] []
    refine kg_goto hC d_L_deal_9 (tgt := 28) rfl ?_
    refine kg_iconst hC d_L_deal_28 kn_i_0 ?_
    exact kw_iret hC d_L_deal_29 (by rw [kw_c_deal, if_pos h0]) (by rw [if_pos h0])
  · rcases ht with h | h | h | h | h
    · exact absurd h h0
    · subst h
      refine kw_catch hC hG hM (by decide) cal_K_deal tw_346 tw_347 tw_345 (ko_0 hV) rfl rfl (by decide) (rest := []) rfl (Nat.le_of_ble_eq_true rfl) d_L_deal_6 [] ⟨0, 9, 12, 19⟩ [⟨0, 9, 16, 25⟩, ⟨0, 9, 20, 13⟩, ⟨0, 9, 24, 27⟩] rfl (fun w hw => absurd hw List.not_mem_nil) (by decide) (by decide) tw_215 (fun q => ?_)
      show kc_Go C V 6 (1, 6) (kw_E C V (some (.int (kw_c_deal 1))) (if 1 = 0 then σ' else σ)) σ 12 [(0, .ref (kc_ad V 0)), (1, .int p0), (2, .int p1), (3, .int p2), (4, .int p3)] [.ref q]
      refine kg_astore hC d_L_deal_12 [(5, .ref q), (0, .ref (kc_ad V 0)), (1, .int p0), (2, .int p1), (3, .int p2), (4, .int p3)] rfl (by decide) ?_
      refine kg_iconst hC d_L_deal_14 kn_i_1 ?_
      exact kw_iret hC d_L_deal_15 (by decide) (if_neg (by decide)).symm
    · subst h
      refine kw_catch hC hG hM (by decide) cal_K_deal tw_346 tw_347 tw_345 (ko_0 hV) rfl rfl (by decide) (rest := []) rfl (Nat.le_of_ble_eq_true rfl) d_L_deal_6 [⟨0, 9, 12, 19⟩] ⟨0, 9, 16, 25⟩ [⟨0, 9, 20, 13⟩, ⟨0, 9, 24, 27⟩] rfl (fun w hw => by
          rcases List.mem_cons.mp hw with rfl | hw
          · exact ⟨by decide, 1, by decide, by decide, tw_215⟩
          exact absurd hw List.not_mem_nil) (by decide) (by decide) tw_270 (fun q => ?_)
      show kc_Go C V 6 (1, 6) (kw_E C V (some (.int (kw_c_deal 2))) (if 2 = 0 then σ' else σ)) σ 16 [(0, .ref (kc_ad V 0)), (1, .int p0), (2, .int p1), (3, .int p2), (4, .int p3)] [.ref q]
      refine kg_astore hC d_L_deal_16 [(5, .ref q), (0, .ref (kc_ad V 0)), (1, .int p0), (2, .int p1), (3, .int p2), (4, .int p3)] rfl (by decide) ?_
      refine kg_iconst hC d_L_deal_18 kn_i_2 ?_
      exact kw_iret hC d_L_deal_19 (by decide) (if_neg (by decide)).symm
    · subst h
      refine kw_catch hC hG hM (by decide) cal_K_deal tw_346 tw_347 tw_345 (ko_0 hV) rfl rfl (by decide) (rest := []) rfl (Nat.le_of_ble_eq_true rfl) d_L_deal_6 [⟨0, 9, 12, 19⟩, ⟨0, 9, 16, 25⟩] ⟨0, 9, 20, 13⟩ [⟨0, 9, 24, 27⟩] rfl (fun w hw => by
          rcases List.mem_cons.mp hw with rfl | hw
          · exact ⟨by decide, 1, by decide, by decide, tw_215⟩
          rcases List.mem_cons.mp hw with rfl | hw
          · exact ⟨by decide, 2, by decide, by decide, tw_270⟩
          exact absurd hw List.not_mem_nil) (by decide) (by decide) tw_117 (fun q => ?_)
      show kc_Go C V 6 (1, 6) (kw_E C V (some (.int (kw_c_deal 3))) (if 3 = 0 then σ' else σ)) σ 20 [(0, .ref (kc_ad V 0)), (1, .int p0), (2, .int p1), (3, .int p2), (4, .int p3)] [.ref q]
      refine kg_astore hC d_L_deal_20 [(5, .ref q), (0, .ref (kc_ad V 0)), (1, .int p0), (2, .int p1), (3, .int p2), (4, .int p3)] rfl (by decide) ?_
      refine kg_iconst hC d_L_deal_22 kn_i_3 ?_
      exact kw_iret hC d_L_deal_23 (by decide) (if_neg (by decide)).symm
    · subst h
      refine kw_catch hC hG hM (by decide) cal_K_deal tw_346 tw_347 tw_345 (ko_0 hV) rfl rfl (by decide) (rest := []) rfl (Nat.le_of_ble_eq_true rfl) d_L_deal_6 [⟨0, 9, 12, 19⟩, ⟨0, 9, 16, 25⟩, ⟨0, 9, 20, 13⟩] ⟨0, 9, 24, 27⟩ [] rfl (fun w hw => by
          rcases List.mem_cons.mp hw with rfl | hw
          · exact ⟨by decide, 1, by decide, by decide, tw_215⟩
          rcases List.mem_cons.mp hw with rfl | hw
          · exact ⟨by decide, 2, by decide, by decide, tw_270⟩
          rcases List.mem_cons.mp hw with rfl | hw
          · exact ⟨by decide, 3, by decide, by decide, tw_117⟩
          exact absurd hw List.not_mem_nil) (by decide) (by decide) tw_271 (fun q => ?_)
      show kc_Go C V 6 (1, 6) (kw_E C V (some (.int (kw_c_deal 4))) (if 4 = 0 then σ' else σ)) σ 24 [(0, .ref (kc_ad V 0)), (1, .int p0), (2, .int p1), (3, .int p2), (4, .int p3)] [.ref q]
      refine kg_astore hC d_L_deal_24 [(5, .ref q), (0, .ref (kc_ad V 0)), (1, .int p0), (2, .int p1), (3, .int p2), (4, .int p3)] rfl (by decide) ?_
      refine kg_iconst hC d_L_deal_26 kn_i_4 ?_
      exact kw_iret hC d_L_deal_27 (by decide) (if_neg (by decide)).symm
def kw_c_look (t : Nat) : Int32 := if t = 0 then nI 0 else if t = 1 then nI 1 else if t = 2 then nI 2 else nI 3
set_option maxHeartbeats 4000000 in
set_option maxRecDepth 100000 in
theorem kw_L_look (l : Launch) {V : kc_V} (hV : kc_G V) (σ σ' : kc_Sg) (p0 : Int32) (tag : Nat) (v : Int32) (hM : kx_Met l y_K_look b_K_look 5 (some .int) (kx_rm 7) V [.ref (kc_ad V 0), .int p0] σ tag (some (.int v)) σ') (ht : tag = 0 ∨ tag = 1 ∨ tag = 2 ∨ tag = 4) : kw_Met l y_L_look b_L_look 4 (some .int) [(0, 9, 12, 19), (0, 9, 15, 25), (0, 9, 18, 27)] (kx_rm 8) V [.ref (kc_ad V 0), .int p0, .ref (kc_ad V 50)] σ (some (.int (kw_c_look tag))) (if tag = 0 then (kc_up σ' 50 0 v) else σ) := by
  refine kw_of (by decide) (Nat.le_of_ble_eq_true rfl) hV.ok (fun C hl hC hG => ?_)
  subst hl
  show kc_Go C V 4 (0, 0) (kw_E C V (some (.int (kw_c_look tag))) (if tag = 0 then (kc_up σ' 50 0 v) else σ)) σ 0 [(0, .ref (kc_ad V 0)), (1, .int p0), (2, .ref (kc_ad V 50))] []
  refine kg_aload_n hC d_L_look_0 2 rfl ?_
  refine kg_iconst hC d_L_look_1 kn_i_0 ?_
  refine kg_aload_n hC d_L_look_2 0 rfl ?_
  refine kg_iload_n hC d_L_look_3 1 rfl ?_
  by_cases h0 : tag = 0
  · refine kw_ok hC hG hM h0 cal_K_look tw_396 tw_397 tw_395 (ko_0 hV) rfl rfl (by decide) (rest := [.int (nI 0), .ref (kc_ad V 50)]) rfl (Nat.le_of_ble_eq_true rfl) d_L_look_4 ?_
    show kc_Go C V 4 (1, 6) (kw_E C V (some (.int (kw_c_look tag))) (if tag = 0 then (kc_up σ' 50 0 v) else σ)) σ' 7 [(0, .ref (kc_ad V 0)), (1, .int p0), (2, .ref (kc_ad V 50))] [.int v, .int (nI 0), .ref (kc_ad V 50)]
    refine kg_i2l hC d_L_look_7 ?_
    refine kg_last hC (ka_50 hV) (i := 0) rfl (by decide) d_L_look_8 ?_
    refine kg_goto hC d_L_look_9 (tgt := 21) rfl ?_
    refine kg_iconst hC d_L_look_21 kn_i_0 ?_
    exact kw_iret hC d_L_look_22 (by rw [kw_c_look, if_pos h0]) (by rw [if_pos h0])
  · rcases ht with h | h | h | h
    · exact absurd h h0
    · subst h
      refine kw_catch hC hG hM (by decide) cal_K_look tw_396 tw_397 tw_395 (ko_0 hV) rfl rfl (by decide) (rest := [.int (nI 0), .ref (kc_ad V 50)]) rfl (Nat.le_of_ble_eq_true rfl) d_L_look_4 [] ⟨0, 9, 12, 19⟩ [⟨0, 9, 15, 25⟩, ⟨0, 9, 18, 27⟩] rfl (fun w hw => absurd hw List.not_mem_nil) (by decide) (by decide) tw_215 (fun q => ?_)
      show kc_Go C V 4 (1, 6) (kw_E C V (some (.int (kw_c_look 1))) (if 1 = 0 then (kc_up σ' 50 0 v) else σ)) σ 12 [(0, .ref (kc_ad V 0)), (1, .int p0), (2, .ref (kc_ad V 50))] [.ref q]
      refine kg_astore_n hC d_L_look_12 [(3, .ref q), (0, .ref (kc_ad V 0)), (1, .int p0), (2, .ref (kc_ad V 50))] rfl (by decide) ?_
      refine kg_iconst hC d_L_look_13 kn_i_1 ?_
      exact kw_iret hC d_L_look_14 (by decide) (if_neg (by decide)).symm
    · subst h
      refine kw_catch hC hG hM (by decide) cal_K_look tw_396 tw_397 tw_395 (ko_0 hV) rfl rfl (by decide) (rest := [.int (nI 0), .ref (kc_ad V 50)]) rfl (Nat.le_of_ble_eq_true rfl) d_L_look_4 [⟨0, 9, 12, 19⟩] ⟨0, 9, 15, 25⟩ [⟨0, 9, 18, 27⟩] rfl (fun w hw => by
          rcases List.mem_cons.mp hw with rfl | hw
          · exact ⟨by decide, 1, by decide, by decide, tw_215⟩
          exact absurd hw List.not_mem_nil) (by decide) (by decide) tw_270 (fun q => ?_)
      show kc_Go C V 4 (1, 6) (kw_E C V (some (.int (kw_c_look 2))) (if 2 = 0 then (kc_up σ' 50 0 v) else σ)) σ 15 [(0, .ref (kc_ad V 0)), (1, .int p0), (2, .ref (kc_ad V 50))] [.ref q]
      refine kg_astore_n hC d_L_look_15 [(3, .ref q), (0, .ref (kc_ad V 0)), (1, .int p0), (2, .ref (kc_ad V 50))] rfl (by decide) ?_
      refine kg_iconst hC d_L_look_16 kn_i_2 ?_
      exact kw_iret hC d_L_look_17 (by decide) (if_neg (by decide)).symm
    · subst h
      refine kw_catch hC hG hM (by decide) cal_K_look tw_396 tw_397 tw_395 (ko_0 hV) rfl rfl (by decide) (rest := [.int (nI 0), .ref (kc_ad V 50)]) rfl (Nat.le_of_ble_eq_true rfl) d_L_look_4 [⟨0, 9, 12, 19⟩, ⟨0, 9, 15, 25⟩] ⟨0, 9, 18, 27⟩ [] rfl (fun w hw => by
          rcases List.mem_cons.mp hw with rfl | hw
          · exact ⟨by decide, 1, by decide, by decide, tw_215⟩
          rcases List.mem_cons.mp hw with rfl | hw
          · exact ⟨by decide, 2, by decide, by decide, tw_270⟩
          exact absurd hw List.not_mem_nil) (by decide) (by decide) tw_271 (fun q => ?_)
      show kc_Go C V 4 (1, 6) (kw_E C V (some (.int (kw_c_look 4))) (if 4 = 0 then (kc_up σ' 50 0 v) else σ)) σ 18 [(0, .ref (kc_ad V 0)), (1, .int p0), (2, .ref (kc_ad V 50))] [.ref q]
      refine kg_astore_n hC d_L_look_18 [(3, .ref q), (0, .ref (kc_ad V 0)), (1, .int p0), (2, .ref (kc_ad V 50))] rfl (by decide) ?_
      refine kg_iconst hC d_L_look_19 kn_i_3 ?_
      exact kw_iret hC d_L_look_20 (by decide) (if_neg (by decide)).symm
def kw_c_answer (t : Nat) : Int32 := if t = 0 then nI 0 else if t = 1 then nI 1 else if t = 2 then nI 2 else if t = 3 then nI 3 else nI 4
set_option maxHeartbeats 4000000 in
set_option maxRecDepth 100000 in
theorem kw_L_answer (l : Launch) {V : kc_V} (hV : kc_G V) (σ σ' : kc_Sg) (p0 : Int32) (p1 : Int32) (tag : Nat) (v : Int32) (hM : kx_Met l y_K_answer b_K_answer 4 (some .boolean) (kx_rm 7) V [.ref (kc_ad V 0), .int p0, .int p1] σ tag (some (.int v)) σ') (ht : tag = 0 ∨ tag = 1 ∨ tag = 2 ∨ tag = 3 ∨ tag = 4) : kw_Met l y_L_answer b_L_answer 5 (some .int) [(0, 17, 20, 19), (0, 17, 24, 25), (0, 17, 28, 13), (0, 17, 32, 27)] (kx_rm 8) V [.ref (kc_ad V 0), .int p0, .int p1, .ref (kc_ad V 50)] σ (some (.int (kw_c_answer tag))) (if tag = 0 then (kc_up σ' 50 0 (if v = 0 then nI 0 else nI 1)) else σ) := by
  refine kw_of (by decide) (Nat.le_of_ble_eq_true rfl) hV.ok (fun C hl hC hG => ?_)
  subst hl
  show kc_Go C V 5 (0, 0) (kw_E C V (some (.int (kw_c_answer tag))) (if tag = 0 then (kc_up σ' 50 0 (if v = 0 then nI 0 else nI 1)) else σ)) σ 0 [(0, .ref (kc_ad V 0)), (1, .int p0), (2, .int p1), (3, .ref (kc_ad V 50))] []
  refine kg_aload_n hC d_L_answer_0 3 rfl ?_
  refine kg_iconst hC d_L_answer_1 kn_i_0 ?_
  refine kg_aload_n hC d_L_answer_2 0 rfl ?_
  refine kg_iload_n hC d_L_answer_3 1 rfl ?_
  refine kg_iload_n hC d_L_answer_4 2 rfl ?_
  by_cases h0 : tag = 0
  · refine kw_ok hC hG hM h0 cal_K_answer tw_430 tw_431 tw_429 (ko_0 hV) rfl rfl (by decide) (rest := [.int (nI 0), .ref (kc_ad V 50)]) rfl (Nat.le_of_ble_eq_true rfl) d_L_answer_5 ?_
    show kc_Go C V 5 (1, 6) (kw_E C V (some (.int (kw_c_answer tag))) (if tag = 0 then (kc_up σ' 50 0 (if v = 0 then nI 0 else nI 1)) else σ)) σ' 8 [(0, .ref (kc_ad V 0)), (1, .int p0), (2, .int p1), (3, .ref (kc_ad V 50))] [.int v, .int (nI 0), .ref (kc_ad V 50)]
    refine kg_if_eq hC d_L_answer_8 (tgt := 15) rfl (fun h8 => ?_) (fun h8 => ?_)
    · refine kg_lconst hC d_L_answer_15 kn_l_0 ?_
      refine kg_topl (x' := (Int32.toInt64 (nI 0))) (by decide +kernel) ?_
      refine kg_last hC (ka_50 hV) (i := 0) rfl (by decide) d_L_answer_16 ?_
      refine kg_goto hC d_L_answer_17 (tgt := 36) rfl ?_
      refine kg_iconst hC d_L_answer_36 kn_i_0 ?_
      exact kw_iret hC d_L_answer_37 (by rw [kw_c_answer, if_pos h0]) (by rw [if_pos h0, if_pos h8])
    · refine kg_lconst hC d_L_answer_11 kn_l_1 ?_
      refine kg_topl (x' := (Int32.toInt64 (nI 1))) (by decide +kernel) ?_
      refine kg_goto hC d_L_answer_12 (tgt := 16) rfl ?_
      refine kg_last hC (ka_50 hV) (i := 0) rfl (by decide) d_L_answer_16 ?_
      refine kg_goto hC d_L_answer_17 (tgt := 36) rfl ?_
      refine kg_iconst hC d_L_answer_36 kn_i_0 ?_
      exact kw_iret hC d_L_answer_37 (by rw [kw_c_answer, if_pos h0]) (by rw [if_pos h0, if_neg h8])
  · rcases ht with h | h | h | h | h
    · exact absurd h h0
    · subst h
      refine kw_catch hC hG hM (by decide) cal_K_answer tw_430 tw_431 tw_429 (ko_0 hV) rfl rfl (by decide) (rest := [.int (nI 0), .ref (kc_ad V 50)]) rfl (Nat.le_of_ble_eq_true rfl) d_L_answer_5 [] ⟨0, 17, 20, 19⟩ [⟨0, 17, 24, 25⟩, ⟨0, 17, 28, 13⟩, ⟨0, 17, 32, 27⟩] rfl (fun w hw => absurd hw List.not_mem_nil) (by decide) (by decide) tw_215 (fun q => ?_)
      show kc_Go C V 5 (1, 6) (kw_E C V (some (.int (kw_c_answer 1))) (if 1 = 0 then (kc_up σ' 50 0 (if v = 0 then nI 0 else nI 1)) else σ)) σ 20 [(0, .ref (kc_ad V 0)), (1, .int p0), (2, .int p1), (3, .ref (kc_ad V 50))] [.ref q]
      refine kg_astore hC d_L_answer_20 [(4, .ref q), (0, .ref (kc_ad V 0)), (1, .int p0), (2, .int p1), (3, .ref (kc_ad V 50))] rfl (by decide) ?_
      refine kg_iconst hC d_L_answer_22 kn_i_1 ?_
      exact kw_iret hC d_L_answer_23 (by decide) (if_neg (by decide)).symm
    · subst h
      refine kw_catch hC hG hM (by decide) cal_K_answer tw_430 tw_431 tw_429 (ko_0 hV) rfl rfl (by decide) (rest := [.int (nI 0), .ref (kc_ad V 50)]) rfl (Nat.le_of_ble_eq_true rfl) d_L_answer_5 [⟨0, 17, 20, 19⟩] ⟨0, 17, 24, 25⟩ [⟨0, 17, 28, 13⟩, ⟨0, 17, 32, 27⟩] rfl (fun w hw => by
          rcases List.mem_cons.mp hw with rfl | hw
          · exact ⟨by decide, 1, by decide, by decide, tw_215⟩
          exact absurd hw List.not_mem_nil) (by decide) (by decide) tw_270 (fun q => ?_)
      show kc_Go C V 5 (1, 6) (kw_E C V (some (.int (kw_c_answer 2))) (if 2 = 0 then (kc_up σ' 50 0 (if v = 0 then nI 0 else nI 1)) else σ)) σ 24 [(0, .ref (kc_ad V 0)), (1, .int p0), (2, .int p1), (3, .ref (kc_ad V 50))] [.ref q]
      refine kg_astore hC d_L_answer_24 [(4, .ref q), (0, .ref (kc_ad V 0)), (1, .int p0), (2, .int p1), (3, .ref (kc_ad V 50))] rfl (by decide) ?_
      refine kg_iconst hC d_L_answer_26 kn_i_2 ?_
      exact kw_iret hC d_L_answer_27 (by decide) (if_neg (by decide)).symm
    · subst h
      refine kw_catch hC hG hM (by decide) cal_K_answer tw_430 tw_431 tw_429 (ko_0 hV) rfl rfl (by decide) (rest := [.int (nI 0), .ref (kc_ad V 50)]) rfl (Nat.le_of_ble_eq_true rfl) d_L_answer_5 [⟨0, 17, 20, 19⟩, ⟨0, 17, 24, 25⟩] ⟨0, 17, 28, 13⟩ [⟨0, 17, 32, 27⟩] rfl (fun w hw => by
          rcases List.mem_cons.mp hw with rfl | hw
          · exact ⟨by decide, 1, by decide, by decide, tw_215⟩
          rcases List.mem_cons.mp hw with rfl | hw
          · exact ⟨by decide, 2, by decide, by decide, tw_270⟩
          exact absurd hw List.not_mem_nil) (by decide) (by decide) tw_117 (fun q => ?_)
      show kc_Go C V 5 (1, 6) (kw_E C V (some (.int (kw_c_answer 3))) (if 3 = 0 then (kc_up σ' 50 0 (if v = 0 then nI 0 else nI 1)) else σ)) σ 28 [(0, .ref (kc_ad V 0)), (1, .int p0), (2, .int p1), (3, .ref (kc_ad V 50))] [.ref q]
      refine kg_astore hC d_L_answer_28 [(4, .ref q), (0, .ref (kc_ad V 0)), (1, .int p0), (2, .int p1), (3, .ref (kc_ad V 50))] rfl (by decide) ?_
      refine kg_iconst hC d_L_answer_30 kn_i_3 ?_
      exact kw_iret hC d_L_answer_31 (by decide) (if_neg (by decide)).symm
    · subst h
      refine kw_catch hC hG hM (by decide) cal_K_answer tw_430 tw_431 tw_429 (ko_0 hV) rfl rfl (by decide) (rest := [.int (nI 0), .ref (kc_ad V 50)]) rfl (Nat.le_of_ble_eq_true rfl) d_L_answer_5 [⟨0, 17, 20, 19⟩, ⟨0, 17, 24, 25⟩, ⟨0, 17, 28, 13⟩] ⟨0, 17, 32, 27⟩ [] rfl (fun w hw => by
          rcases List.mem_cons.mp hw with rfl | hw
          · exact ⟨by decide, 1, by decide, by decide, tw_215⟩
          rcases List.mem_cons.mp hw with rfl | hw
          · exact ⟨by decide, 2, by decide, by decide, tw_270⟩
          rcases List.mem_cons.mp hw with rfl | hw
          · exact ⟨by decide, 3, by decide, by decide, tw_117⟩
          exact absurd hw List.not_mem_nil) (by decide) (by decide) tw_271 (fun q => ?_)
      show kc_Go C V 5 (1, 6) (kw_E C V (some (.int (kw_c_answer 4))) (if 4 = 0 then (kc_up σ' 50 0 (if v = 0 then nI 0 else nI 1)) else σ)) σ 32 [(0, .ref (kc_ad V 0)), (1, .int p0), (2, .int p1), (3, .ref (kc_ad V 50))] [.ref q]
      refine kg_astore hC d_L_answer_32 [(4, .ref q), (0, .ref (kc_ad V 0)), (1, .int p0), (2, .int p1), (3, .ref (kc_ad V 50))] rfl (by decide) ?_
      refine kg_iconst hC d_L_answer_34 kn_i_4 ?_
      exact kw_iret hC d_L_answer_35 (by decide) (if_neg (by decide)).symm
def kw_c_close (t : Nat) : Int32 := if t = 0 then nI 0 else nI 1
set_option maxHeartbeats 4000000 in
set_option maxRecDepth 100000 in
theorem kw_L_close (l : Launch) {V : kc_V} (hV : kc_G V) (σ σ' : kc_Sg) (tag : Nat) (v : Int32) (hM : kx_Met l y_K_close b_K_close 3 (some .int) (kx_rm 7) V [.ref (kc_ad V 0)] σ tag (some (.int v)) σ') (ht : tag = 0 ∨ tag = 1) : kw_Met l y_L_close b_L_close 3 (some .int) [(0, 8, 11, 19)] (kx_rm 8) V [.ref (kc_ad V 0), .ref (kc_ad V 50)] σ (some (.int (kw_c_close tag))) (if tag = 0 then (kc_up σ' 50 0 v) else σ) := by
  refine kw_of (by decide) (Nat.le_of_ble_eq_true rfl) hV.ok (fun C hl hC hG => ?_)
  subst hl
  show kc_Go C V 3 (0, 0) (kw_E C V (some (.int (kw_c_close tag))) (if tag = 0 then (kc_up σ' 50 0 v) else σ)) σ 0 [(0, .ref (kc_ad V 0)), (1, .ref (kc_ad V 50))] []
  refine kg_aload_n hC d_L_close_0 1 rfl ?_
  refine kg_iconst hC d_L_close_1 kn_i_0 ?_
  refine kg_aload_n hC d_L_close_2 0 rfl ?_
  by_cases h0 : tag = 0
  · refine kw_ok hC hG hM h0 cal_K_close tw_449 tw_450 tw_448 (ko_0 hV) rfl rfl (by decide) (rest := [.int (nI 0), .ref (kc_ad V 50)]) rfl (Nat.le_of_ble_eq_true rfl) d_L_close_3 ?_
    show kc_Go C V 3 (1, 6) (kw_E C V (some (.int (kw_c_close tag))) (if tag = 0 then (kc_up σ' 50 0 v) else σ)) σ' 6 [(0, .ref (kc_ad V 0)), (1, .ref (kc_ad V 50))] [.int v, .int (nI 0), .ref (kc_ad V 50)]
    refine kg_i2l hC d_L_close_6 ?_
    refine kg_last hC (ka_50 hV) (i := 0) rfl (by decide) d_L_close_7 ?_
    refine kg_goto hC d_L_close_8 (tgt := 14) rfl ?_
    refine kg_iconst hC d_L_close_14 kn_i_0 ?_
    exact kw_iret hC d_L_close_15 (by rw [kw_c_close, if_pos h0]) (by rw [if_pos h0])
  · rcases ht with h | h
    · exact absurd h h0
    · subst h
      refine kw_catch hC hG hM (by decide) cal_K_close tw_449 tw_450 tw_448 (ko_0 hV) rfl rfl (by decide) (rest := [.int (nI 0), .ref (kc_ad V 50)]) rfl (Nat.le_of_ble_eq_true rfl) d_L_close_3 [] ⟨0, 8, 11, 19⟩ [] rfl (fun w hw => absurd hw List.not_mem_nil) (by decide) (by decide) tw_215 (fun q => ?_)
      show kc_Go C V 3 (1, 6) (kw_E C V (some (.int (kw_c_close 1))) (if 1 = 0 then (kc_up σ' 50 0 v) else σ)) σ 11 [(0, .ref (kc_ad V 0)), (1, .ref (kc_ad V 50))] [.ref q]
      refine kg_astore_n hC d_L_close_11 [(2, .ref q), (0, .ref (kc_ad V 0)), (1, .ref (kc_ad V 50))] rfl (by decide) ?_
      refine kg_iconst hC d_L_close_12 kn_i_1 ?_
      exact kw_iret hC d_L_close_13 (by decide) (if_neg (by decide)).symm
def kw_c_wipe (t : Nat) : Int32 := if t = 0 then nI 0 else if t = 1 then nI 1 else if t = 2 then nI 2 else nI 3
set_option maxHeartbeats 4000000 in
set_option maxRecDepth 100000 in
theorem kw_L_wipe (l : Launch) {V : kc_V} (hV : kc_G V) (σ σ' : kc_Sg) (p0 : Int32) (tag : Nat) (hM : kx_Met l y_K_wipe b_K_wipe 2 none (kx_rm 7) V [.ref (kc_ad V 0), .int p0] σ tag none σ') (ht : tag = 0 ∨ tag = 1 ∨ tag = 2 ∨ tag = 4) : kw_Met l y_L_wipe b_L_wipe 3 (some .int) [(0, 5, 8, 19), (0, 5, 11, 25), (0, 5, 14, 27)] (kx_rm 8) V [.ref (kc_ad V 0), .int p0] σ (some (.int (kw_c_wipe tag))) (if tag = 0 then σ' else σ) := by
  refine kw_of (by decide) (Nat.le_of_ble_eq_true rfl) hV.ok (fun C hl hC hG => ?_)
  subst hl
  show kc_Go C V 3 (0, 0) (kw_E C V (some (.int (kw_c_wipe tag))) (if tag = 0 then σ' else σ)) σ 0 [(0, .ref (kc_ad V 0)), (1, .int p0)] []
  refine kg_aload_n hC d_L_wipe_0 0 rfl ?_
  refine kg_iload_n hC d_L_wipe_1 1 rfl ?_
  by_cases h0 : tag = 0
  · refine kw_ok hC hG hM h0 cal_K_wipe tw_474 tw_475 tw_473 (ko_0 hV) rfl rfl (by decide) (rest := []) rfl (Nat.le_of_ble_eq_true rfl) d_L_wipe_2 ?_
    show kc_Go C V 3 (1, 6) (kw_E C V (some (.int (kw_c_wipe tag))) (if tag = 0 then σ' else σ)) σ' 5 [(0, .ref (kc_ad V 0)), (1, .int p0)] []
    refine kg_goto hC d_L_wipe_5 (tgt := 17) rfl ?_
    refine kg_iconst hC d_L_wipe_17 kn_i_0 ?_
    exact kw_iret hC d_L_wipe_18 (by rw [kw_c_wipe, if_pos h0]) (by rw [if_pos h0])
  · rcases ht with h | h | h | h
    · exact absurd h h0
    · subst h
      refine kw_catch hC hG hM (by decide) cal_K_wipe tw_474 tw_475 tw_473 (ko_0 hV) rfl rfl (by decide) (rest := []) rfl (Nat.le_of_ble_eq_true rfl) d_L_wipe_2 [] ⟨0, 5, 8, 19⟩ [⟨0, 5, 11, 25⟩, ⟨0, 5, 14, 27⟩] rfl (fun w hw => absurd hw List.not_mem_nil) (by decide) (by decide) tw_215 (fun q => ?_)
      show kc_Go C V 3 (1, 6) (kw_E C V (some (.int (kw_c_wipe 1))) (if 1 = 0 then σ' else σ)) σ 8 [(0, .ref (kc_ad V 0)), (1, .int p0)] [.ref q]
      refine kg_astore_n hC d_L_wipe_8 [(2, .ref q), (0, .ref (kc_ad V 0)), (1, .int p0)] rfl (by decide) ?_
      refine kg_iconst hC d_L_wipe_9 kn_i_1 ?_
      exact kw_iret hC d_L_wipe_10 (by decide) (if_neg (by decide)).symm
    · subst h
      refine kw_catch hC hG hM (by decide) cal_K_wipe tw_474 tw_475 tw_473 (ko_0 hV) rfl rfl (by decide) (rest := []) rfl (Nat.le_of_ble_eq_true rfl) d_L_wipe_2 [⟨0, 5, 8, 19⟩] ⟨0, 5, 11, 25⟩ [⟨0, 5, 14, 27⟩] rfl (fun w hw => by
          rcases List.mem_cons.mp hw with rfl | hw
          · exact ⟨by decide, 1, by decide, by decide, tw_215⟩
          exact absurd hw List.not_mem_nil) (by decide) (by decide) tw_270 (fun q => ?_)
      show kc_Go C V 3 (1, 6) (kw_E C V (some (.int (kw_c_wipe 2))) (if 2 = 0 then σ' else σ)) σ 11 [(0, .ref (kc_ad V 0)), (1, .int p0)] [.ref q]
      refine kg_astore_n hC d_L_wipe_11 [(2, .ref q), (0, .ref (kc_ad V 0)), (1, .int p0)] rfl (by decide) ?_
      refine kg_iconst hC d_L_wipe_12 kn_i_2 ?_
      exact kw_iret hC d_L_wipe_13 (by decide) (if_neg (by decide)).symm
    · subst h
      refine kw_catch hC hG hM (by decide) cal_K_wipe tw_474 tw_475 tw_473 (ko_0 hV) rfl rfl (by decide) (rest := []) rfl (Nat.le_of_ble_eq_true rfl) d_L_wipe_2 [⟨0, 5, 8, 19⟩, ⟨0, 5, 11, 25⟩] ⟨0, 5, 14, 27⟩ [] rfl (fun w hw => by
          rcases List.mem_cons.mp hw with rfl | hw
          · exact ⟨by decide, 1, by decide, by decide, tw_215⟩
          rcases List.mem_cons.mp hw with rfl | hw
          · exact ⟨by decide, 2, by decide, by decide, tw_270⟩
          exact absurd hw List.not_mem_nil) (by decide) (by decide) tw_271 (fun q => ?_)
      show kc_Go C V 3 (1, 6) (kw_E C V (some (.int (kw_c_wipe 4))) (if 4 = 0 then σ' else σ)) σ 14 [(0, .ref (kc_ad V 0)), (1, .int p0)] [.ref q]
      refine kg_astore_n hC d_L_wipe_14 [(2, .ref q), (0, .ref (kc_ad V 0)), (1, .int p0)] rfl (by decide) ?_
      refine kg_iconst hC d_L_wipe_15 kn_i_3 ?_
      exact kw_iret hC d_L_wipe_16 (by decide) (if_neg (by decide)).symm
def kw_c_recover (t : Nat) : Int32 := if t = 0 then nI 0 else if t = 1 then nI 1 else if t = 2 then nI 2 else nI 3
set_option maxHeartbeats 4000000 in
set_option maxRecDepth 100000 in
theorem kw_L_recover (l : Launch) {V : kc_V} (hV : kc_G V) (σ σ' : kc_Sg) (p0 : Int32) (tag : Nat) (v : Int32) (hM : kx_Met l y_K_recover b_K_recover 4 (some .int) (kx_rm 7) V [.ref (kc_ad V 0), .int p0] σ tag (some (.int v)) σ') (ht : tag = 0 ∨ tag = 1 ∨ tag = 2 ∨ tag = 4) : kw_Met l y_L_recover b_L_recover 4 (some .int) [(0, 9, 12, 19), (0, 9, 15, 25), (0, 9, 18, 27)] (kx_rm 8) V [.ref (kc_ad V 0), .int p0, .ref (kc_ad V 50)] σ (some (.int (kw_c_recover tag))) (if tag = 0 then (kc_up σ' 50 0 v) else σ) := by
  refine kw_of (by decide) (Nat.le_of_ble_eq_true rfl) hV.ok (fun C hl hC hG => ?_)
  subst hl
  show kc_Go C V 4 (0, 0) (kw_E C V (some (.int (kw_c_recover tag))) (if tag = 0 then (kc_up σ' 50 0 v) else σ)) σ 0 [(0, .ref (kc_ad V 0)), (1, .int p0), (2, .ref (kc_ad V 50))] []
  refine kg_aload_n hC d_L_recover_0 2 rfl ?_
  refine kg_iconst hC d_L_recover_1 kn_i_0 ?_
  refine kg_aload_n hC d_L_recover_2 0 rfl ?_
  refine kg_iload_n hC d_L_recover_3 1 rfl ?_
  by_cases h0 : tag = 0
  · refine kw_ok hC hG hM h0 cal_K_recover tw_481 tw_482 tw_480 (ko_0 hV) rfl rfl (by decide) (rest := [.int (nI 0), .ref (kc_ad V 50)]) rfl (Nat.le_of_ble_eq_true rfl) d_L_recover_4 ?_
    show kc_Go C V 4 (1, 6) (kw_E C V (some (.int (kw_c_recover tag))) (if tag = 0 then (kc_up σ' 50 0 v) else σ)) σ' 7 [(0, .ref (kc_ad V 0)), (1, .int p0), (2, .ref (kc_ad V 50))] [.int v, .int (nI 0), .ref (kc_ad V 50)]
    refine kg_i2l hC d_L_recover_7 ?_
    refine kg_last hC (ka_50 hV) (i := 0) rfl (by decide) d_L_recover_8 ?_
    refine kg_goto hC d_L_recover_9 (tgt := 21) rfl ?_
    refine kg_iconst hC d_L_recover_21 kn_i_0 ?_
    exact kw_iret hC d_L_recover_22 (by rw [kw_c_recover, if_pos h0]) (by rw [if_pos h0])
  · rcases ht with h | h | h | h
    · exact absurd h h0
    · subst h
      refine kw_catch hC hG hM (by decide) cal_K_recover tw_481 tw_482 tw_480 (ko_0 hV) rfl rfl (by decide) (rest := [.int (nI 0), .ref (kc_ad V 50)]) rfl (Nat.le_of_ble_eq_true rfl) d_L_recover_4 [] ⟨0, 9, 12, 19⟩ [⟨0, 9, 15, 25⟩, ⟨0, 9, 18, 27⟩] rfl (fun w hw => absurd hw List.not_mem_nil) (by decide) (by decide) tw_215 (fun q => ?_)
      show kc_Go C V 4 (1, 6) (kw_E C V (some (.int (kw_c_recover 1))) (if 1 = 0 then (kc_up σ' 50 0 v) else σ)) σ 12 [(0, .ref (kc_ad V 0)), (1, .int p0), (2, .ref (kc_ad V 50))] [.ref q]
      refine kg_astore_n hC d_L_recover_12 [(3, .ref q), (0, .ref (kc_ad V 0)), (1, .int p0), (2, .ref (kc_ad V 50))] rfl (by decide) ?_
      refine kg_iconst hC d_L_recover_13 kn_i_1 ?_
      exact kw_iret hC d_L_recover_14 (by decide) (if_neg (by decide)).symm
    · subst h
      refine kw_catch hC hG hM (by decide) cal_K_recover tw_481 tw_482 tw_480 (ko_0 hV) rfl rfl (by decide) (rest := [.int (nI 0), .ref (kc_ad V 50)]) rfl (Nat.le_of_ble_eq_true rfl) d_L_recover_4 [⟨0, 9, 12, 19⟩] ⟨0, 9, 15, 25⟩ [⟨0, 9, 18, 27⟩] rfl (fun w hw => by
          rcases List.mem_cons.mp hw with rfl | hw
          · exact ⟨by decide, 1, by decide, by decide, tw_215⟩
          exact absurd hw List.not_mem_nil) (by decide) (by decide) tw_270 (fun q => ?_)
      show kc_Go C V 4 (1, 6) (kw_E C V (some (.int (kw_c_recover 2))) (if 2 = 0 then (kc_up σ' 50 0 v) else σ)) σ 15 [(0, .ref (kc_ad V 0)), (1, .int p0), (2, .ref (kc_ad V 50))] [.ref q]
      refine kg_astore_n hC d_L_recover_15 [(3, .ref q), (0, .ref (kc_ad V 0)), (1, .int p0), (2, .ref (kc_ad V 50))] rfl (by decide) ?_
      refine kg_iconst hC d_L_recover_16 kn_i_2 ?_
      exact kw_iret hC d_L_recover_17 (by decide) (if_neg (by decide)).symm
    · subst h
      refine kw_catch hC hG hM (by decide) cal_K_recover tw_481 tw_482 tw_480 (ko_0 hV) rfl rfl (by decide) (rest := [.int (nI 0), .ref (kc_ad V 50)]) rfl (Nat.le_of_ble_eq_true rfl) d_L_recover_4 [⟨0, 9, 12, 19⟩, ⟨0, 9, 15, 25⟩] ⟨0, 9, 18, 27⟩ [] rfl (fun w hw => by
          rcases List.mem_cons.mp hw with rfl | hw
          · exact ⟨by decide, 1, by decide, by decide, tw_215⟩
          rcases List.mem_cons.mp hw with rfl | hw
          · exact ⟨by decide, 2, by decide, by decide, tw_270⟩
          exact absurd hw List.not_mem_nil) (by decide) (by decide) tw_271 (fun q => ?_)
      show kc_Go C V 4 (1, 6) (kw_E C V (some (.int (kw_c_recover 4))) (if 4 = 0 then (kc_up σ' 50 0 v) else σ)) σ 18 [(0, .ref (kc_ad V 0)), (1, .int p0), (2, .ref (kc_ad V 50))] [.ref q]
      refine kg_astore_n hC d_L_recover_18 [(3, .ref q), (0, .ref (kc_ad V 0)), (1, .int p0), (2, .ref (kc_ad V 50))] rfl (by decide) ?_
      refine kg_iconst hC d_L_recover_19 kn_i_3 ?_
      exact kw_iret hC d_L_recover_20 (by decide) (if_neg (by decide)).symm
def kw_c_share (t : Nat) : Int32 := if t = 0 then nI 0 else if t = 1 then nI 1 else nI 2
set_option maxHeartbeats 4000000 in
set_option maxRecDepth 100000 in
theorem kw_L_share (l : Launch) {V : kc_V} (hV : kc_G V) (σ σ' : kc_Sg) (p0 : Int32) (tag : Nat) (v : Int32) (hM : kx_Met l y_K_share b_K_share 2 (some .int) (kx_rm 7) V [.ref (kc_ad V 0), .int p0] σ tag (some (.int v)) σ') (ht : tag = 0 ∨ tag = 1 ∨ tag = 2) : kw_Met l y_L_share b_L_share 4 (some .int) [(0, 9, 12, 19), (0, 9, 15, 25)] (kx_rm 8) V [.ref (kc_ad V 0), .int p0, .ref (kc_ad V 50)] σ (some (.int (kw_c_share tag))) (if tag = 0 then (kc_up σ' 50 0 v) else σ) := by
  refine kw_of (by decide) (Nat.le_of_ble_eq_true rfl) hV.ok (fun C hl hC hG => ?_)
  subst hl
  show kc_Go C V 4 (0, 0) (kw_E C V (some (.int (kw_c_share tag))) (if tag = 0 then (kc_up σ' 50 0 v) else σ)) σ 0 [(0, .ref (kc_ad V 0)), (1, .int p0), (2, .ref (kc_ad V 50))] []
  refine kg_aload_n hC d_L_share_0 2 rfl ?_
  refine kg_iconst hC d_L_share_1 kn_i_0 ?_
  refine kg_aload_n hC d_L_share_2 0 rfl ?_
  refine kg_iload_n hC d_L_share_3 1 rfl ?_
  by_cases h0 : tag = 0
  · refine kw_ok hC hG hM h0 cal_K_share tw_512 tw_513 tw_511 (ko_0 hV) rfl rfl (by decide) (rest := [.int (nI 0), .ref (kc_ad V 50)]) rfl (Nat.le_of_ble_eq_true rfl) d_L_share_4 ?_
    show kc_Go C V 4 (1, 6) (kw_E C V (some (.int (kw_c_share tag))) (if tag = 0 then (kc_up σ' 50 0 v) else σ)) σ' 7 [(0, .ref (kc_ad V 0)), (1, .int p0), (2, .ref (kc_ad V 50))] [.int v, .int (nI 0), .ref (kc_ad V 50)]
    refine kg_i2l hC d_L_share_7 ?_
    refine kg_last hC (ka_50 hV) (i := 0) rfl (by decide) d_L_share_8 ?_
    refine kg_goto hC d_L_share_9 (tgt := 18) rfl ?_
    refine kg_iconst hC d_L_share_18 kn_i_0 ?_
    exact kw_iret hC d_L_share_19 (by rw [kw_c_share, if_pos h0]) (by rw [if_pos h0])
  · rcases ht with h | h | h
    · exact absurd h h0
    · subst h
      refine kw_catch hC hG hM (by decide) cal_K_share tw_512 tw_513 tw_511 (ko_0 hV) rfl rfl (by decide) (rest := [.int (nI 0), .ref (kc_ad V 50)]) rfl (Nat.le_of_ble_eq_true rfl) d_L_share_4 [] ⟨0, 9, 12, 19⟩ [⟨0, 9, 15, 25⟩] rfl (fun w hw => absurd hw List.not_mem_nil) (by decide) (by decide) tw_215 (fun q => ?_)
      show kc_Go C V 4 (1, 6) (kw_E C V (some (.int (kw_c_share 1))) (if 1 = 0 then (kc_up σ' 50 0 v) else σ)) σ 12 [(0, .ref (kc_ad V 0)), (1, .int p0), (2, .ref (kc_ad V 50))] [.ref q]
      refine kg_astore_n hC d_L_share_12 [(3, .ref q), (0, .ref (kc_ad V 0)), (1, .int p0), (2, .ref (kc_ad V 50))] rfl (by decide) ?_
      refine kg_iconst hC d_L_share_13 kn_i_1 ?_
      exact kw_iret hC d_L_share_14 (by decide) (if_neg (by decide)).symm
    · subst h
      refine kw_catch hC hG hM (by decide) cal_K_share tw_512 tw_513 tw_511 (ko_0 hV) rfl rfl (by decide) (rest := [.int (nI 0), .ref (kc_ad V 50)]) rfl (Nat.le_of_ble_eq_true rfl) d_L_share_4 [⟨0, 9, 12, 19⟩] ⟨0, 9, 15, 25⟩ [] rfl (fun w hw => by
          rcases List.mem_cons.mp hw with rfl | hw
          · exact ⟨by decide, 1, by decide, by decide, tw_215⟩
          exact absurd hw List.not_mem_nil) (by decide) (by decide) tw_270 (fun q => ?_)
      show kc_Go C V 4 (1, 6) (kw_E C V (some (.int (kw_c_share 2))) (if 2 = 0 then (kc_up σ' 50 0 v) else σ)) σ 15 [(0, .ref (kc_ad V 0)), (1, .int p0), (2, .ref (kc_ad V 50))] [.ref q]
      refine kg_astore_n hC d_L_share_15 [(3, .ref q), (0, .ref (kc_ad V 0)), (1, .int p0), (2, .ref (kc_ad V 50))] rfl (by decide) ?_
      refine kg_iconst hC d_L_share_16 kn_i_2 ?_
      exact kw_iret hC d_L_share_17 (by decide) (if_neg (by decide)).symm
def kw_c_fits (t : Nat) : Int32 := if t = 0 then nI 0 else if t = 1 then nI 1 else nI 2
set_option maxHeartbeats 4000000 in
set_option maxRecDepth 100000 in
theorem kw_L_fits (l : Launch) {V : kc_V} (hV : kc_G V) (σ σ' : kc_Sg) (p0 : Int32) (tag : Nat) (v : Int32) (hM : kx_Met l y_K_fits b_K_fits 2 (some .boolean) (kx_rm 7) V [.ref (kc_ad V 0), .int p0] σ tag (some (.int v)) σ') (ht : tag = 0 ∨ tag = 1 ∨ tag = 2) : kw_Met l y_L_fits b_L_fits 4 (some .int) [(0, 16, 19, 19), (0, 16, 22, 25)] (kx_rm 8) V [.ref (kc_ad V 0), .int p0, .ref (kc_ad V 50)] σ (some (.int (kw_c_fits tag))) (if tag = 0 then (kc_up σ' 50 0 (if v = 0 then nI 0 else nI 1)) else σ) := by
  refine kw_of (by decide) (Nat.le_of_ble_eq_true rfl) hV.ok (fun C hl hC hG => ?_)
  subst hl
  show kc_Go C V 4 (0, 0) (kw_E C V (some (.int (kw_c_fits tag))) (if tag = 0 then (kc_up σ' 50 0 (if v = 0 then nI 0 else nI 1)) else σ)) σ 0 [(0, .ref (kc_ad V 0)), (1, .int p0), (2, .ref (kc_ad V 50))] []
  refine kg_aload_n hC d_L_fits_0 2 rfl ?_
  refine kg_iconst hC d_L_fits_1 kn_i_0 ?_
  refine kg_aload_n hC d_L_fits_2 0 rfl ?_
  refine kg_iload_n hC d_L_fits_3 1 rfl ?_
  by_cases h0 : tag = 0
  · refine kw_ok hC hG hM h0 cal_K_fits tw_519 tw_520 tw_518 (ko_0 hV) rfl rfl (by decide) (rest := [.int (nI 0), .ref (kc_ad V 50)]) rfl (Nat.le_of_ble_eq_true rfl) d_L_fits_4 ?_
    show kc_Go C V 4 (1, 6) (kw_E C V (some (.int (kw_c_fits tag))) (if tag = 0 then (kc_up σ' 50 0 (if v = 0 then nI 0 else nI 1)) else σ)) σ' 7 [(0, .ref (kc_ad V 0)), (1, .int p0), (2, .ref (kc_ad V 50))] [.int v, .int (nI 0), .ref (kc_ad V 50)]
    refine kg_if_eq hC d_L_fits_7 (tgt := 14) rfl (fun h7 => ?_) (fun h7 => ?_)
    · refine kg_lconst hC d_L_fits_14 kn_l_0 ?_
      refine kg_topl (x' := (Int32.toInt64 (nI 0))) (by decide +kernel) ?_
      refine kg_last hC (ka_50 hV) (i := 0) rfl (by decide) d_L_fits_15 ?_
      refine kg_goto hC d_L_fits_16 (tgt := 25) rfl ?_
      refine kg_iconst hC d_L_fits_25 kn_i_0 ?_
      exact kw_iret hC d_L_fits_26 (by rw [kw_c_fits, if_pos h0]) (by rw [if_pos h0, if_pos h7])
    · refine kg_lconst hC d_L_fits_10 kn_l_1 ?_
      refine kg_topl (x' := (Int32.toInt64 (nI 1))) (by decide +kernel) ?_
      refine kg_goto hC d_L_fits_11 (tgt := 15) rfl ?_
      refine kg_last hC (ka_50 hV) (i := 0) rfl (by decide) d_L_fits_15 ?_
      refine kg_goto hC d_L_fits_16 (tgt := 25) rfl ?_
      refine kg_iconst hC d_L_fits_25 kn_i_0 ?_
      exact kw_iret hC d_L_fits_26 (by rw [kw_c_fits, if_pos h0]) (by rw [if_pos h0, if_neg h7])
  · rcases ht with h | h | h
    · exact absurd h h0
    · subst h
      refine kw_catch hC hG hM (by decide) cal_K_fits tw_519 tw_520 tw_518 (ko_0 hV) rfl rfl (by decide) (rest := [.int (nI 0), .ref (kc_ad V 50)]) rfl (Nat.le_of_ble_eq_true rfl) d_L_fits_4 [] ⟨0, 16, 19, 19⟩ [⟨0, 16, 22, 25⟩] rfl (fun w hw => absurd hw List.not_mem_nil) (by decide) (by decide) tw_215 (fun q => ?_)
      show kc_Go C V 4 (1, 6) (kw_E C V (some (.int (kw_c_fits 1))) (if 1 = 0 then (kc_up σ' 50 0 (if v = 0 then nI 0 else nI 1)) else σ)) σ 19 [(0, .ref (kc_ad V 0)), (1, .int p0), (2, .ref (kc_ad V 50))] [.ref q]
      refine kg_astore_n hC d_L_fits_19 [(3, .ref q), (0, .ref (kc_ad V 0)), (1, .int p0), (2, .ref (kc_ad V 50))] rfl (by decide) ?_
      refine kg_iconst hC d_L_fits_20 kn_i_1 ?_
      exact kw_iret hC d_L_fits_21 (by decide) (if_neg (by decide)).symm
    · subst h
      refine kw_catch hC hG hM (by decide) cal_K_fits tw_519 tw_520 tw_518 (ko_0 hV) rfl rfl (by decide) (rest := [.int (nI 0), .ref (kc_ad V 50)]) rfl (Nat.le_of_ble_eq_true rfl) d_L_fits_4 [⟨0, 16, 19, 19⟩] ⟨0, 16, 22, 25⟩ [] rfl (fun w hw => by
          rcases List.mem_cons.mp hw with rfl | hw
          · exact ⟨by decide, 1, by decide, by decide, tw_215⟩
          exact absurd hw List.not_mem_nil) (by decide) (by decide) tw_270 (fun q => ?_)
      show kc_Go C V 4 (1, 6) (kw_E C V (some (.int (kw_c_fits 2))) (if 2 = 0 then (kc_up σ' 50 0 (if v = 0 then nI 0 else nI 1)) else σ)) σ 22 [(0, .ref (kc_ad V 0)), (1, .int p0), (2, .ref (kc_ad V 50))] [.ref q]
      refine kg_astore_n hC d_L_fits_22 [(3, .ref q), (0, .ref (kc_ad V 0)), (1, .int p0), (2, .ref (kc_ad V 50))] rfl (by decide) ?_
      refine kg_iconst hC d_L_fits_23 kn_i_2 ?_
      exact kw_iret hC d_L_fits_24 (by decide) (if_neg (by decide)).symm
def kw_c_sum (t : Nat) : Int32 := if t = 0 then nI 0 else if t = 1 then nI 1 else nI 2
set_option maxHeartbeats 4000000 in
set_option maxRecDepth 100000 in
theorem kw_L_sum (l : Launch) {V : kc_V} (hV : kc_G V) (σ σ' : kc_Sg) (p0 : Int32) (tag : Nat) (v : Int32) (hM : kx_Met l y_K_sum b_K_sum 2 (some .int) (kx_rm 7) V [.ref (kc_ad V 0), .int p0] σ tag (some (.int v)) σ') (ht : tag = 0 ∨ tag = 1 ∨ tag = 5) : kw_Met l y_L_sum b_L_sum 4 (some .int) [(0, 9, 12, 19), (0, 9, 15, 61)] (kx_rm 8) V [.ref (kc_ad V 0), .int p0, .ref (kc_ad V 50)] σ (some (.int (kw_c_sum tag))) (if tag = 0 then (kc_up σ' 50 0 v) else σ) := by
  refine kw_of (by decide) (Nat.le_of_ble_eq_true rfl) hV.ok (fun C hl hC hG => ?_)
  subst hl
  show kc_Go C V 4 (0, 0) (kw_E C V (some (.int (kw_c_sum tag))) (if tag = 0 then (kc_up σ' 50 0 v) else σ)) σ 0 [(0, .ref (kc_ad V 0)), (1, .int p0), (2, .ref (kc_ad V 50))] []
  refine kg_aload_n hC d_L_sum_0 2 rfl ?_
  refine kg_iconst hC d_L_sum_1 kn_i_0 ?_
  refine kg_aload_n hC d_L_sum_2 0 rfl ?_
  refine kg_iload_n hC d_L_sum_3 1 rfl ?_
  by_cases h0 : tag = 0
  · refine kw_ok hC hG hM h0 cal_K_sum tw_527 tw_528 tw_526 (ko_0 hV) rfl rfl (by decide) (rest := [.int (nI 0), .ref (kc_ad V 50)]) rfl (Nat.le_of_ble_eq_true rfl) d_L_sum_4 ?_
    show kc_Go C V 4 (1, 6) (kw_E C V (some (.int (kw_c_sum tag))) (if tag = 0 then (kc_up σ' 50 0 v) else σ)) σ' 7 [(0, .ref (kc_ad V 0)), (1, .int p0), (2, .ref (kc_ad V 50))] [.int v, .int (nI 0), .ref (kc_ad V 50)]
    refine kg_i2l hC d_L_sum_7 ?_
    refine kg_last hC (ka_50 hV) (i := 0) rfl (by decide) d_L_sum_8 ?_
    refine kg_goto hC d_L_sum_9 (tgt := 18) rfl ?_
    refine kg_iconst hC d_L_sum_18 kn_i_0 ?_
    exact kw_iret hC d_L_sum_19 (by rw [kw_c_sum, if_pos h0]) (by rw [if_pos h0])
  · rcases ht with h | h | h
    · exact absurd h h0
    · subst h
      refine kw_catch hC hG hM (by decide) cal_K_sum tw_527 tw_528 tw_526 (ko_0 hV) rfl rfl (by decide) (rest := [.int (nI 0), .ref (kc_ad V 50)]) rfl (Nat.le_of_ble_eq_true rfl) d_L_sum_4 [] ⟨0, 9, 12, 19⟩ [⟨0, 9, 15, 61⟩] rfl (fun w hw => absurd hw List.not_mem_nil) (by decide) (by decide) tw_215 (fun q => ?_)
      show kc_Go C V 4 (1, 6) (kw_E C V (some (.int (kw_c_sum 1))) (if 1 = 0 then (kc_up σ' 50 0 v) else σ)) σ 12 [(0, .ref (kc_ad V 0)), (1, .int p0), (2, .ref (kc_ad V 50))] [.ref q]
      refine kg_astore_n hC d_L_sum_12 [(3, .ref q), (0, .ref (kc_ad V 0)), (1, .int p0), (2, .ref (kc_ad V 50))] rfl (by decide) ?_
      refine kg_iconst hC d_L_sum_13 kn_i_1 ?_
      exact kw_iret hC d_L_sum_14 (by decide) (if_neg (by decide)).symm
    · subst h
      refine kw_catch hC hG hM (by decide) cal_K_sum tw_527 tw_528 tw_526 (ko_0 hV) rfl rfl (by decide) (rest := [.int (nI 0), .ref (kc_ad V 50)]) rfl (Nat.le_of_ble_eq_true rfl) d_L_sum_4 [⟨0, 9, 12, 19⟩] ⟨0, 9, 15, 61⟩ [] rfl (fun w hw => by
          rcases List.mem_cons.mp hw with rfl | hw
          · exact ⟨by decide, 1, by decide, by decide, tw_215⟩
          exact absurd hw List.not_mem_nil) (by decide) (by decide) tw_525 (fun q => ?_)
      show kc_Go C V 4 (1, 6) (kw_E C V (some (.int (kw_c_sum 5))) (if 5 = 0 then (kc_up σ' 50 0 v) else σ)) σ 15 [(0, .ref (kc_ad V 0)), (1, .int p0), (2, .ref (kc_ad V 50))] [.ref q]
      refine kg_astore_n hC d_L_sum_15 [(3, .ref q), (0, .ref (kc_ad V 0)), (1, .int p0), (2, .ref (kc_ad V 50))] rfl (by decide) ?_
      refine kg_iconst hC d_L_sum_16 kn_i_2 ?_
      exact kw_iret hC d_L_sum_17 (by decide) (if_neg (by decide)).symm
def kw_c_element (t : Nat) : Int32 := if t = 0 then nI 0 else if t = 1 then nI 1 else nI 2
set_option maxHeartbeats 4000000 in
set_option maxRecDepth 100000 in
theorem kw_L_element (l : Launch) {V : kc_V} (hV : kc_G V) (σ σ' : kc_Sg) (p0 : Int32) (tag : Nat) (v : Int32) (hM : kx_Met l y_K_element b_K_element 2 (some .int) (kx_rm 7) V [.ref (kc_ad V 0), .int p0] σ tag (some (.int v)) σ') (ht : tag = 0 ∨ tag = 1 ∨ tag = 2) : kw_Met l y_L_element b_L_element 4 (some .int) [(0, 9, 12, 19), (0, 9, 15, 25)] (kx_rm 8) V [.ref (kc_ad V 0), .int p0, .ref (kc_ad V 50)] σ (some (.int (kw_c_element tag))) (if tag = 0 then (kc_up σ' 50 0 v) else σ) := by
  refine kw_of (by decide) (Nat.le_of_ble_eq_true rfl) hV.ok (fun C hl hC hG => ?_)
  subst hl
  show kc_Go C V 4 (0, 0) (kw_E C V (some (.int (kw_c_element tag))) (if tag = 0 then (kc_up σ' 50 0 v) else σ)) σ 0 [(0, .ref (kc_ad V 0)), (1, .int p0), (2, .ref (kc_ad V 50))] []
  refine kg_aload_n hC d_L_element_0 2 rfl ?_
  refine kg_iconst hC d_L_element_1 kn_i_0 ?_
  refine kg_aload_n hC d_L_element_2 0 rfl ?_
  refine kg_iload_n hC d_L_element_3 1 rfl ?_
  by_cases h0 : tag = 0
  · refine kw_ok hC hG hM h0 cal_K_element tw_549 tw_550 tw_548 (ko_0 hV) rfl rfl (by decide) (rest := [.int (nI 0), .ref (kc_ad V 50)]) rfl (Nat.le_of_ble_eq_true rfl) d_L_element_4 ?_
    show kc_Go C V 4 (1, 6) (kw_E C V (some (.int (kw_c_element tag))) (if tag = 0 then (kc_up σ' 50 0 v) else σ)) σ' 7 [(0, .ref (kc_ad V 0)), (1, .int p0), (2, .ref (kc_ad V 50))] [.int v, .int (nI 0), .ref (kc_ad V 50)]
    refine kg_i2l hC d_L_element_7 ?_
    refine kg_last hC (ka_50 hV) (i := 0) rfl (by decide) d_L_element_8 ?_
    refine kg_goto hC d_L_element_9 (tgt := 18) rfl ?_
    refine kg_iconst hC d_L_element_18 kn_i_0 ?_
    exact kw_iret hC d_L_element_19 (by rw [kw_c_element, if_pos h0]) (by rw [if_pos h0])
  · rcases ht with h | h | h
    · exact absurd h h0
    · subst h
      refine kw_catch hC hG hM (by decide) cal_K_element tw_549 tw_550 tw_548 (ko_0 hV) rfl rfl (by decide) (rest := [.int (nI 0), .ref (kc_ad V 50)]) rfl (Nat.le_of_ble_eq_true rfl) d_L_element_4 [] ⟨0, 9, 12, 19⟩ [⟨0, 9, 15, 25⟩] rfl (fun w hw => absurd hw List.not_mem_nil) (by decide) (by decide) tw_215 (fun q => ?_)
      show kc_Go C V 4 (1, 6) (kw_E C V (some (.int (kw_c_element 1))) (if 1 = 0 then (kc_up σ' 50 0 v) else σ)) σ 12 [(0, .ref (kc_ad V 0)), (1, .int p0), (2, .ref (kc_ad V 50))] [.ref q]
      refine kg_astore_n hC d_L_element_12 [(3, .ref q), (0, .ref (kc_ad V 0)), (1, .int p0), (2, .ref (kc_ad V 50))] rfl (by decide) ?_
      refine kg_iconst hC d_L_element_13 kn_i_1 ?_
      exact kw_iret hC d_L_element_14 (by decide) (if_neg (by decide)).symm
    · subst h
      refine kw_catch hC hG hM (by decide) cal_K_element tw_549 tw_550 tw_548 (ko_0 hV) rfl rfl (by decide) (rest := [.int (nI 0), .ref (kc_ad V 50)]) rfl (Nat.le_of_ble_eq_true rfl) d_L_element_4 [⟨0, 9, 12, 19⟩] ⟨0, 9, 15, 25⟩ [] rfl (fun w hw => by
          rcases List.mem_cons.mp hw with rfl | hw
          · exact ⟨by decide, 1, by decide, by decide, tw_215⟩
          exact absurd hw List.not_mem_nil) (by decide) (by decide) tw_270 (fun q => ?_)
      show kc_Go C V 4 (1, 6) (kw_E C V (some (.int (kw_c_element 2))) (if 2 = 0 then (kc_up σ' 50 0 v) else σ)) σ 15 [(0, .ref (kc_ad V 0)), (1, .int p0), (2, .ref (kc_ad V 50))] [.ref q]
      refine kg_astore_n hC d_L_element_15 [(3, .ref q), (0, .ref (kc_ad V 0)), (1, .int p0), (2, .ref (kc_ad V 50))] rfl (by decide) ?_
      refine kg_iconst hC d_L_element_16 kn_i_2 ?_
      exact kw_iret hC d_L_element_17 (by decide) (if_neg (by decide)).symm
def kw_c_reconstruct (t : Nat) : Int32 := if t = 0 then nI 0 else if t = 1 then nI 1 else nI 2
set_option maxHeartbeats 4000000 in
set_option maxRecDepth 100000 in
theorem kw_L_reconstruct (l : Launch) {V : kc_V} (hV : kc_G V) (σ σ' : kc_Sg) (p0 : Int32) (tag : Nat) (v : Int32) (hM : kx_Met l y_K_reconstruct b_K_reconstruct 2 (some .int) (kx_rm 7) V [.ref (kc_ad V 0), .int p0] σ tag (some (.int v)) σ') (ht : tag = 0 ∨ tag = 1 ∨ tag = 3) : kw_Met l y_L_reconstruct b_L_reconstruct 4 (some .int) [(0, 9, 12, 19), (0, 9, 15, 13)] (kx_rm 8) V [.ref (kc_ad V 0), .int p0, .ref (kc_ad V 50)] σ (some (.int (kw_c_reconstruct tag))) (if tag = 0 then (kc_up σ' 50 0 v) else σ) := by
  refine kw_of (by decide) (Nat.le_of_ble_eq_true rfl) hV.ok (fun C hl hC hG => ?_)
  subst hl
  show kc_Go C V 4 (0, 0) (kw_E C V (some (.int (kw_c_reconstruct tag))) (if tag = 0 then (kc_up σ' 50 0 v) else σ)) σ 0 [(0, .ref (kc_ad V 0)), (1, .int p0), (2, .ref (kc_ad V 50))] []
  refine kg_aload_n hC d_L_reconstruct_0 2 rfl ?_
  refine kg_iconst hC d_L_reconstruct_1 kn_i_0 ?_
  refine kg_aload_n hC d_L_reconstruct_2 0 rfl ?_
  refine kg_iload_n hC d_L_reconstruct_3 1 rfl ?_
  by_cases h0 : tag = 0
  · refine kw_ok hC hG hM h0 cal_K_reconstruct tw_557 tw_558 tw_556 (ko_0 hV) rfl rfl (by decide) (rest := [.int (nI 0), .ref (kc_ad V 50)]) rfl (Nat.le_of_ble_eq_true rfl) d_L_reconstruct_4 ?_
    show kc_Go C V 4 (1, 6) (kw_E C V (some (.int (kw_c_reconstruct tag))) (if tag = 0 then (kc_up σ' 50 0 v) else σ)) σ' 7 [(0, .ref (kc_ad V 0)), (1, .int p0), (2, .ref (kc_ad V 50))] [.int v, .int (nI 0), .ref (kc_ad V 50)]
    refine kg_i2l hC d_L_reconstruct_7 ?_
    refine kg_last hC (ka_50 hV) (i := 0) rfl (by decide) d_L_reconstruct_8 ?_
    refine kg_goto hC d_L_reconstruct_9 (tgt := 18) rfl ?_
    refine kg_iconst hC d_L_reconstruct_18 kn_i_0 ?_
    exact kw_iret hC d_L_reconstruct_19 (by rw [kw_c_reconstruct, if_pos h0]) (by rw [if_pos h0])
  · rcases ht with h | h | h
    · exact absurd h h0
    · subst h
      refine kw_catch hC hG hM (by decide) cal_K_reconstruct tw_557 tw_558 tw_556 (ko_0 hV) rfl rfl (by decide) (rest := [.int (nI 0), .ref (kc_ad V 50)]) rfl (Nat.le_of_ble_eq_true rfl) d_L_reconstruct_4 [] ⟨0, 9, 12, 19⟩ [⟨0, 9, 15, 13⟩] rfl (fun w hw => absurd hw List.not_mem_nil) (by decide) (by decide) tw_215 (fun q => ?_)
      show kc_Go C V 4 (1, 6) (kw_E C V (some (.int (kw_c_reconstruct 1))) (if 1 = 0 then (kc_up σ' 50 0 v) else σ)) σ 12 [(0, .ref (kc_ad V 0)), (1, .int p0), (2, .ref (kc_ad V 50))] [.ref q]
      refine kg_astore_n hC d_L_reconstruct_12 [(3, .ref q), (0, .ref (kc_ad V 0)), (1, .int p0), (2, .ref (kc_ad V 50))] rfl (by decide) ?_
      refine kg_iconst hC d_L_reconstruct_13 kn_i_1 ?_
      exact kw_iret hC d_L_reconstruct_14 (by decide) (if_neg (by decide)).symm
    · subst h
      refine kw_catch hC hG hM (by decide) cal_K_reconstruct tw_557 tw_558 tw_556 (ko_0 hV) rfl rfl (by decide) (rest := [.int (nI 0), .ref (kc_ad V 50)]) rfl (Nat.le_of_ble_eq_true rfl) d_L_reconstruct_4 [⟨0, 9, 12, 19⟩] ⟨0, 9, 15, 13⟩ [] rfl (fun w hw => by
          rcases List.mem_cons.mp hw with rfl | hw
          · exact ⟨by decide, 1, by decide, by decide, tw_215⟩
          exact absurd hw List.not_mem_nil) (by decide) (by decide) tw_117 (fun q => ?_)
      show kc_Go C V 4 (1, 6) (kw_E C V (some (.int (kw_c_reconstruct 3))) (if 3 = 0 then (kc_up σ' 50 0 v) else σ)) σ 15 [(0, .ref (kc_ad V 0)), (1, .int p0), (2, .ref (kc_ad V 50))] [.ref q]
      refine kg_astore_n hC d_L_reconstruct_15 [(3, .ref q), (0, .ref (kc_ad V 0)), (1, .int p0), (2, .ref (kc_ad V 50))] rfl (by decide) ?_
      refine kg_iconst hC d_L_reconstruct_16 kn_i_2 ?_
      exact kw_iret hC d_L_reconstruct_17 (by decide) (if_neg (by decide)).symm
def kw_c_post (t : Nat) : Int32 := if t = 0 then nI 0 else if t = 1 then nI 1 else if t = 5 then nI 2 else nI 3
set_option maxHeartbeats 4000000 in
set_option maxRecDepth 100000 in
theorem kw_L_post (l : Launch) {V : kc_V} (hV : kc_G V) (σ σ' : kc_Sg) (p0 : Int32) (p1 : Int32) (tag : Nat) (v : Int32) (hM : kx_Met l y_K_post b_K_post 3 (some .int) (kx_rm 7) V [.ref (kc_ad V 0), .int p0, .int p1] σ tag (some (.int v)) σ') (ht : tag = 0 ∨ tag = 1 ∨ tag = 5 ∨ tag = 3) : kw_Met l y_L_post b_L_post 5 (some .int) [(0, 10, 13, 19), (0, 10, 17, 61), (0, 10, 21, 13)] (kx_rm 8) V [.ref (kc_ad V 0), .int p0, .int p1, .ref (kc_ad V 50)] σ (some (.int (kw_c_post tag))) (if tag = 0 then (kc_up σ' 50 0 v) else σ) := by
  refine kw_of (by decide) (Nat.le_of_ble_eq_true rfl) hV.ok (fun C hl hC hG => ?_)
  subst hl
  show kc_Go C V 5 (0, 0) (kw_E C V (some (.int (kw_c_post tag))) (if tag = 0 then (kc_up σ' 50 0 v) else σ)) σ 0 [(0, .ref (kc_ad V 0)), (1, .int p0), (2, .int p1), (3, .ref (kc_ad V 50))] []
  refine kg_aload_n hC d_L_post_0 3 rfl ?_
  refine kg_iconst hC d_L_post_1 kn_i_0 ?_
  refine kg_aload_n hC d_L_post_2 0 rfl ?_
  refine kg_iload_n hC d_L_post_3 1 rfl ?_
  refine kg_iload_n hC d_L_post_4 2 rfl ?_
  by_cases h0 : tag = 0
  · refine kw_ok hC hG hM h0 cal_K_post tw_568 tw_569 tw_567 (ko_0 hV) rfl rfl (by decide) (rest := [.int (nI 0), .ref (kc_ad V 50)]) rfl (Nat.le_of_ble_eq_true rfl) d_L_post_5 ?_
    show kc_Go C V 5 (1, 6) (kw_E C V (some (.int (kw_c_post tag))) (if tag = 0 then (kc_up σ' 50 0 v) else σ)) σ' 8 [(0, .ref (kc_ad V 0)), (1, .int p0), (2, .int p1), (3, .ref (kc_ad V 50))] [.int v, .int (nI 0), .ref (kc_ad V 50)]
    refine kg_i2l hC d_L_post_8 ?_
    refine kg_last hC (ka_50 hV) (i := 0) rfl (by decide) d_L_post_9 ?_
    refine kg_goto hC d_L_post_10 (tgt := 25) rfl ?_
    refine kg_iconst hC d_L_post_25 kn_i_0 ?_
    exact kw_iret hC d_L_post_26 (by rw [kw_c_post, if_pos h0]) (by rw [if_pos h0])
  · rcases ht with h | h | h | h
    · exact absurd h h0
    · subst h
      refine kw_catch hC hG hM (by decide) cal_K_post tw_568 tw_569 tw_567 (ko_0 hV) rfl rfl (by decide) (rest := [.int (nI 0), .ref (kc_ad V 50)]) rfl (Nat.le_of_ble_eq_true rfl) d_L_post_5 [] ⟨0, 10, 13, 19⟩ [⟨0, 10, 17, 61⟩, ⟨0, 10, 21, 13⟩] rfl (fun w hw => absurd hw List.not_mem_nil) (by decide) (by decide) tw_215 (fun q => ?_)
      show kc_Go C V 5 (1, 6) (kw_E C V (some (.int (kw_c_post 1))) (if 1 = 0 then (kc_up σ' 50 0 v) else σ)) σ 13 [(0, .ref (kc_ad V 0)), (1, .int p0), (2, .int p1), (3, .ref (kc_ad V 50))] [.ref q]
      refine kg_astore hC d_L_post_13 [(4, .ref q), (0, .ref (kc_ad V 0)), (1, .int p0), (2, .int p1), (3, .ref (kc_ad V 50))] rfl (by decide) ?_
      refine kg_iconst hC d_L_post_15 kn_i_1 ?_
      exact kw_iret hC d_L_post_16 (by decide) (if_neg (by decide)).symm
    · subst h
      refine kw_catch hC hG hM (by decide) cal_K_post tw_568 tw_569 tw_567 (ko_0 hV) rfl rfl (by decide) (rest := [.int (nI 0), .ref (kc_ad V 50)]) rfl (Nat.le_of_ble_eq_true rfl) d_L_post_5 [⟨0, 10, 13, 19⟩] ⟨0, 10, 17, 61⟩ [⟨0, 10, 21, 13⟩] rfl (fun w hw => by
          rcases List.mem_cons.mp hw with rfl | hw
          · exact ⟨by decide, 1, by decide, by decide, tw_215⟩
          exact absurd hw List.not_mem_nil) (by decide) (by decide) tw_525 (fun q => ?_)
      show kc_Go C V 5 (1, 6) (kw_E C V (some (.int (kw_c_post 5))) (if 5 = 0 then (kc_up σ' 50 0 v) else σ)) σ 17 [(0, .ref (kc_ad V 0)), (1, .int p0), (2, .int p1), (3, .ref (kc_ad V 50))] [.ref q]
      refine kg_astore hC d_L_post_17 [(4, .ref q), (0, .ref (kc_ad V 0)), (1, .int p0), (2, .int p1), (3, .ref (kc_ad V 50))] rfl (by decide) ?_
      refine kg_iconst hC d_L_post_19 kn_i_2 ?_
      exact kw_iret hC d_L_post_20 (by decide) (if_neg (by decide)).symm
    · subst h
      refine kw_catch hC hG hM (by decide) cal_K_post tw_568 tw_569 tw_567 (ko_0 hV) rfl rfl (by decide) (rest := [.int (nI 0), .ref (kc_ad V 50)]) rfl (Nat.le_of_ble_eq_true rfl) d_L_post_5 [⟨0, 10, 13, 19⟩, ⟨0, 10, 17, 61⟩] ⟨0, 10, 21, 13⟩ [] rfl (fun w hw => by
          rcases List.mem_cons.mp hw with rfl | hw
          · exact ⟨by decide, 1, by decide, by decide, tw_215⟩
          rcases List.mem_cons.mp hw with rfl | hw
          · exact ⟨by decide, 5, by decide, by decide, tw_525⟩
          exact absurd hw List.not_mem_nil) (by decide) (by decide) tw_117 (fun q => ?_)
      show kc_Go C V 5 (1, 6) (kw_E C V (some (.int (kw_c_post 3))) (if 3 = 0 then (kc_up σ' 50 0 v) else σ)) σ 21 [(0, .ref (kc_ad V 0)), (1, .int p0), (2, .int p1), (3, .ref (kc_ad V 50))] [.ref q]
      refine kg_astore hC d_L_post_21 [(4, .ref q), (0, .ref (kc_ad V 0)), (1, .int p0), (2, .int p1), (3, .ref (kc_ad V 50))] rfl (by decide) ?_
      refine kg_iconst hC d_L_post_23 kn_i_3 ?_
      exact kw_iret hC d_L_post_24 (by decide) (if_neg (by decide)).symm
def kw_c_about (t : Nat) : Int32 := if t = 0 then nI 0 else nI 1
set_option maxHeartbeats 4000000 in
set_option maxRecDepth 100000 in
theorem kw_L_about (l : Launch) {V : kc_V} (hV : kc_G V) (σ σ' : kc_Sg) (p0 : Int32) (tag : Nat) (v : Int32) (hM : kx_Met l y_K_about b_K_about 2 (some .int) (kx_rm 6) V [.ref (kc_ad V 0), .int p0] σ tag (some (.int v)) σ') (ht : tag = 0 ∨ tag = 3) : kw_Met l y_L_about b_L_about 4 (some .int) [(0, 9, 12, 13)] (kx_rm 7) V [.ref (kc_ad V 0), .int p0, .ref (kc_ad V 50)] σ (some (.int (kw_c_about tag))) (if tag = 0 then (kc_up σ' 50 0 v) else σ) := by
  refine kw_of (by decide) (Nat.le_of_ble_eq_true rfl) hV.ok (fun C hl hC hG => ?_)
  subst hl
  show kc_Go C V 4 (0, 0) (kw_E C V (some (.int (kw_c_about tag))) (if tag = 0 then (kc_up σ' 50 0 v) else σ)) σ 0 [(0, .ref (kc_ad V 0)), (1, .int p0), (2, .ref (kc_ad V 50))] []
  refine kg_aload_n hC d_L_about_0 2 rfl ?_
  refine kg_iconst hC d_L_about_1 kn_i_0 ?_
  refine kg_aload_n hC d_L_about_2 0 rfl ?_
  refine kg_iload_n hC d_L_about_3 1 rfl ?_
  by_cases h0 : tag = 0
  · refine kw_ok hC hG hM h0 cal_K_about tw_583 tw_584 tw_582 (ko_0 hV) rfl rfl (by decide) (rest := [.int (nI 0), .ref (kc_ad V 50)]) rfl (Nat.le_of_ble_eq_true rfl) d_L_about_4 ?_
    show kc_Go C V 4 (1, 6) (kw_E C V (some (.int (kw_c_about tag))) (if tag = 0 then (kc_up σ' 50 0 v) else σ)) σ' 7 [(0, .ref (kc_ad V 0)), (1, .int p0), (2, .ref (kc_ad V 50))] [.int v, .int (nI 0), .ref (kc_ad V 50)]
    refine kg_i2l hC d_L_about_7 ?_
    refine kg_last hC (ka_50 hV) (i := 0) rfl (by decide) d_L_about_8 ?_
    refine kg_goto hC d_L_about_9 (tgt := 15) rfl ?_
    refine kg_iconst hC d_L_about_15 kn_i_0 ?_
    exact kw_iret hC d_L_about_16 (by rw [kw_c_about, if_pos h0]) (by rw [if_pos h0])
  · rcases ht with h | h
    · exact absurd h h0
    · subst h
      refine kw_catch hC hG hM (by decide) cal_K_about tw_583 tw_584 tw_582 (ko_0 hV) rfl rfl (by decide) (rest := [.int (nI 0), .ref (kc_ad V 50)]) rfl (Nat.le_of_ble_eq_true rfl) d_L_about_4 [] ⟨0, 9, 12, 13⟩ [] rfl (fun w hw => absurd hw List.not_mem_nil) (by decide) (by decide) tw_117 (fun q => ?_)
      show kc_Go C V 4 (1, 6) (kw_E C V (some (.int (kw_c_about 3))) (if 3 = 0 then (kc_up σ' 50 0 v) else σ)) σ 12 [(0, .ref (kc_ad V 0)), (1, .int p0), (2, .ref (kc_ad V 50))] [.ref q]
      refine kg_astore_n hC d_L_about_12 [(3, .ref q), (0, .ref (kc_ad V 0)), (1, .int p0), (2, .ref (kc_ad V 50))] rfl (by decide) ?_
      refine kg_iconst hC d_L_about_13 kn_i_1 ?_
      exact kw_iret hC d_L_about_14 (by decide) (if_neg (by decide)).symm
