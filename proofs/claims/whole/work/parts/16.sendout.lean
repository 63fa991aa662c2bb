def kf_V_sendOut_1 (d : Nat) (i1 : Nat) (a1 : kc_Sg) : kc_Sg := (kc_up a1 (30 + d) i1 (if (kp_V_isCheated a1 d i1) = 0 then (kp_V_rightShare a1 d i1) else (kp_G_addNumbers a1 (kp_V_rightShare a1 d i1) (nI 1))))
def kq_V_sendOut (σ : kc_Sg) (d : Nat) (b : Int32) (c : Int32) (e : Int32) : kc_Sg := (kc_up (kc_up (kc_it (kf_V_sendOut_1 d) 7 1 (kq_G_commitTo (kq_K_writeRow σ (14 + d) (if (σ 8 d) = (nI 3) then (nI 1) else (nI 0)) b c e) (14 + d) (22 + d))) 3 7 (((kc_it (kf_V_sendOut_1 d) 7 1 (kq_G_commitTo (kq_K_writeRow σ (14 + d) (if (σ 8 d) = (nI 3) then (nI 1) else (nI 0)) b c e) (14 + d) (22 + d))) 3 7) ||| (kp_K_bit (nI d)))) 3 8 (((kc_it (kf_V_sendOut_1 d) 7 1 (kq_G_commitTo (kq_K_writeRow σ (14 + d) (if (σ 8 d) = (nI 3) then (nI 1) else (nI 0)) b c e) (14 + d) (22 + d))) 3 8) ||| (kp_K_bit (nI d))))
set_option maxHeartbeats 4000000 in
set_option maxRecDepth 100000 in
theorem kk_V_sendOut (l : Launch) {V : kc_V} (hV : kc_G V) (σ : kc_Sg) (d : Nat) (b : Int32) (c : Int32) (e : Int32) (hp : ¬ σ 1 0 = 0) (hq : ¬ σ 1 1 = 0) (hd : d < 8) : kc_Met l y_V_sendOut b_V_sendOut 7 none (kc_rm 4) V [.ref (kc_ad V 3), .int (nI d), .int b, .int c, .int e] σ none (kq_V_sendOut σ d b c e) := by
  refine kc_of (by decide) (Nat.le_of_ble_eq_true rfl) hV.ok (fun C _ hC => ?_)
  show kc_Go C V 7 (0, 0) (kc_E C V none (kq_V_sendOut σ d b c e)) σ 0 [(0, .ref (kc_ad V 3)), (1, .int (nI d)), (2, .int b), (3, .int c), (4, .int e)] []
  refine kg_aload_n hC d_V_sendOut_0 0 rfl ?_
  refine kg_getr hC (ko_3 hV) rfl ui_V (j := 2) (by decide) tw_66 rfl d_V_sendOut_1 rfl ?_
  refine kg_iload_n hC d_V_sendOut_4 1 rfl ?_
  refine kg_aald hC (ka_9 hV) (i := d) rfl hd d_V_sendOut_5 ?_
  refine kg_aload_n hC d_V_sendOut_6 0 rfl ?_
  refine kg_getr hC (ko_3 hV) rfl ui_V (j := 1) (by decide) tw_65 rfl d_V_sendOut_7 rfl ?_
  refine kg_iload_n hC d_V_sendOut_10 1 rfl ?_
  refine kg_iald hC (ka_8 hV) (i := d) rfl hd d_V_sendOut_11 ?_
  refine kg_at (pc' := 12) rfl ?_
  refine kg_iconst hC d_V_sendOut_12 kn_i_3 ?_
  have j13 : kc_Go C V 7 (0, 0) (kc_E C V none (kq_V_sendOut σ d b c e)) σ 21 [(0, .ref (kc_ad V 3)), (1, .int (nI d)), (2, .int b), (3, .int c), (4, .int e)] [.int (if (σ 8 d) = (nI 3) then (nI 1) else (nI 0)), .ref (kc_ad V (14 + d))] := by
    refine kg_iload_n hC d_V_sendOut_21 2 rfl ?_
    refine kg_iload_n hC d_V_sendOut_22 3 rfl ?_
    refine kg_iload hC d_V_sendOut_23 4 rfl ?_
    refine kg_staticNV hC (kk_K_writeRow (kc_l C) hV σ (14 + d) (if (σ 8 d) = (nI 3) then (nI 1) else (nI 0)) b c e (ka_14 hV hd)) cal_K_writeRow tw_249 kx_V_66 rfl (by decide) (rest := []) rfl (Nat.le_of_ble_eq_true rfl) d_V_sendOut_25 ?_ (by decide)
    refine kg_aload_n hC d_V_sendOut_28 0 rfl ?_
    refine kg_getr hC (ko_3 hV) rfl ui_V (j := 0) (by decide) tw_64 rfl d_V_sendOut_29 rfl ?_
    refine kg_aload_n hC d_V_sendOut_32 0 rfl ?_
    refine kg_getr hC (ko_3 hV) rfl ui_V (j := 2) (by decide) tw_66 rfl d_V_sendOut_33 rfl ?_
    refine kg_at (pc' := 36) rfl ?_
    refine kg_iload_n hC d_V_sendOut_36 1 rfl ?_
    refine kg_aald hC (ka_9 hV) (i := d) rfl hd d_V_sendOut_37 ?_
    refine kg_aload_n hC d_V_sendOut_38 0 rfl ?_
    refine kg_getr hC (ko_3 hV) rfl ui_V (j := 3) (by decide) tw_67 rfl d_V_sendOut_39 rfl ?_
    refine kg_iload_n hC d_V_sendOut_42 1 rfl ?_
    refine kg_aald hC (ka_10 hV) (i := d) rfl hd d_V_sendOut_43 ?_
    refine kg_virtualV hC (kk_G_commitTo (kc_l C) hV (kq_K_writeRow σ (14 + d) (if (σ 8 d) = (nI 3) then (nI 1) else (nI 0)) b c e) (14 + d) (22 + d) (by rw [ke_writeRow (by omega)]; exact hp) (ka_14 hV hd) (ka_22 hV hd) (by omega)) cal_G_commitTo tw_252 tw_253 tw_366 (ko_1 hV) rfl rfl (by decide) (rest := []) rfl (Nat.le_of_ble_eq_true rfl) d_V_sendOut_44 ?_ (by decide)
    refine kg_iconst hC d_V_sendOut_47 kn_i_1 ?_
    refine kg_at (pc' := 48) rfl ?_
    refine kg_istore hC d_V_sendOut_48 [(5, .int (nI 1)), (0, .ref (kc_ad V 3)), (1, .int (nI d)), (2, .int b), (3, .int c), (4, .int e)] rfl (by decide) ?_
    refine kc_loop (fun i1 a1 => a1 1 = σ 1 → kc_Go C V 7 (0, 0) (kc_E C V none (kq_V_sendOut σ d b c e)) a1 50 [(5, .int (nI i1)), (0, .ref (kc_ad V 3)), (1, .int (nI d)), (2, .int b), (3, .int c), (4, .int e)] []) (kf_V_sendOut_1 d) 1 8 (fun i1 a1 ho1 hi1 hk1 hv1 => ?_) 7 1 (kq_G_commitTo (kq_K_writeRow σ (14 + d) (if (σ 8 d) = (nI 3) then (nI 1) else (nI 0)) b c e) (14 + d) (22 + d)) (Nat.le_refl _) rfl (fun hw1 => ?_) (by rw [ke_commitTo (by omega), ke_writeRow (by omega)])
    · refine kg_iload hC d_V_sendOut_50 0 rfl ?_
      refine kg_bipush hC d_V_sendOut_52 kn_b_7 ?_
      refine kg_icmp_gt hC d_V_sendOut_54 (tgt := 106) rfl (fun q => absurd q (nI_nlt (by omega) (by decide))) (fun _ => ?_)
      refine kg_aload_n hC d_V_sendOut_57 1 rfl ?_
      refine kg_iload_n hC d_V_sendOut_58 2 rfl ?_
      refine kg_iload hC d_V_sendOut_59 0 rfl ?_
      refine kg_virtualI hC (kk_V_rightShare (kc_l C) hV a1 d i1 (by rw [hv1]; exact hq) hd) cal_V_rightShare tw_369 ts_V_rightShare tw_367 (ko_3 hV) rfl rfl (by decide) (rest := []) rfl (Nat.le_of_ble_eq_true rfl) d_V_sendOut_61 ?_ (by decide)
      refine kg_istore hC d_V_sendOut_64 [(6, .int (kp_V_rightShare a1 d i1)), (5, .int (nI i1)), (0, .ref (kc_ad V 3)), (1, .int (nI d)), (2, .int b), (3, .int c), (4, .int e)] rfl (by decide) ?_
      refine kg_at (pc' := 66) rfl ?_
      refine kg_aload_n hC d_V_sendOut_66 2 rfl ?_
      refine kg_getr hC (ko_3 hV) rfl ui_V (j := 4) (by decide) tw_68 rfl d_V_sendOut_67 rfl ?_
      refine kg_iload_n hC d_V_sendOut_70 3 rfl ?_
      refine kg_aald hC (ka_11 hV) (i := d) rfl hd d_V_sendOut_71 ?_
      refine kg_iload hC d_V_sendOut_72 1 rfl ?_
      refine kg_aload_n hC d_V_sendOut_74 2 rfl ?_
      refine kg_iload_n hC d_V_sendOut_75 3 rfl ?_
      refine kg_iload hC d_V_sendOut_76 1 rfl ?_
      refine kg_at (pc' := 78) rfl ?_
      refine kg_virtualI hC (kk_V_isCheated (kc_l C) hV a1 d i1 hd) cal_V_isCheated tw_374 ts_V_isCheated tw_372 (ko_3 hV) rfl rfl (by decide) (rest := [.int (nI i1), .ref (kc_ad V (30 + d))]) rfl (Nat.le_of_ble_eq_true rfl) d_V_sendOut_78 ?_ (by decide)
      have j81 : kc_Go C V 7 (0, 0) (kc_E C V none (kq_V_sendOut σ d b c e)) a1 99 [(6, .int (kp_V_rightShare a1 d i1)), (5, .int (nI i1)), (0, .ref (kc_ad V 3)), (1, .int (nI d)), (2, .int b), (3, .int c), (4, .int e)] [.int (if (kp_V_isCheated a1 d i1) = 0 then (kp_V_rightShare a1 d i1) else (kp_G_addNumbers a1 (kp_V_rightShare a1 d i1) (nI 1))), .int (nI i1), .ref (kc_ad V (30 + d))] := by
        refine kg_iast hC (ka_30 hV hd) (i := i1) rfl (by omega) d_V_sendOut_99 ?_
        refine kg_iinc hC d_V_sendOut_100 1 rfl (kn_inc1 i1) [(5, .int (nI (i1 + 1))), (6, .int (kp_V_rightShare a1 d i1)), (0, .ref (kc_ad V 3)), (1, .int (nI d)), (2, .int b), (3, .int c), (4, .int e)] rfl (by decide) ?_
        refine kg_goto hC d_V_sendOut_103 (tgt := 50) rfl ?_
        refine kg_loc [0, 2, 3, 4, 5, 6] (L' := [(5, .int (nI (i1 + 1))), (0, .ref (kc_ad V 3)), (1, .int (nI d)), (2, .int b), (3, .int c), (4, .int e)]) rfl ?_
        exact kg_to (P := fun zz => zz 1 = σ 1 → kc_Go C V 7 (0, 0) (kc_E C V none (kq_V_sendOut σ d b c e)) zz 50 [(5, .int (nI (i1 + 1))), (0, .ref (kc_ad V 3)), (1, .int (nI d)), (2, .int b), (3, .int c), (4, .int e)] []) (b := (kc_up a1 (30 + d) i1 (if (kp_V_isCheated a1 d i1) = 0 then (kp_V_rightShare a1 d i1) else (kp_G_addNumbers a1 (kp_V_rightShare a1 d i1) (nI 1))))) (a := (kf_V_sendOut_1 d) i1 a1) (by rw [kf_V_sendOut_1]) hk1 (by rw [kc_up_ne (by omega)]; exact hv1)
      refine kg_if_eq hC d_V_sendOut_81 (tgt := 97) rfl (fun h81 => ?_) (fun h81 => ?_)
      · refine kg_iload hC d_V_sendOut_97 0 rfl ?_
        exact kg_to (P := fun zz => kc_Go C V 7 (0, 0) (kc_E C V none (kq_V_sendOut σ d b c e)) a1 99 [(6, .int (kp_V_rightShare a1 d i1)), (5, .int (nI i1)), (0, .ref (kc_ad V 3)), (1, .int (nI d)), (2, .int b), (3, .int c), (4, .int e)] (.int zz :: [.int (nI i1), .ref (kc_ad V (30 + d))])) (b := (kp_V_rightShare a1 d i1)) (if_pos h81) j81
      · refine kg_aload_n hC d_V_sendOut_84 2 rfl ?_
        refine kg_getr hC (ko_3 hV) rfl ui_V (j := 0) (by decide) tw_64 rfl d_V_sendOut_85 rfl ?_
        refine kg_iload hC d_V_sendOut_88 0 rfl ?_
        refine kg_iconst hC d_V_sendOut_90 kn_i_1 ?_
        refine kg_virtualI hC (kk_G_addNumbers (kc_l C) hV a1 (kp_V_rightShare a1 d i1) (nI 1) (by rw [hv1]; exact hq)) cal_G_addNumbers tw_264 tw_265 tw_376 (ko_1 hV) rfl rfl (by decide) (rest := [.int (nI i1), .ref (kc_ad V (30 + d))]) rfl (Nat.le_of_ble_eq_true rfl) d_V_sendOut_91 ?_ (by decide)
        refine kg_goto hC d_V_sendOut_94 (tgt := 99) rfl ?_
        exact kg_to (P := fun zz => kc_Go C V 7 (0, 0) (kc_E C V none (kq_V_sendOut σ d b c e)) a1 99 [(6, .int (kp_V_rightShare a1 d i1)), (5, .int (nI i1)), (0, .ref (kc_ad V 3)), (1, .int (nI d)), (2, .int b), (3, .int c), (4, .int e)] (.int zz :: [.int (nI i1), .ref (kc_ad V (30 + d))])) (b := (kp_G_addNumbers a1 (kp_V_rightShare a1 d i1) (nI 1))) (if_neg h81) j81
    generalize hg1 : (kc_it (kf_V_sendOut_1 d) 7 1 (kq_G_commitTo (kq_K_writeRow σ (14 + d) (if (σ 8 d) = (nI 3) then (nI 1) else (nI 0)) b c e) (14 + d) (22 + d))) = τ1 at hw1 ⊢
    refine kg_iload hC d_V_sendOut_50 0 rfl ?_
    refine kg_bipush hC d_V_sendOut_52 kn_b_7 ?_
    refine kg_icmp_gt hC d_V_sendOut_54 (tgt := 106) rfl (fun _ => ?_) (fun q => absurd (nI_lt (by decide) (by decide)) q)
    refine kg_aload_n hC d_V_sendOut_106 1 rfl ?_
    refine kg_dup hC d_V_sendOut_107 rfl ?_
    refine kg_geti hC (ko_3 hV) rfl ui_V (j := 7) (by decide) tw_71 rfl d_V_sendOut_108 rfl ?_
    refine kg_iload_n hC d_V_sendOut_111 2 rfl ?_
    refine kg_staticNI hC (kk_K_bit (kc_l C) hV τ1 (nI d)) cal_K_bit tw_306 kx_V_57 rfl (by decide) (rest := [.int (τ1 3 7), .ref (kc_ad V 3)]) rfl (Nat.le_of_ble_eq_true rfl) d_V_sendOut_112 ?_ (by decide)
    refine kg_at (pc' := 115) rfl ?_
    refine kg_ior hC d_V_sendOut_115 ?_
    refine kg_puti hC (ko_3 hV) rfl ui_V ok_V nm_V (j := 7) (by decide) tw_71 rfl rfl rfl rfl d_V_sendOut_116 rfl ?_
    refine kg_aload_n hC d_V_sendOut_119 1 rfl ?_
    refine kg_dup hC d_V_sendOut_120 rfl ?_
    refine kg_geti hC (ko_3 hV) rfl ui_V (j := 8) (by decide) tw_72 rfl d_V_sendOut_121 rfl ?_
    refine kg_top (x' := (τ1 3 8)) (kc_up_nj (by decide)) ?_
    refine kg_iload_n hC d_V_sendOut_124 2 rfl ?_
    refine kg_staticNI hC (kk_K_bit (kc_l C) hV (kc_up τ1 3 7 ((τ1 3 7) ||| (kp_K_bit (nI d)))) (nI d)) cal_K_bit tw_306 kx_V_57 rfl (by decide) (rest := [.int (τ1 3 8), .ref (kc_ad V 3)]) rfl (Nat.le_of_ble_eq_true rfl) d_V_sendOut_125 ?_ (by decide)
    refine kg_ior hC d_V_sendOut_128 ?_
    refine kg_at (pc' := 129) rfl ?_
    refine kg_puti hC (ko_3 hV) rfl ui_V ok_V nm_V (j := 8) (by decide) tw_72 rfl rfl rfl rfl d_V_sendOut_129 rfl ?_
    exact kg_vret hC d_V_sendOut_132 (by rw [kq_V_sendOut, hg1])
  refine kg_icmp_ne hC d_V_sendOut_13 (tgt := 20) rfl (fun h13 => ?_) (fun h13 => ?_)
  · refine kg_iconst hC d_V_sendOut_20 kn_i_0 ?_
    exact kg_to (P := fun zz => kc_Go C V 7 (0, 0) (kc_E C V none (kq_V_sendOut σ d b c e)) σ 21 [(0, .ref (kc_ad V 3)), (1, .int (nI d)), (2, .int b), (3, .int c), (4, .int e)] (.int zz :: [.ref (kc_ad V (14 + d))])) (b := (nI 0)) (if_neg h13) j13
  · refine kg_iconst hC d_V_sendOut_16 kn_i_1 ?_
    refine kg_goto hC d_V_sendOut_17 (tgt := 21) rfl ?_
    exact kg_to (P := fun zz => kc_Go C V 7 (0, 0) (kc_E C V none (kq_V_sendOut σ d b c e)) σ 21 [(0, .ref (kc_ad V 3)), (1, .int (nI d)), (2, .int b), (3, .int c), (4, .int e)] (.int zz :: [.ref (kc_ad V (14 + d))])) (b := (nI 1)) (if_pos h13) j13
