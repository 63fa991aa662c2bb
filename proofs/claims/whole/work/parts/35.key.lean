theorem kt_seat_ok {d : Nat} (h : 1 ≤ d ∧ d ≤ 7) : kt_K_requireSeat (nI d) = 0 := by
  unfold kt_K_requireSeat
  rw [if_neg (nI_nlt h.1 (by omega)), if_pos (nI_le h.2 (by decide))]
theorem kc_bd_of {σ τ : kc_Sg} (e : τ 2 1 = σ 2 1) (h : kc_bd σ) : kc_bd τ := by
  have e2 : kb τ = kb σ := by
    unfold kb
    rw [e]
  exact ⟨by rw [e, e2]; exact h.1, by rw [e2]; exact h.2⟩
theorem ke_fill {σ : kc_Sg} {k n j : Nat} {v : Int32} (h : j ≠ k) : kq_JA_fill σ k v n j = σ j := by
  unfold kq_JA_fill
  exact ke_it (fun i a => by unfold kf_JA_fill_1; rw [kc_up_ne h]) _ _ _
theorem ke_sendOut {σ : kc_Sg} {d j : Nat} {b c e : Int32} (h3 : j ≠ 3) (h1 : j ≠ 14 + d) (h2 : j ≠ 22 + d) (h4 : j ≠ 30 + d) : kq_V_sendOut σ d b c e j = σ j := by
  unfold kq_V_sendOut
  rw [kc_up_ne h3, kc_up_ne h3, ke_it (fun i a => by unfold kf_V_sendOut_1; rw [kc_up_ne h4]), ke_commitTo h2, ke_writeRow h1]
theorem ke_addc {σ : kc_Sg} {t b w v u : Int32} {j : Nat} (h2 : j ≠ 2) (h7 : j ≠ 7) : kq_B_add σ t b w v u j = σ j := by
  unfold kq_B_add
  split
  · rw [kc_up_ne h2, ke_it (fun i a => by unfold kf_B_add_1; rw [kc_up_ne h7]), kc_up_ne h7, kc_up_ne h7, kc_up_ne h7, kc_up_ne h7, kc_up_ne h7]
  · rfl
theorem ke_add21 {σ : kc_Sg} {t b w v u : Int32} (h : kb σ < 250) (hb : kc_bd σ) : kq_B_add σ t b w v u 2 1 = nI (kb σ + 1) := by
  unfold kq_B_add
  rw [if_pos (nI_lt h (by decide)), kc_up_jj, ke_it (fun i a => by unfold kf_B_add_1; rw [kc_up_ne (by decide)]), kc_up_ne (by decide), kc_up_ne (by decide), kc_up_ne (by decide), kc_up_ne (by decide), kc_up_ne (by decide)]
  rw [hb.1, nI_add]
theorem kc_bd_add {σ : kc_Sg} {t b w v u : Int32} (hb : kc_bd σ) : kc_bd (kq_B_add σ t b w v u) := by
  by_cases h : kb σ < 250
  · have e := ke_add21 (t := t) (b := b) (w := w) (v := v) (u := u) h hb
    have e2 : kb (kq_B_add σ t b w v u) = kb σ + 1 := by
      show (kq_B_add σ t b w v u 2 1).toNatClampNeg = _
      rw [e]
      exact nI_clamp (by omega)
    exact ⟨by rw [e, e2], by rw [e2]; omega⟩
  · have e : kq_B_add σ t b w v u = σ := by
      unfold kq_B_add
      rw [if_neg (nI_nlt (by omega) (by have := hb.2; omega))]
    rw [e]
    exact hb
theorem ke_takeOver {σ : kc_Sg} {d j : Nat} (h4 : j ≠ 4) (h5 : j ≠ 5) : kq_K_takeOver σ d j = σ j := by
  unfold kq_K_takeOver
  rw [ke_it (fun i a => by unfold kf_K_takeOver_2; rw [kc_up_ne h5]), ke_it (fun i a => by
    unfold kf_K_takeOver_1
    split
    · rw [kc_up_ne h4]
    · rfl)]
noncomputable def kq_K_group (σ : kc_Sg) (p : Int32) (q : Int32) (g : Int32) : kc_Sg := if (kp_G_isGroup p q g) = 0 then σ else (kc_up (kq_JA_fill (kq_JA_fill (kq_V_begin (kq_B_empty (kq_G_become σ p q g))) 4 (nI 0) 8) 5 (nI 0) 4) 0 6 (nI 0))
noncomputable def kt_K_group (p : Int32) (q : Int32) (g : Int32) : Nat := if (kp_G_isGroup p q g) = 0 then 3 else 0
set_option maxHeartbeats 4000000 in
set_option maxRecDepth 100000 in
theorem kx_K_group (l : Launch) (hlt : l.stackTraces = false) {V : kc_V} (hV : kc_G V) (σ : kc_Sg) (p : Int32) (q : Int32) (g : Int32) : kx_Met l y_K_group b_K_group 4 none (kx_rm 6) V [.ref (kc_ad V 0), .int p, .int q, .int g] σ (kt_K_group p q g) none (kq_K_group σ p q g) := by
  refine kx_of hlt (by decide) (Nat.le_of_ble_eq_true rfl) hV.ok (fun C _ hC hG => ?_)
  show kc_Go C V 4 (0, 0) (kx_E C V (kt_K_group p q g) none (kq_K_group σ p q g) σ) σ 0 [(0, .ref (kc_ad V 0)), (1, .int p), (2, .int q), (3, .int g)] []
  refine kg_iload_n hC d_K_group_0 1 rfl ?_
  refine kg_iload_n hC d_K_group_1 2 rfl ?_
  refine kg_iload_n hC d_K_group_2 3 rfl ?_
  refine kg_staticI hC (kk_G_isGroup (kc_l C) hV σ p q g) cal_G_isGroup tw_123 tw_122 rfl (by decide) (rest := []) rfl (Nat.le_of_ble_eq_true rfl) d_K_group_3 ?_ (by decide)
  refine kg_if_ne hC d_K_group_6 (tgt := 17) rfl (fun h6 => ?_) (fun h6 => ?_)
  · refine kg_aload_n hC d_K_group_17 0 rfl ?_
    refine kg_getr hC (ko_0 hV) rfl ui_K (j := 0) (by decide) tw_92 rfl d_K_group_18 rfl ?_
    refine kg_iload_n hC d_K_group_21 1 rfl ?_
    refine kg_iload_n hC d_K_group_22 2 rfl ?_
    refine kg_iload_n hC d_K_group_23 3 rfl ?_
    refine kg_virtualV hC (kk_G_become (kc_l C) hV σ p q g) cal_G_become tw_197 tw_198 tw_196 (ko_1 hV) rfl rfl (by decide) (rest := []) rfl (Nat.le_of_ble_eq_true rfl) d_K_group_24 ?_ (by decide)
    refine kg_aload_n hC d_K_group_27 0 rfl ?_
    refine kg_getr hC (ko_0 hV) rfl ui_K (j := 1) (by decide) tw_93 rfl d_K_group_28 rfl ?_
    refine kg_at (pc' := 31) rfl ?_
    refine kg_virtualV hC (kk_B_empty (kc_l C) hV (kq_G_become σ p q g)) cal_B_empty tw_201 tw_202 tw_200 (ko_2 hV) rfl rfl (by decide) (rest := []) rfl (Nat.le_of_ble_eq_true rfl) d_K_group_31 ?_ (by decide)
    refine kg_aload_n hC d_K_group_34 0 rfl ?_
    refine kg_getr hC (ko_0 hV) rfl ui_K (j := 2) (by decide) tw_94 rfl d_K_group_35 rfl ?_
    refine kg_virtualV hC (kk_V_begin (kc_l C) hV (kq_B_empty (kq_G_become σ p q g))) cal_V_begin tw_205 tw_206 tw_204 (ko_3 hV) rfl rfl (by decide) (rest := []) rfl (Nat.le_of_ble_eq_true rfl) d_K_group_38 ?_ (by decide)
    refine kg_aload_n hC d_K_group_41 0 rfl ?_
    refine kg_getr hC (ko_0 hV) rfl ui_K (j := 3) (by decide) tw_95 rfl d_K_group_42 rfl ?_
    refine kg_iconst hC d_K_group_45 kn_i_0 ?_
    refine kg_staticV hC (kk_JA_fill (kc_l C) hV (kq_V_begin (kq_B_empty (kq_G_become σ p q g))) 4 (nI 0) 8 (ka_4 hV)) cal_JA_fill tw_209 tw_211 rfl (by decide) (rest := []) rfl (Nat.le_of_ble_eq_true rfl) d_K_group_46 ?_ (by decide)
    refine kg_at (pc' := 49) rfl ?_
    refine kg_aload_n hC d_K_group_49 0 rfl ?_
    refine kg_getr hC (ko_0 hV) rfl ui_K (j := 4) (by decide) tw_96 rfl d_K_group_50 rfl ?_
    refine kg_iconst hC d_K_group_53 kn_i_0 ?_
    refine kg_staticV hC (kk_JA_fill (kc_l C) hV (kq_JA_fill (kq_V_begin (kq_B_empty (kq_G_become σ p q g))) 4 (nI 0) 8) 5 (nI 0) 4 (ka_5 hV)) cal_JA_fill tw_209 tw_211 rfl (by decide) (rest := []) rfl (Nat.le_of_ble_eq_true rfl) d_K_group_54 ?_ (by decide)
    refine kg_aload_n hC d_K_group_57 0 rfl ?_
    refine kg_iconst hC d_K_group_58 kn_i_0 ?_
    refine kg_puti hC (ko_0 hV) rfl ui_K ok_K nm_K (j := 6) (by decide) tw_98 rfl rfl rfl rfl d_K_group_59 rfl ?_
    exact kx_vret hC d_K_group_62 (by rw [kt_K_group, if_neg h6]) (by rw [kq_K_group, if_neg h6])
  · exact kx_thr_3 hC hG (by rw [kt_K_group, if_pos h6]) (by decide) (Nat.le_of_ble_eq_true rfl) d_K_group_9 d_K_group_12 d_K_group_13 d_K_group_16
def kf_K_found_1  (i1 : Nat) (a1 : kc_Sg) : kc_Sg := (kc_up a1 4 i1 (kp_G_valueAt a1 (nI i1) 6))
def kq_K_found (σ : kc_Sg) (a : Int32) (b : Int32) (c : Int32) (e : Int32) : kc_Sg := if (kp_G_stands σ) = 0 then σ else (if (kp_G_isNumber σ a) = 0 then σ else (if (kp_G_areNumbers σ b c e) = 0 then σ else (kc_up (kq_V_begin (kq_B_empty (kc_it (kf_K_found_1) 7 1 (kq_G_commitTo (kq_K_writeRow σ 6 a b c e) 6 5)))) 0 6 (nI 1))))
def kt_K_found (σ : kc_Sg) (a : Int32) (b : Int32) (c : Int32) (e : Int32) : Nat := if (kp_G_stands σ) = 0 then 1 else (if (kp_G_isNumber σ a) = 0 then 3 else (if (kp_G_areNumbers σ b c e) = 0 then 3 else 0))
set_option maxHeartbeats 4000000 in
set_option maxRecDepth 100000 in
theorem kx_K_found (l : Launch) (hlt : l.stackTraces = false) {V : kc_V} (hV : kc_G V) (σ : kc_Sg) (a : Int32) (b : Int32) (c : Int32) (e : Int32) (hp : ¬ σ 1 0 = 0) (hq : ¬ σ 1 1 = 0) : kx_Met l y_K_found b_K_found 6 none (kx_rm 6) V [.ref (kc_ad V 0), .int a, .int b, .int c, .int e] σ (kt_K_found σ a b c e) none (kq_K_found σ a b c e) := by
  refine kx_of hlt (by decide) (Nat.le_of_ble_eq_true rfl) hV.ok (fun C _ hC hG => ?_)
  show kc_Go C V 6 (0, 0) (kx_E C V (kt_K_found σ a b c e) none (kq_K_found σ a b c e) σ) σ 0 [(0, .ref (kc_ad V 0)), (1, .int a), (2, .int b), (3, .int c), (4, .int e)] []
  refine kg_aload_n hC d_K_found_0 0 rfl ?_
  refine kg_getr hC (ko_0 hV) rfl ui_K (j := 0) (by decide) tw_92 rfl d_K_found_1 rfl ?_
  refine kg_virtualI hC (kk_G_stands (kc_l C) hV σ) cal_G_stands tw_221 tw_222 tw_220 (ko_1 hV) rfl rfl (by decide) (rest := []) rfl (Nat.le_of_ble_eq_true rfl) d_K_found_4 ?_ (by decide)
  refine kg_if_ne hC d_K_found_7 (tgt := 18) rfl (fun h7 => ?_) (fun h7 => ?_)
  · refine kg_aload_n hC d_K_found_18 0 rfl ?_
    refine kg_getr hC (ko_0 hV) rfl ui_K (j := 0) (by decide) tw_92 rfl d_K_found_19 rfl ?_
    refine kg_iload_n hC d_K_found_22 1 rfl ?_
    refine kg_virtualI hC (kk_G_isNumber (kc_l C) hV σ a) cal_G_isNumber tw_240 tw_241 tw_239 (ko_1 hV) rfl rfl (by decide) (rest := []) rfl (Nat.le_of_ble_eq_true rfl) d_K_found_23 ?_ (by decide)
    refine kg_if_eq hC d_K_found_26 (tgt := 43) rfl (fun h26 => ?_) (fun h26 => ?_)
    · exact kx_thr_3 hC hG (by rw [kt_K_found, if_neg h7, if_pos h26]) (by decide) (Nat.le_of_ble_eq_true rfl) d_K_found_43 d_K_found_46 d_K_found_47 d_K_found_50
    · refine kg_aload_n hC d_K_found_29 0 rfl ?_
      refine kg_getr hC (ko_0 hV) rfl ui_K (j := 0) (by decide) tw_92 rfl d_K_found_30 rfl ?_
      refine kg_iload_n hC d_K_found_33 2 rfl ?_
      refine kg_iload_n hC d_K_found_34 3 rfl ?_
      refine kg_iload hC d_K_found_35 4 rfl ?_
      refine kg_virtualI hC (kk_G_areNumbers (kc_l C) hV σ b c e) cal_G_areNumbers tw_244 tw_245 tw_243 (ko_1 hV) rfl rfl (by decide) (rest := []) rfl (Nat.le_of_ble_eq_true rfl) d_K_found_37 ?_ (by decide)
      refine kg_if_ne hC d_K_found_40 (tgt := 51) rfl (fun h40 => ?_) (fun h40 => ?_)
      · refine kg_aload_n hC d_K_found_51 0 rfl ?_
        refine kg_getr hC (ko_0 hV) rfl ui_K (j := 5) (by decide) tw_97 rfl d_K_found_52 rfl ?_
        refine kg_iload_n hC d_K_found_55 1 rfl ?_
        refine kg_iload_n hC d_K_found_56 2 rfl ?_
        refine kg_iload_n hC d_K_found_57 3 rfl ?_
        refine kg_iload hC d_K_found_58 4 rfl ?_
        refine kg_staticV hC (kk_K_writeRow (kc_l C) hV σ 6 a b c e (ka_6 hV)) cal_K_writeRow tw_249 tw_248 rfl (by decide) (rest := []) rfl (Nat.le_of_ble_eq_true rfl) d_K_found_60 ?_ (by decide)
        refine kg_aload_n hC d_K_found_63 0 rfl ?_
        refine kg_at (pc' := 64) rfl ?_
        refine kg_getr hC (ko_0 hV) rfl ui_K (j := 0) (by decide) tw_92 rfl d_K_found_64 rfl ?_
        refine kg_aload_n hC d_K_found_67 0 rfl ?_
        refine kg_getr hC (ko_0 hV) rfl ui_K (j := 5) (by decide) tw_97 rfl d_K_found_68 rfl ?_
        refine kg_aload_n hC d_K_found_71 0 rfl ?_
        refine kg_getr hC (ko_0 hV) rfl ui_K (j := 4) (by decide) tw_96 rfl d_K_found_72 rfl ?_
        refine kg_virtualV hC (kk_G_commitTo (kc_l C) hV (kq_K_writeRow σ 6 a b c e) 6 5 (by rw [ke_writeRow (by decide)]; exact hp) (ka_6 hV) (ka_5 hV) (by decide)) cal_G_commitTo tw_252 tw_253 tw_251 (ko_1 hV) rfl rfl (by decide) (rest := []) rfl (Nat.le_of_ble_eq_true rfl) d_K_found_75 ?_ (by decide)
        refine kg_iconst hC d_K_found_78 kn_i_1 ?_
        refine kg_istore hC d_K_found_79 [(5, .int (nI 1)), (0, .ref (kc_ad V 0)), (1, .int a), (2, .int b), (3, .int c), (4, .int e)] rfl (by decide) ?_
        refine kc_loop (fun i1 a1 => a1 1 = σ 1 → kc_Go C V 6 (0, 0) (kx_E C V (kt_K_found σ a b c e) none (kq_K_found σ a b c e) σ) a1 81 [(5, .int (nI i1)), (0, .ref (kc_ad V 0)), (1, .int a), (2, .int b), (3, .int c), (4, .int e)] []) (kf_K_found_1) 1 8 (fun i1 a1 ho1 hi1 hk1 hv1 => ?_) 7 1 (kq_G_commitTo (kq_K_writeRow σ 6 a b c e) 6 5) (Nat.le_refl _) rfl (fun hw1 => ?_) (by rw [ke_commitTo (by decide), ke_writeRow (by decide)])
        · refine kg_iload hC d_K_found_81 0 rfl ?_
          refine kg_bipush hC d_K_found_83 kn_b_7 ?_
          refine kg_icmp_gt hC d_K_found_85 (tgt := 114) rfl (fun q => absurd q (nI_nlt (by omega) (by decide))) (fun _ => ?_)
          refine kg_aload_n hC d_K_found_88 1 rfl ?_
          refine kg_getr hC (ko_0 hV) rfl ui_K (j := 3) (by decide) tw_95 rfl d_K_found_89 rfl ?_
          refine kg_iload hC d_K_found_92 0 rfl ?_
          refine kg_aload_n hC d_K_found_94 1 rfl ?_
          refine kg_getr hC (ko_0 hV) rfl ui_K (j := 0) (by decide) tw_92 rfl d_K_found_95 rfl ?_
          refine kg_at (pc' := 98) rfl ?_
          refine kg_iload hC d_K_found_98 0 rfl ?_
          refine kg_aload_n hC d_K_found_100 1 rfl ?_
          refine kg_getr hC (ko_0 hV) rfl ui_K (j := 5) (by decide) tw_97 rfl d_K_found_101 rfl ?_
          refine kg_virtualI hC (kk_G_valueAt (kc_l C) hV a1 (nI i1) 6 (by rw [hv1]; exact hq) (ka_6 hV)) cal_G_valueAt tw_256 tw_257 tw_255 (ko_1 hV) rfl rfl (by decide) (rest := [.int (nI i1), .ref (kc_ad V 4)]) rfl (Nat.le_of_ble_eq_true rfl) d_K_found_104 ?_ (by decide)
          refine kg_iast hC (ka_4 hV) (i := i1) rfl (by omega) d_K_found_107 ?_
          refine kg_iinc hC d_K_found_108 0 rfl (kn_inc1 i1) [(5, .int (nI (i1 + 1))), (0, .ref (kc_ad V 0)), (1, .int a), (2, .int b), (3, .int c), (4, .int e)] rfl (by decide) ?_
          refine kg_goto hC d_K_found_111 (tgt := 81) rfl ?_
          exact kg_to (P := fun zz => zz 1 = σ 1 → kc_Go C V 6 (0, 0) (kx_E C V (kt_K_found σ a b c e) none (kq_K_found σ a b c e) σ) zz 81 [(5, .int (nI (i1 + 1))), (0, .ref (kc_ad V 0)), (1, .int a), (2, .int b), (3, .int c), (4, .int e)] []) (b := (kc_up a1 4 i1 (kp_G_valueAt a1 (nI i1) 6))) (a := (kf_K_found_1) i1 a1) (by rw [kf_K_found_1]) hk1 (by rw [kc_up_ne (by decide)]; exact hv1)
        generalize hg1 : (kc_it (kf_K_found_1) 7 1 (kq_G_commitTo (kq_K_writeRow σ 6 a b c e) 6 5)) = τ1 at hw1 ⊢
        refine kg_iload hC d_K_found_81 0 rfl ?_
        refine kg_bipush hC d_K_found_83 kn_b_7 ?_
        refine kg_icmp_gt hC d_K_found_85 (tgt := 114) rfl (fun _ => ?_) (fun q => absurd (nI_lt (by decide) (by decide)) q)
        refine kg_aload_n hC d_K_found_114 1 rfl ?_
        refine kg_getr hC (ko_0 hV) rfl ui_K (j := 1) (by decide) tw_93 rfl d_K_found_115 rfl ?_
        refine kg_virtualV hC (kk_B_empty (kc_l C) hV τ1) cal_B_empty tw_201 tw_202 tw_200 (ko_2 hV) rfl rfl (by decide) (rest := []) rfl (Nat.le_of_ble_eq_true rfl) d_K_found_118 ?_ (by decide)
        refine kg_aload_n hC d_K_found_121 1 rfl ?_
        refine kg_getr hC (ko_0 hV) rfl ui_K (j := 2) (by decide) tw_94 rfl d_K_found_122 rfl ?_
        refine kg_at (pc' := 125) rfl ?_
        refine kg_virtualV hC (kk_V_begin (kc_l C) hV (kq_B_empty τ1)) cal_V_begin tw_205 tw_206 tw_204 (ko_3 hV) rfl rfl (by decide) (rest := []) rfl (Nat.le_of_ble_eq_true rfl) d_K_found_125 ?_ (by decide)
        refine kg_aload_n hC d_K_found_128 1 rfl ?_
        refine kg_iconst hC d_K_found_129 kn_i_1 ?_
        refine kg_puti hC (ko_0 hV) rfl ui_K ok_K nm_K (j := 6) (by decide) tw_98 rfl rfl rfl rfl d_K_found_130 rfl ?_
        exact kx_vret hC d_K_found_133 (by rw [kt_K_found, if_neg h7, if_neg h26, if_neg h40]) (by rw [kq_K_found, hg1, if_neg h7, if_neg h26, if_neg h40])
      · exact kx_thr_3 hC hG (by rw [kt_K_found, if_neg h7, if_neg h26, if_pos h40]) (by decide) (Nat.le_of_ble_eq_true rfl) d_K_found_43 d_K_found_46 d_K_found_47 d_K_found_50
  · exact kx_thr_1 hC hG (by rw [kt_K_found, if_pos h7]) (by decide) (Nat.le_of_ble_eq_true rfl) d_K_found_10 d_K_found_13 d_K_found_14 d_K_found_17
def kq_K_fault_x (σ : kc_Sg) : kc_Sg := if (kt_K_requireFounded σ) = 0 then σ else σ
def kt_K_fault_x (σ : kc_Sg) (x : Int32) : Nat := if (kt_K_requireFounded σ) = 0 then (kt_K_requireSeat x) else (kt_K_requireFounded σ)
set_option maxHeartbeats 4000000 in
set_option maxRecDepth 100000 in
theorem kx_K_fault_x (l : Launch) (hlt : l.stackTraces = false) {V : kc_V} (hV : kc_G V) (σ : kc_Sg) (x : Int32) (y : Int32) (hs : ¬ kt_K_requireSeat x = 0) : kx_Met l y_K_fault b_K_fault 3 none (kx_rm 7) V [.ref (kc_ad V 0), .int x, .int y] σ (kt_K_fault_x σ x) none (kq_K_fault_x σ) := by
  refine kx_of hlt (by decide) (Nat.le_of_ble_eq_true rfl) hV.ok (fun C _ hC hG => ?_)
  show kc_Go C V 3 (0, 0) (kx_E C V (kt_K_fault_x σ x) none (kq_K_fault_x σ) σ) σ 0 [(0, .ref (kc_ad V 0)), (1, .int x), (2, .int y)] []
  refine kg_aload_n hC d_K_fault_0 0 rfl ?_
  by_cases hX1 : (kt_K_requireFounded σ) = 0
  · refine kg_virtualV hC (kk_K_requireFounded (kc_l C) hV σ hX1) cal_K_requireFounded tw_278 ts_K_requireFounded tw_276 (ko_0 hV) rfl rfl (by decide) (rest := []) rfl (Nat.le_of_ble_eq_true rfl) d_K_fault_1 ?_ (by decide)
    refine kg_iload_n hC d_K_fault_4 1 rfl ?_
    exact kx_outS hC hG (kx_K_requireSeat (kc_l C) hG.2.2.1 hV σ x) hs (by rw [kt_K_fault_x, if_pos hX1]) cal_K_requireSeat tw_281 tw_280 rfl (by decide) (rest := []) rfl (Nat.le_of_ble_eq_true rfl) d_K_fault_5
  · exact kx_outV hC hG (kx_K_requireFounded (kc_l C) hG.2.2.1 hV σ) hX1 (by rw [kt_K_fault_x, if_neg hX1]) cal_K_requireFounded tw_278 ts_K_requireFounded tw_276 (ko_0 hV) rfl rfl (by decide) (rest := []) rfl (Nat.le_of_ble_eq_true rfl) d_K_fault_1
def kq_K_fault (σ : kc_Sg) (d : Nat) (y : Int32) : kc_Sg := if (kt_K_requireFounded σ) = 0 then (if y < 0 then σ else (if y ≤ (nI 6) then (if (kp_V_hasDealt σ d) = 0 then (if (kp_V_isOneTooMany σ d y) = 0 then (kq_V_turn σ d y) else σ) else σ) else σ)) else σ
def kt_K_fault (σ : kc_Sg) (d : Nat) (y : Int32) : Nat := if (kt_K_requireFounded σ) = 0 then (if y < 0 then 3 else (if y ≤ (nI 6) then (if (kp_V_hasDealt σ d) = 0 then (if (kp_V_isOneTooMany σ d y) = 0 then 0 else 4) else 4) else 3)) else (kt_K_requireFounded σ)
set_option maxHeartbeats 4000000 in
set_option maxRecDepth 100000 in
theorem kx_K_fault (l : Launch) (hlt : l.stackTraces = false) {V : kc_V} (hV : kc_G V) (σ : kc_Sg) (d : Nat) (y : Int32) (hd : 1 ≤ d ∧ d ≤ 7) : kx_Met l y_K_fault b_K_fault 3 none (kx_rm 7) V [.ref (kc_ad V 0), .int (nI d), .int y] σ (kt_K_fault σ d y) none (kq_K_fault σ d y) := by
  refine kx_of hlt (by decide) (Nat.le_of_ble_eq_true rfl) hV.ok (fun C _ hC hG => ?_)
  show kc_Go C V 3 (0, 0) (kx_E C V (kt_K_fault σ d y) none (kq_K_fault σ d y) σ) σ 0 [(0, .ref (kc_ad V 0)), (1, .int (nI d)), (2, .int y)] []
  refine kg_aload_n hC d_K_fault_0 0 rfl ?_
  by_cases hX1 : (kt_K_requireFounded σ) = 0
  · refine kg_virtualV hC (kk_K_requireFounded (kc_l C) hV σ hX1) cal_K_requireFounded tw_278 ts_K_requireFounded tw_276 (ko_0 hV) rfl rfl (by decide) (rest := []) rfl (Nat.le_of_ble_eq_true rfl) d_K_fault_1 ?_ (by decide)
    refine kg_iload_n hC d_K_fault_4 1 rfl ?_
    refine kg_staticV hC (kk_K_requireSeat (kc_l C) hV σ (nI d) (kt_seat_ok hd)) cal_K_requireSeat tw_281 tw_280 rfl (by decide) (rest := []) rfl (Nat.le_of_ble_eq_true rfl) d_K_fault_5 ?_ (by decide)
    refine kg_iload_n hC d_K_fault_8 2 rfl ?_
    refine kg_if_lt hC d_K_fault_9 (tgt := 18) rfl (fun h9 => ?_) (fun h9 => ?_)
    · exact kx_thr_3 hC hG (by rw [kt_K_fault, if_pos hX1, if_pos h9]) (by decide) (Nat.le_of_ble_eq_true rfl) d_K_fault_18 d_K_fault_21 d_K_fault_22 d_K_fault_25
    · refine kg_iload_n hC d_K_fault_12 2 rfl ?_
      refine kg_bipush hC d_K_fault_13 kn_b_6 ?_
      refine kg_icmp_le hC d_K_fault_15 (tgt := 26) rfl (fun h15 => ?_) (fun h15 => ?_)
      · refine kg_aload_n hC d_K_fault_26 0 rfl ?_
        refine kg_getr hC (ko_0 hV) rfl ui_K (j := 2) (by decide) tw_94 rfl d_K_fault_27 rfl ?_
        refine kg_iload_n hC d_K_fault_30 1 rfl ?_
        refine kg_virtualI hC (kk_V_hasDealt (kc_l C) hV σ d) cal_V_hasDealt tw_299 tw_300 tw_298 (ko_3 hV) rfl rfl (by decide) (rest := []) rfl (Nat.le_of_ble_eq_true rfl) d_K_fault_31 ?_ (by decide)
        refine kg_if_ne hC d_K_fault_34 (tgt := 49) rfl (fun h34 => ?_) (fun h34 => ?_)
        · exact kx_thr_4 hC hG (by rw [kt_K_fault, if_pos hX1, if_neg h9, if_pos h15, if_neg h34]) (by decide) (Nat.le_of_ble_eq_true rfl) d_K_fault_49 d_K_fault_52 d_K_fault_53 d_K_fault_56
        · refine kg_aload_n hC d_K_fault_37 0 rfl ?_
          refine kg_getr hC (ko_0 hV) rfl ui_K (j := 2) (by decide) tw_94 rfl d_K_fault_38 rfl ?_
          refine kg_iload_n hC d_K_fault_41 1 rfl ?_
          refine kg_iload_n hC d_K_fault_42 2 rfl ?_
          refine kg_virtualI hC (kk_V_isOneTooMany (kc_l C) hV σ d y) cal_V_isOneTooMany tw_309 tw_310 tw_308 (ko_3 hV) rfl rfl (by decide) (rest := []) rfl (Nat.le_of_ble_eq_true rfl) d_K_fault_43 ?_ (by decide)
          refine kg_if_eq hC d_K_fault_46 (tgt := 57) rfl (fun h46 => ?_) (fun h46 => ?_)
          · refine kg_aload_n hC d_K_fault_57 0 rfl ?_
            refine kg_getr hC (ko_0 hV) rfl ui_K (j := 2) (by decide) tw_94 rfl d_K_fault_58 rfl ?_
            refine kg_iload_n hC d_K_fault_61 1 rfl ?_
            refine kg_iload_n hC d_K_fault_62 2 rfl ?_
            refine kg_virtualV hC (kk_V_turn (kc_l C) hV σ d y (by omega)) cal_V_turn tw_339 tw_340 tw_338 (ko_3 hV) rfl rfl (by decide) (rest := []) rfl (Nat.le_of_ble_eq_true rfl) d_K_fault_63 ?_ (by decide)
            exact kx_vret hC d_K_fault_66 (by rw [kt_K_fault, if_pos hX1, if_neg h9, if_pos h15, if_pos h34, if_pos h46]) (by rw [kq_K_fault, if_pos hX1, if_neg h9, if_pos h15, if_pos h34, if_pos h46])
          · exact kx_thr_4 hC hG (by rw [kt_K_fault, if_pos hX1, if_neg h9, if_pos h15, if_pos h34, if_neg h46]) (by decide) (Nat.le_of_ble_eq_true rfl) d_K_fault_49 d_K_fault_52 d_K_fault_53 d_K_fault_56
      · exact kx_thr_3 hC hG (by rw [kt_K_fault, if_pos hX1, if_neg h9, if_neg h15]) (by decide) (Nat.le_of_ble_eq_true rfl) d_K_fault_18 d_K_fault_21 d_K_fault_22 d_K_fault_25
  · exact kx_outV hC hG (kx_K_requireFounded (kc_l C) hG.2.2.1 hV σ) hX1 (by rw [kt_K_fault, if_neg hX1]) cal_K_requireFounded tw_278 ts_K_requireFounded tw_276 (ko_0 hV) rfl rfl (by decide) (rest := []) rfl (Nat.le_of_ble_eq_true rfl) d_K_fault_1
def kq_K_deal_x (σ : kc_Sg) : kc_Sg := if (kt_K_requireFounded σ) = 0 then σ else σ
def kt_K_deal_x (σ : kc_Sg) (x : Int32) : Nat := if (kt_K_requireFounded σ) = 0 then (kt_K_requireSeat x) else (kt_K_requireFounded σ)
set_option maxHeartbeats 4000000 in
set_option maxRecDepth 100000 in
theorem kx_K_deal_x (l : Launch) (hlt : l.stackTraces = false) {V : kc_V} (hV : kc_G V) (σ : kc_Sg) (x : Int32) (b : Int32) (c : Int32) (e : Int32) (hs : ¬ kt_K_requireSeat x = 0) : kx_Met l y_K_deal b_K_deal 5 none (kx_rm 7) V [.ref (kc_ad V 0), .int x, .int b, .int c, .int e] σ (kt_K_deal_x σ x) none (kq_K_deal_x σ) := by
  refine kx_of hlt (by decide) (Nat.le_of_ble_eq_true rfl) hV.ok (fun C _ hC hG => ?_)
  show kc_Go C V 5 (0, 0) (kx_E C V (kt_K_deal_x σ x) none (kq_K_deal_x σ) σ) σ 0 [(0, .ref (kc_ad V 0)), (1, .int x), (2, .int b), (3, .int c), (4, .int e)] []
  refine kg_aload_n hC d_K_deal_0 0 rfl ?_
  by_cases hX1 : (kt_K_requireFounded σ) = 0
  · refine kg_virtualV hC (kk_K_requireFounded (kc_l C) hV σ hX1) cal_K_requireFounded tw_278 ts_K_requireFounded tw_276 (ko_0 hV) rfl rfl (by decide) (rest := []) rfl (Nat.le_of_ble_eq_true rfl) d_K_deal_1 ?_ (by decide)
    refine kg_iload_n hC d_K_deal_4 1 rfl ?_
    exact kx_outS hC hG (kx_K_requireSeat (kc_l C) hG.2.2.1 hV σ x) hs (by rw [kt_K_deal_x, if_pos hX1]) cal_K_requireSeat tw_281 tw_280 rfl (by decide) (rest := []) rfl (Nat.le_of_ble_eq_true rfl) d_K_deal_5
  · exact kx_outV hC hG (kx_K_requireFounded (kc_l C) hG.2.2.1 hV σ) hX1 (by rw [kt_K_deal_x, if_neg hX1]) cal_K_requireFounded tw_278 ts_K_requireFounded tw_276 (ko_0 hV) rfl rfl (by decide) (rest := []) rfl (Nat.le_of_ble_eq_true rfl) d_K_deal_1
def kq_K_deal (σ : kc_Sg) (d : Nat) (b : Int32) (c : Int32) (e : Int32) : kc_Sg := if (kt_K_requireFounded σ) = 0 then (if (kp_G_areNumbers σ b c e) = 0 then σ else (if (kp_V_hasDealt σ d) = 0 then (if (kp_B_room σ) = 0 then σ else (if (kp_V_isSilent σ d) = 0 then (kq_B_addDealing (kq_V_sendOut σ d b c e) (nI d) ((kq_V_sendOut σ d b c e) 0 6) (22 + d)) else (kq_V_passOver σ d))) else σ)) else σ
def kt_K_deal (σ : kc_Sg) (d : Nat) (b : Int32) (c : Int32) (e : Int32) : Nat := if (kt_K_requireFounded σ) = 0 then (if (kp_G_areNumbers σ b c e) = 0 then 3 else (if (kp_V_hasDealt σ d) = 0 then (if (kp_B_room σ) = 0 then 4 else (if (kp_V_isSilent σ d) = 0 then 0 else 0)) else 4)) else (kt_K_requireFounded σ)
set_option maxHeartbeats 4000000 in
set_option maxRecDepth 100000 in
theorem kx_K_deal (l : Launch) (hlt : l.stackTraces = false) {V : kc_V} (hV : kc_G V) (σ : kc_Sg) (d : Nat) (b : Int32) (c : Int32) (e : Int32) (hd : 1 ≤ d ∧ d ≤ 7) (hp : ¬ σ 1 0 = 0) (hq : ¬ σ 1 1 = 0) (hb : kc_bd σ) : kx_Met l y_K_deal b_K_deal 5 none (kx_rm 7) V [.ref (kc_ad V 0), .int (nI d), .int b, .int c, .int e] σ (kt_K_deal σ d b c e) none (kq_K_deal σ d b c e) := by
  refine kx_of hlt (by decide) (Nat.le_of_ble_eq_true rfl) hV.ok (fun C _ hC hG => ?_)
  show kc_Go C V 5 (0, 0) (kx_E C V (kt_K_deal σ d b c e) none (kq_K_deal σ d b c e) σ) σ 0 [(0, .ref (kc_ad V 0)), (1, .int (nI d)), (2, .int b), (3, .int c), (4, .int e)] []
  refine kg_aload_n hC d_K_deal_0 0 rfl ?_
  by_cases hX1 : (kt_K_requireFounded σ) = 0
  · refine kg_virtualV hC (kk_K_requireFounded (kc_l C) hV σ hX1) cal_K_requireFounded tw_278 ts_K_requireFounded tw_276 (ko_0 hV) rfl rfl (by decide) (rest := []) rfl (Nat.le_of_ble_eq_true rfl) d_K_deal_1 ?_ (by decide)
    refine kg_iload_n hC d_K_deal_4 1 rfl ?_
    refine kg_staticV hC (kk_K_requireSeat (kc_l C) hV σ (nI d) (kt_seat_ok hd)) cal_K_requireSeat tw_281 tw_280 rfl (by decide) (rest := []) rfl (Nat.le_of_ble_eq_true rfl) d_K_deal_5 ?_ (by decide)
    refine kg_aload_n hC d_K_deal_8 0 rfl ?_
    refine kg_getr hC (ko_0 hV) rfl ui_K (j := 0) (by decide) tw_92 rfl d_K_deal_9 rfl ?_
    refine kg_iload_n hC d_K_deal_12 2 rfl ?_
    refine kg_iload_n hC d_K_deal_13 3 rfl ?_
    refine kg_iload hC d_K_deal_14 4 rfl ?_
    refine kg_at (pc' := 16) rfl ?_
    refine kg_virtualI hC (kk_G_areNumbers (kc_l C) hV σ b c e) cal_G_areNumbers tw_244 tw_245 tw_243 (ko_1 hV) rfl rfl (by decide) (rest := []) rfl (Nat.le_of_ble_eq_true rfl) d_K_deal_16 ?_ (by decide)
    refine kg_if_ne hC d_K_deal_19 (tgt := 30) rfl (fun h19 => ?_) (fun h19 => ?_)
    · refine kg_aload_n hC d_K_deal_30 0 rfl ?_
      refine kg_getr hC (ko_0 hV) rfl ui_K (j := 2) (by decide) tw_94 rfl d_K_deal_31 rfl ?_
      refine kg_iload_n hC d_K_deal_34 1 rfl ?_
      refine kg_virtualI hC (kk_V_hasDealt (kc_l C) hV σ d) cal_V_hasDealt tw_299 tw_300 tw_298 (ko_3 hV) rfl rfl (by decide) (rest := []) rfl (Nat.le_of_ble_eq_true rfl) d_K_deal_35 ?_ (by decide)
      refine kg_if_ne hC d_K_deal_38 (tgt := 51) rfl (fun h38 => ?_) (fun h38 => ?_)
      · exact kx_thr_4 hC hG (by rw [kt_K_deal, if_pos hX1, if_neg h19, if_neg h38]) (by decide) (Nat.le_of_ble_eq_true rfl) d_K_deal_51 d_K_deal_54 d_K_deal_55 d_K_deal_58
      · refine kg_aload_n hC d_K_deal_41 0 rfl ?_
        refine kg_getr hC (ko_0 hV) rfl ui_K (j := 1) (by decide) tw_93 rfl d_K_deal_42 rfl ?_
        refine kg_virtualI hC (kk_B_room (kc_l C) hV σ) cal_B_room tw_350 tw_351 tw_349 (ko_2 hV) rfl rfl (by decide) (rest := []) rfl (Nat.le_of_ble_eq_true rfl) d_K_deal_45 ?_ (by decide)
        refine kg_if_ne hC d_K_deal_48 (tgt := 59) rfl (fun h48 => ?_) (fun h48 => ?_)
        · refine kg_aload_n hC d_K_deal_59 0 rfl ?_
          refine kg_getr hC (ko_0 hV) rfl ui_K (j := 2) (by decide) tw_94 rfl d_K_deal_60 rfl ?_
          refine kg_iload_n hC d_K_deal_63 1 rfl ?_
          refine kg_virtualI hC (kk_V_isSilent (kc_l C) hV σ d (by omega)) cal_V_isSilent tw_354 tw_355 tw_353 (ko_3 hV) rfl rfl (by decide) (rest := []) rfl (Nat.le_of_ble_eq_true rfl) d_K_deal_64 ?_ (by decide)
          refine kg_if_eq hC d_K_deal_67 (tgt := 81) rfl (fun h67 => ?_) (fun h67 => ?_)
          · refine kg_aload_n hC d_K_deal_81 0 rfl ?_
            refine kg_getr hC (ko_0 hV) rfl ui_K (j := 2) (by decide) tw_94 rfl d_K_deal_82 rfl ?_
            refine kg_iload_n hC d_K_deal_85 1 rfl ?_
            refine kg_iload_n hC d_K_deal_86 2 rfl ?_
            refine kg_iload_n hC d_K_deal_87 3 rfl ?_
            refine kg_iload hC d_K_deal_88 4 rfl ?_
            refine kg_virtualV hC (kk_V_sendOut (kc_l C) hV σ d b c e hp hq (by omega)) cal_V_sendOut tw_362 tw_363 tw_361 (ko_3 hV) rfl rfl (by decide) (rest := []) rfl (Nat.le_of_ble_eq_true rfl) d_K_deal_90 ?_ (by decide)
            refine kg_aload_n hC d_K_deal_93 0 rfl ?_
            refine kg_at (pc' := 94) rfl ?_
            refine kg_getr hC (ko_0 hV) rfl ui_K (j := 1) (by decide) tw_93 rfl d_K_deal_94 rfl ?_
            refine kg_iload_n hC d_K_deal_97 1 rfl ?_
            refine kg_aload_n hC d_K_deal_98 0 rfl ?_
            refine kg_geti hC (ko_0 hV) rfl ui_K (j := 6) (by decide) tw_98 rfl d_K_deal_99 rfl ?_
            refine kg_aload_n hC d_K_deal_102 0 rfl ?_
            refine kg_getr hC (ko_0 hV) rfl ui_K (j := 2) (by decide) tw_94 rfl d_K_deal_103 rfl ?_
            refine kg_iload_n hC d_K_deal_106 1 rfl ?_
            refine kg_virtualI hC (kk_V_commitmentsOf (kc_l C) hV (kq_V_sendOut σ d b c e) d (by omega)) cal_V_commitmentsOf tw_378 tw_379 tw_377 (ko_3 hV) rfl rfl (by decide) (rest := [.int ((kq_V_sendOut σ d b c e) 0 6), .int (nI d), .ref (kc_ad V 2)]) rfl (Nat.le_of_ble_eq_true rfl) d_K_deal_107 ?_ (by decide)
            refine kg_at (pc' := 110) rfl ?_
            refine kg_virtualV hC (kk_B_addDealing (kc_l C) hV (kq_V_sendOut σ d b c e) (nI d) ((kq_V_sendOut σ d b c e) 0 6) (22 + d) (kc_bd_of (congrFun (ke_sendOut (by decide) (by omega) (by omega) (by omega)) _) hb) (ka_22 hV (by omega))) cal_B_addDealing tw_382 tw_383 tw_381 (ko_2 hV) rfl rfl (by decide) (rest := []) rfl (Nat.le_of_ble_eq_true rfl) d_K_deal_110 ?_ (by decide)
            exact kx_vret hC d_K_deal_113 (by rw [kt_K_deal, if_pos hX1, if_neg h19, if_pos h38, if_neg h48, if_pos h67]) (by rw [kq_K_deal, if_pos hX1, if_neg h19, if_pos h38, if_neg h48, if_pos h67])
          · refine kg_aload_n hC d_K_deal_70 0 rfl ?_
            refine kg_getr hC (ko_0 hV) rfl ui_K (j := 2) (by decide) tw_94 rfl d_K_deal_71 rfl ?_
            refine kg_iload_n hC d_K_deal_74 1 rfl ?_
            refine kg_virtualV hC (kk_V_passOver (kc_l C) hV σ d) cal_V_passOver tw_358 tw_359 tw_357 (ko_3 hV) rfl rfl (by decide) (rest := []) rfl (Nat.le_of_ble_eq_true rfl) d_K_deal_75 ?_ (by decide)
            refine kg_goto hC d_K_deal_78 (tgt := 113) rfl ?_
            exact kx_vret hC d_K_deal_113 (by rw [kt_K_deal, if_pos hX1, if_neg h19, if_pos h38, if_neg h48, if_neg h67]) (by rw [kq_K_deal, if_pos hX1, if_neg h19, if_pos h38, if_neg h48, if_neg h67])
        · exact kx_thr_4 hC hG (by rw [kt_K_deal, if_pos hX1, if_neg h19, if_pos h38, if_pos h48]) (by decide) (Nat.le_of_ble_eq_true rfl) d_K_deal_51 d_K_deal_54 d_K_deal_55 d_K_deal_58
    · exact kx_thr_3 hC hG (by rw [kt_K_deal, if_pos hX1, if_pos h19]) (by decide) (Nat.le_of_ble_eq_true rfl) d_K_deal_22 d_K_deal_25 d_K_deal_26 d_K_deal_29
  · exact kx_outV hC hG (kx_K_requireFounded (kc_l C) hG.2.2.1 hV σ) hX1 (by rw [kt_K_deal, if_neg hX1]) cal_K_requireFounded tw_278 ts_K_requireFounded tw_276 (ko_0 hV) rfl rfl (by decide) (rest := []) rfl (Nat.le_of_ble_eq_true rfl) d_K_deal_1
def kp_K_look_x (σ : kc_Sg) : Int32 := if (kt_K_requireFounded σ) = 0 then (nI 0) else (nI 0)
def kq_K_look_x (σ : kc_Sg) : kc_Sg := if (kt_K_requireFounded σ) = 0 then σ else σ
def kt_K_look_x (σ : kc_Sg) (x : Int32) : Nat := if (kt_K_requireFounded σ) = 0 then (kt_K_requireSeat x) else (kt_K_requireFounded σ)
set_option maxHeartbeats 4000000 in
set_option maxRecDepth 100000 in
theorem kx_K_look_x (l : Launch) (hlt : l.stackTraces = false) {V : kc_V} (hV : kc_G V) (σ : kc_Sg) (x : Int32) (hs : ¬ kt_K_requireSeat x = 0) : kx_Met l y_K_look b_K_look 5 (some .int) (kx_rm 7) V [.ref (kc_ad V 0), .int x] σ (kt_K_look_x σ x) (some (.int (kp_K_look_x σ))) (kq_K_look_x σ) := by
  refine kx_of hlt (by decide) (Nat.le_of_ble_eq_true rfl) hV.ok (fun C _ hC hG => ?_)
  show kc_Go C V 5 (0, 0) (kx_E C V (kt_K_look_x σ x) (some (.int (kp_K_look_x σ))) (kq_K_look_x σ) σ) σ 0 [(0, .ref (kc_ad V 0)), (1, .int x)] []
  refine kg_aload_n hC d_K_look_0 0 rfl ?_
  by_cases hX1 : (kt_K_requireFounded σ) = 0
  · refine kg_virtualV hC (kk_K_requireFounded (kc_l C) hV σ hX1) cal_K_requireFounded tw_278 ts_K_requireFounded tw_276 (ko_0 hV) rfl rfl (by decide) (rest := []) rfl (Nat.le_of_ble_eq_true rfl) d_K_look_1 ?_ (by decide)
    refine kg_iload_n hC d_K_look_4 1 rfl ?_
    exact kx_outS hC hG (kx_K_requireSeat (kc_l C) hG.2.2.1 hV σ x) hs (by rw [kt_K_look_x, if_pos hX1]) cal_K_requireSeat tw_281 tw_280 rfl (by decide) (rest := []) rfl (Nat.le_of_ble_eq_true rfl) d_K_look_5
  · exact kx_outV hC hG (kx_K_requireFounded (kc_l C) hG.2.2.1 hV σ) hX1 (by rw [kt_K_look_x, if_neg hX1]) cal_K_requireFounded tw_278 ts_K_requireFounded tw_276 (ko_0 hV) rfl rfl (by decide) (rest := []) rfl (Nat.le_of_ble_eq_true rfl) d_K_look_1
def kf_K_look_1 (σ : kc_Sg) (d : Nat) (i1 : Nat) (a1 : kc_Sg) : kc_Sg := if (kp_K_isAmong (kp_V_accusedBy σ d) (nI i1)) = 0 then a1 else (kq_B_add (kq_V_complain a1 d i1) (nI 2) (nI d) (nI i1) (nI 0) ((kq_V_complain a1 d i1) 0 6))
def kp_K_look (σ : kc_Sg) (d : Nat) : Int32 := if (kt_K_requireFounded σ) = 0 then (if (kp_JI_bitCount (kp_V_accusedBy σ d)) ≤ (kp_B_room σ) then (kp_JI_bitCount (kp_V_accusedBy σ d)) else (nI 0)) else (nI 0)
def kq_K_look (σ : kc_Sg) (d : Nat) : kc_Sg := if (kt_K_requireFounded σ) = 0 then (if (kp_JI_bitCount (kp_V_accusedBy σ d)) ≤ (kp_B_room σ) then (kc_it (kf_K_look_1 σ d) 7 1 σ) else σ) else σ
def kt_K_look (σ : kc_Sg) (d : Nat) : Nat := if (kt_K_requireFounded σ) = 0 then (if (kp_JI_bitCount (kp_V_accusedBy σ d)) ≤ (kp_B_room σ) then 0 else 4) else (kt_K_requireFounded σ)
set_option maxHeartbeats 4000000 in
set_option maxRecDepth 100000 in
theorem kx_K_look (l : Launch) (hlt : l.stackTraces = false) {V : kc_V} (hV : kc_G V) (σ : kc_Sg) (d : Nat) (hd : 1 ≤ d ∧ d ≤ 7) (hp : ¬ σ 1 0 = 0) (hb : kc_bd σ) : kx_Met l y_K_look b_K_look 5 (some .int) (kx_rm 7) V [.ref (kc_ad V 0), .int (nI d)] σ (kt_K_look σ d) (some (.int (kp_K_look σ d))) (kq_K_look σ d) := by
  refine kx_of hlt (by decide) (Nat.le_of_ble_eq_true rfl) hV.ok (fun C _ hC hG => ?_)
  show kc_Go C V 5 (0, 0) (kx_E C V (kt_K_look σ d) (some (.int (kp_K_look σ d))) (kq_K_look σ d) σ) σ 0 [(0, .ref (kc_ad V 0)), (1, .int (nI d))] []
  refine kg_aload_n hC d_K_look_0 0 rfl ?_
  by_cases hX1 : (kt_K_requireFounded σ) = 0
  · refine kg_virtualV hC (kk_K_requireFounded (kc_l C) hV σ hX1) cal_K_requireFounded tw_278 ts_K_requireFounded tw_276 (ko_0 hV) rfl rfl (by decide) (rest := []) rfl (Nat.le_of_ble_eq_true rfl) d_K_look_1 ?_ (by decide)
    refine kg_iload_n hC d_K_look_4 1 rfl ?_
    refine kg_staticV hC (kk_K_requireSeat (kc_l C) hV σ (nI d) (kt_seat_ok hd)) cal_K_requireSeat tw_281 tw_280 rfl (by decide) (rest := []) rfl (Nat.le_of_ble_eq_true rfl) d_K_look_5 ?_ (by decide)
    refine kg_aload_n hC d_K_look_8 0 rfl ?_
    refine kg_getr hC (ko_0 hV) rfl ui_K (j := 2) (by decide) tw_94 rfl d_K_look_9 rfl ?_
    refine kg_iload_n hC d_K_look_12 1 rfl ?_
    refine kg_virtualI hC (kk_V_accusedBy (kc_l C) hV σ d hp (by omega)) cal_V_accusedBy tw_400 tw_401 tw_399 (ko_3 hV) rfl rfl (by decide) (rest := []) rfl (Nat.le_of_ble_eq_true rfl) d_K_look_13 ?_ (by decide)
    refine kg_istore_n hC d_K_look_16 [(2, .int (kp_V_accusedBy σ d)), (0, .ref (kc_ad V 0)), (1, .int (nI d))] rfl (by decide) ?_
    refine kg_at (pc' := 17) rfl ?_
    refine kg_iload_n hC d_K_look_17 0 rfl ?_
    refine kg_staticI hC (kk_JI_bitCount (kc_l C) hV σ (kp_V_accusedBy σ d)) cal_JI_bitCount tw_318 tw_419 rfl (by decide) (rest := []) rfl (Nat.le_of_ble_eq_true rfl) d_K_look_18 ?_ (by decide)
    refine kg_istore_n hC d_K_look_21 [(3, .int (kp_JI_bitCount (kp_V_accusedBy σ d))), (2, .int (kp_V_accusedBy σ d)), (0, .ref (kc_ad V 0)), (1, .int (nI d))] rfl (by decide) ?_
    refine kg_iload_n hC d_K_look_22 0 rfl ?_
    refine kg_aload_n hC d_K_look_23 2 rfl ?_
    refine kg_getr hC (ko_0 hV) rfl ui_K (j := 1) (by decide) tw_93 rfl d_K_look_24 rfl ?_
    refine kg_virtualI hC (kk_B_room (kc_l C) hV σ) cal_B_room tw_350 tw_351 tw_349 (ko_2 hV) rfl rfl (by decide) (rest := [.int (kp_JI_bitCount (kp_V_accusedBy σ d))]) rfl (Nat.le_of_ble_eq_true rfl) d_K_look_27 ?_ (by decide)
    refine kg_icmp_le hC d_K_look_30 (tgt := 41) rfl (fun h30 => ?_) (fun h30 => ?_)
    · refine kg_iconst hC d_K_look_41 kn_i_1 ?_
      refine kg_istore hC d_K_look_42 [(4, .int (nI 1)), (3, .int (kp_JI_bitCount (kp_V_accusedBy σ d))), (2, .int (kp_V_accusedBy σ d)), (0, .ref (kc_ad V 0)), (1, .int (nI d))] rfl (by decide) ?_
      refine kc_loop (fun i1 a1 => kc_bd a1 → kc_Go C V 5 (0, 0) (kx_E C V (kt_K_look σ d) (some (.int (kp_K_look σ d))) (kq_K_look σ d) σ) a1 44 [(4, .int (nI i1)), (3, .int (kp_JI_bitCount (kp_V_accusedBy σ d))), (2, .int (kp_V_accusedBy σ d)), (0, .ref (kc_ad V 0)), (1, .int (nI d))] []) (kf_K_look_1 σ d) 1 8 (fun i1 a1 ho1 hi1 hk1 hv1 => ?_) 7 1 σ (Nat.le_refl _) rfl (fun hw1 => ?_) hb
      · refine kg_iload hC d_K_look_44 0 rfl ?_
        refine kg_bipush hC d_K_look_46 kn_b_7 ?_
        refine kg_icmp_gt hC d_K_look_48 (tgt := 92) rfl (fun q => absurd q (nI_nlt (by omega) (by decide))) (fun _ => ?_)
        refine kg_iload_n hC d_K_look_51 2 rfl ?_
        refine kg_iload hC d_K_look_52 0 rfl ?_
        refine kg_staticI hC (kk_K_isAmong (kc_l C) hV a1 (kp_V_accusedBy σ d) (nI i1)) cal_K_isAmong tw_303 tw_420 rfl (by decide) (rest := []) rfl (Nat.le_of_ble_eq_true rfl) d_K_look_54 ?_ (by decide)
        refine kg_if_eq hC d_K_look_57 (tgt := 86) rfl (fun h57 => ?_) (fun h57 => ?_)
        · refine kg_iinc hC d_K_look_86 0 rfl (kn_inc1 i1) [(4, .int (nI (i1 + 1))), (3, .int (kp_JI_bitCount (kp_V_accusedBy σ d))), (2, .int (kp_V_accusedBy σ d)), (0, .ref (kc_ad V 0)), (1, .int (nI d))] rfl (by decide) ?_
          refine kg_goto hC d_K_look_89 (tgt := 44) rfl ?_
          exact kg_to (P := fun zz => kc_bd zz → kc_Go C V 5 (0, 0) (kx_E C V (kt_K_look σ d) (some (.int (kp_K_look σ d))) (kq_K_look σ d) σ) zz 44 [(4, .int (nI (i1 + 1))), (3, .int (kp_JI_bitCount (kp_V_accusedBy σ d))), (2, .int (kp_V_accusedBy σ d)), (0, .ref (kc_ad V 0)), (1, .int (nI d))] []) (b := a1) (a := (kf_K_look_1 σ d) i1 a1) (by rw [kf_K_look_1, if_pos h57]) hk1 hv1
        · refine kg_aload_n hC d_K_look_60 3 rfl ?_
          refine kg_getr hC (ko_0 hV) rfl ui_K (j := 2) (by decide) tw_94 rfl d_K_look_61 rfl ?_
          refine kg_iload_n hC d_K_look_64 4 rfl ?_
          refine kg_iload hC d_K_look_65 0 rfl ?_
          refine kg_virtualV hC (kk_V_complain (kc_l C) hV a1 d i1 (by omega)) cal_V_complain tw_422 tw_423 tw_421 (ko_3 hV) rfl rfl (by decide) (rest := []) rfl (Nat.le_of_ble_eq_true rfl) d_K_look_67 ?_ (by decide)
          refine kg_aload_n hC d_K_look_70 3 rfl ?_
          refine kg_getr hC (ko_0 hV) rfl ui_K (j := 1) (by decide) tw_93 rfl d_K_look_71 rfl ?_
          refine kg_iconst hC d_K_look_74 kn_i_2 ?_
          refine kg_at (pc' := 75) rfl ?_
          refine kg_iload_n hC d_K_look_75 4 rfl ?_
          refine kg_iload hC d_K_look_76 0 rfl ?_
          refine kg_iconst hC d_K_look_78 kn_i_0 ?_
          refine kg_aload_n hC d_K_look_79 3 rfl ?_
          refine kg_geti hC (ko_0 hV) rfl ui_K (j := 6) (by decide) tw_98 rfl d_K_look_80 rfl ?_
          refine kg_virtualV hC (kk_B_add (kc_l C) hV (kq_V_complain a1 d i1) (nI 2) (nI d) (nI i1) (nI 0) ((kq_V_complain a1 d i1) 0 6) (kc_bd_of (kc_up_nk (by decide)) hv1)) cal_B_add tw_386 tw_387 tw_425 (ko_2 hV) rfl rfl (by decide) (rest := []) rfl (Nat.le_of_ble_eq_true rfl) d_K_look_83 ?_ (by decide)
          refine kg_iinc hC d_K_look_86 0 rfl (kn_inc1 i1) [(4, .int (nI (i1 + 1))), (3, .int (kp_JI_bitCount (kp_V_accusedBy σ d))), (2, .int (kp_V_accusedBy σ d)), (0, .ref (kc_ad V 0)), (1, .int (nI d))] rfl (by decide) ?_
          refine kg_goto hC d_K_look_89 (tgt := 44) rfl ?_
          exact kg_to (P := fun zz => kc_bd zz → kc_Go C V 5 (0, 0) (kx_E C V (kt_K_look σ d) (some (.int (kp_K_look σ d))) (kq_K_look σ d) σ) zz 44 [(4, .int (nI (i1 + 1))), (3, .int (kp_JI_bitCount (kp_V_accusedBy σ d))), (2, .int (kp_V_accusedBy σ d)), (0, .ref (kc_ad V 0)), (1, .int (nI d))] []) (b := (kq_B_add (kq_V_complain a1 d i1) (nI 2) (nI d) (nI i1) (nI 0) ((kq_V_complain a1 d i1) 0 6))) (a := (kf_K_look_1 σ d) i1 a1) (by rw [kf_K_look_1, if_neg h57]) hk1 (kc_bd_add (kc_bd_of (kc_up_nk (by decide)) hv1))
      generalize hg1 : (kc_it (kf_K_look_1 σ d) 7 1 σ) = τ1 at hw1 ⊢
      refine kg_iload hC d_K_look_44 0 rfl ?_
      refine kg_bipush hC d_K_look_46 kn_b_7 ?_
      refine kg_icmp_gt hC d_K_look_48 (tgt := 92) rfl (fun _ => ?_) (fun q => absurd (nI_lt (by decide) (by decide)) q)
      refine kg_iload_n hC d_K_look_92 1 rfl ?_
      exact kx_iret hC d_K_look_93 (by rw [kt_K_look, if_pos hX1, if_pos h30]) (by rw [kp_K_look, if_pos hX1, if_pos h30]) (by rw [kq_K_look, hg1, if_pos hX1, if_pos h30])
    · exact kx_thr_4 hC hG (by rw [kt_K_look, if_pos hX1, if_neg h30]) (by decide) (Nat.le_of_ble_eq_true rfl) d_K_look_33 d_K_look_36 d_K_look_37 d_K_look_40
  · exact kx_outV hC hG (kx_K_requireFounded (kc_l C) hG.2.2.1 hV σ) hX1 (by rw [kt_K_look, if_neg hX1]) cal_K_requireFounded tw_278 ts_K_requireFounded tw_276 (ko_0 hV) rfl rfl (by decide) (rest := []) rfl (Nat.le_of_ble_eq_true rfl) d_K_look_1
def kp_K_answer_x (σ : kc_Sg) : Int32 := if (kt_K_requireFounded σ) = 0 then (nI 0) else (nI 0)
def kq_K_answer_x (σ : kc_Sg) : kc_Sg := if (kt_K_requireFounded σ) = 0 then σ else σ
def kt_K_answer_x (σ : kc_Sg) (x : Int32) : Nat := if (kt_K_requireFounded σ) = 0 then (kt_K_requireSeat x) else (kt_K_requireFounded σ)
set_option maxHeartbeats 4000000 in
set_option maxRecDepth 100000 in
theorem kx_K_answer_x (l : Launch) (hlt : l.stackTraces = false) {V : kc_V} (hV : kc_G V) (σ : kc_Sg) (x : Int32) (y : Int32) (hs : ¬ kt_K_requireSeat x = 0) : kx_Met l y_K_answer b_K_answer 4 (some .boolean) (kx_rm 7) V [.ref (kc_ad V 0), .int x, .int y] σ (kt_K_answer_x σ x) (some (.int (kp_K_answer_x σ))) (kq_K_answer_x σ) := by
  refine kx_of hlt (by decide) (Nat.le_of_ble_eq_true rfl) hV.ok (fun C _ hC hG => ?_)
  show kc_Go C V 4 (0, 0) (kx_E C V (kt_K_answer_x σ x) (some (.int (kp_K_answer_x σ))) (kq_K_answer_x σ) σ) σ 0 [(0, .ref (kc_ad V 0)), (1, .int x), (2, .int y)] []
  refine kg_aload_n hC d_K_answer_0 0 rfl ?_
  by_cases hX1 : (kt_K_requireFounded σ) = 0
  · refine kg_virtualV hC (kk_K_requireFounded (kc_l C) hV σ hX1) cal_K_requireFounded tw_278 ts_K_requireFounded tw_276 (ko_0 hV) rfl rfl (by decide) (rest := []) rfl (Nat.le_of_ble_eq_true rfl) d_K_answer_1 ?_ (by decide)
    refine kg_iload_n hC d_K_answer_4 1 rfl ?_
    exact kx_outS hC hG (kx_K_requireSeat (kc_l C) hG.2.2.1 hV σ x) hs (by rw [kt_K_answer_x, if_pos hX1]) cal_K_requireSeat tw_281 tw_280 rfl (by decide) (rest := []) rfl (Nat.le_of_ble_eq_true rfl) d_K_answer_5
  · exact kx_outV hC hG (kx_K_requireFounded (kc_l C) hG.2.2.1 hV σ) hX1 (by rw [kt_K_answer_x, if_neg hX1]) cal_K_requireFounded tw_278 ts_K_requireFounded tw_276 (ko_0 hV) rfl rfl (by decide) (rest := []) rfl (Nat.le_of_ble_eq_true rfl) d_K_answer_1
def kp_K_answer_y (σ : kc_Sg) : Int32 := if (kt_K_requireFounded σ) = 0 then (nI 0) else (nI 0)
def kq_K_answer_y (σ : kc_Sg) : kc_Sg := if (kt_K_requireFounded σ) = 0 then σ else σ
def kt_K_answer_y (σ : kc_Sg) (y : Int32) : Nat := if (kt_K_requireFounded σ) = 0 then (kt_K_requireSeat y) else (kt_K_requireFounded σ)
set_option maxHeartbeats 4000000 in
set_option maxRecDepth 100000 in
theorem kx_K_answer_y (l : Launch) (hlt : l.stackTraces = false) {V : kc_V} (hV : kc_G V) (σ : kc_Sg) (d : Nat) (y : Int32) (hd : 1 ≤ d ∧ d ≤ 7) (hs : ¬ kt_K_requireSeat y = 0) : kx_Met l y_K_answer b_K_answer 4 (some .boolean) (kx_rm 7) V [.ref (kc_ad V 0), .int (nI d), .int y] σ (kt_K_answer_y σ y) (some (.int (kp_K_answer_y σ))) (kq_K_answer_y σ) := by
  refine kx_of hlt (by decide) (Nat.le_of_ble_eq_true rfl) hV.ok (fun C _ hC hG => ?_)
  show kc_Go C V 4 (0, 0) (kx_E C V (kt_K_answer_y σ y) (some (.int (kp_K_answer_y σ))) (kq_K_answer_y σ) σ) σ 0 [(0, .ref (kc_ad V 0)), (1, .int (nI d)), (2, .int y)] []
  refine kg_aload_n hC d_K_answer_0 0 rfl ?_
  by_cases hX1 : (kt_K_requireFounded σ) = 0
  · refine kg_virtualV hC (kk_K_requireFounded (kc_l C) hV σ hX1) cal_K_requireFounded tw_278 ts_K_requireFounded tw_276 (ko_0 hV) rfl rfl (by decide) (rest := []) rfl (Nat.le_of_ble_eq_true rfl) d_K_answer_1 ?_ (by decide)
    refine kg_iload_n hC d_K_answer_4 1 rfl ?_
    refine kg_staticV hC (kk_K_requireSeat (kc_l C) hV σ (nI d) (kt_seat_ok hd)) cal_K_requireSeat tw_281 tw_280 rfl (by decide) (rest := []) rfl (Nat.le_of_ble_eq_true rfl) d_K_answer_5 ?_ (by decide)
    refine kg_iload_n hC d_K_answer_8 2 rfl ?_
    exact kx_outS hC hG (kx_K_requireSeat (kc_l C) hG.2.2.1 hV σ y) hs (by rw [kt_K_answer_y, if_pos hX1]) cal_K_requireSeat tw_281 tw_280 rfl (by decide) (rest := []) rfl (Nat.le_of_ble_eq_true rfl) d_K_answer_9
  · exact kx_outV hC hG (kx_K_requireFounded (kc_l C) hG.2.2.1 hV σ) hX1 (by rw [kt_K_answer_y, if_neg hX1]) cal_K_requireFounded tw_278 ts_K_requireFounded tw_276 (ko_0 hV) rfl rfl (by decide) (rest := []) rfl (Nat.le_of_ble_eq_true rfl) d_K_answer_1
def kp_K_answer (σ : kc_Sg) (d : Nat) (k : Nat) : Int32 := if (kt_K_requireFounded σ) = 0 then (if (kp_K_isAmong (kp_V_dealers σ) (nI d)) = 0 then (nI 0) else (if (kp_B_room σ) = 0 then (nI 0) else (if (kp_V_shownBy σ d k) = (-1) then (nI 0) else (kp_V_settle (kq_B_add σ (nI 3) (nI d) (nI k) (kp_V_shownBy σ d k) (σ 0 6)) d k (kp_V_shownBy σ d k))))) else (nI 0)
def kq_K_answer (σ : kc_Sg) (d : Nat) (k : Nat) : kc_Sg := if (kt_K_requireFounded σ) = 0 then (if (kp_K_isAmong (kp_V_dealers σ) (nI d)) = 0 then σ else (if (kp_B_room σ) = 0 then σ else (if (kp_V_shownBy σ d k) = (-1) then σ else (kq_V_settle (kq_B_add σ (nI 3) (nI d) (nI k) (kp_V_shownBy σ d k) (σ 0 6)) d k (kp_V_shownBy σ d k))))) else σ
def kt_K_answer (σ : kc_Sg) (d : Nat) (k : Nat) : Nat := if (kt_K_requireFounded σ) = 0 then (if (kp_K_isAmong (kp_V_dealers σ) (nI d)) = 0 then 3 else (if (kp_B_room σ) = 0 then 4 else (if (kp_V_shownBy σ d k) = (-1) then 0 else 0))) else (kt_K_requireFounded σ)
set_option maxHeartbeats 4000000 in
set_option maxRecDepth 100000 in
theorem kx_K_answer (l : Launch) (hlt : l.stackTraces = false) {V : kc_V} (hV : kc_G V) (σ : kc_Sg) (d : Nat) (k : Nat) (hd : 1 ≤ d ∧ d ≤ 7) (hk : 1 ≤ k ∧ k ≤ 7) (hp : ¬ σ 1 0 = 0) (hq : ¬ σ 1 1 = 0) (hb : kc_bd σ) : kx_Met l y_K_answer b_K_answer 4 (some .boolean) (kx_rm 7) V [.ref (kc_ad V 0), .int (nI d), .int (nI k)] σ (kt_K_answer σ d k) (some (.int (kp_K_answer σ d k))) (kq_K_answer σ d k) := by
  refine kx_of hlt (by decide) (Nat.le_of_ble_eq_true rfl) hV.ok (fun C _ hC hG => ?_)
  show kc_Go C V 4 (0, 0) (kx_E C V (kt_K_answer σ d k) (some (.int (kp_K_answer σ d k))) (kq_K_answer σ d k) σ) σ 0 [(0, .ref (kc_ad V 0)), (1, .int (nI d)), (2, .int (nI k))] []
  refine kg_aload_n hC d_K_answer_0 0 rfl ?_
  by_cases hX1 : (kt_K_requireFounded σ) = 0
  · refine kg_virtualV hC (kk_K_requireFounded (kc_l C) hV σ hX1) cal_K_requireFounded tw_278 ts_K_requireFounded tw_276 (ko_0 hV) rfl rfl (by decide) (rest := []) rfl (Nat.le_of_ble_eq_true rfl) d_K_answer_1 ?_ (by decide)
    refine kg_iload_n hC d_K_answer_4 1 rfl ?_
    refine kg_staticV hC (kk_K_requireSeat (kc_l C) hV σ (nI d) (kt_seat_ok hd)) cal_K_requireSeat tw_281 tw_280 rfl (by decide) (rest := []) rfl (Nat.le_of_ble_eq_true rfl) d_K_answer_5 ?_ (by decide)
    refine kg_iload_n hC d_K_answer_8 2 rfl ?_
    refine kg_staticV hC (kk_K_requireSeat (kc_l C) hV σ (nI k) (kt_seat_ok hk)) cal_K_requireSeat tw_281 tw_280 rfl (by decide) (rest := []) rfl (Nat.le_of_ble_eq_true rfl) d_K_answer_9 ?_ (by decide)
    refine kg_aload_n hC d_K_answer_12 0 rfl ?_
    refine kg_getr hC (ko_0 hV) rfl ui_K (j := 2) (by decide) tw_94 rfl d_K_answer_13 rfl ?_
    refine kg_virtualI hC (kk_V_dealers (kc_l C) hV σ) cal_V_dealers tw_434 tw_435 tw_433 (ko_3 hV) rfl rfl (by decide) (rest := []) rfl (Nat.le_of_ble_eq_true rfl) d_K_answer_16 ?_ (by decide)
    refine kg_at (pc' := 19) rfl ?_
    refine kg_iload_n hC d_K_answer_19 1 rfl ?_
    refine kg_staticI hC (kk_K_isAmong (kc_l C) hV σ (kp_V_dealers σ) (nI d)) cal_K_isAmong tw_303 tw_420 rfl (by decide) (rest := []) rfl (Nat.le_of_ble_eq_true rfl) d_K_answer_20 ?_ (by decide)
    refine kg_if_ne hC d_K_answer_23 (tgt := 34) rfl (fun h23 => ?_) (fun h23 => ?_)
    · refine kg_aload_n hC d_K_answer_34 0 rfl ?_
      refine kg_getr hC (ko_0 hV) rfl ui_K (j := 1) (by decide) tw_93 rfl d_K_answer_35 rfl ?_
      refine kg_virtualI hC (kk_B_room (kc_l C) hV σ) cal_B_room tw_350 tw_351 tw_349 (ko_2 hV) rfl rfl (by decide) (rest := []) rfl (Nat.le_of_ble_eq_true rfl) d_K_answer_38 ?_ (by decide)
      refine kg_if_ne hC d_K_answer_41 (tgt := 52) rfl (fun h41 => ?_) (fun h41 => ?_)
      · refine kg_aload_n hC d_K_answer_52 0 rfl ?_
        refine kg_getr hC (ko_0 hV) rfl ui_K (j := 2) (by decide) tw_94 rfl d_K_answer_53 rfl ?_
        refine kg_iload_n hC d_K_answer_56 1 rfl ?_
        refine kg_iload_n hC d_K_answer_57 2 rfl ?_
        refine kg_virtualI hC (kk_V_shownBy (kc_l C) hV σ d k hq (by omega)) cal_V_shownBy tw_438 tw_439 tw_437 (ko_3 hV) rfl rfl (by decide) (rest := []) rfl (Nat.le_of_ble_eq_true rfl) d_K_answer_58 ?_ (by decide)
        refine kg_istore_n hC d_K_answer_61 [(3, .int (kp_V_shownBy σ d k)), (0, .ref (kc_ad V 0)), (1, .int (nI d)), (2, .int (nI k))] rfl (by decide) ?_
        refine kg_iload_n hC d_K_answer_62 0 rfl ?_
        refine kg_iconst hC d_K_answer_63 kn_i_m1 ?_
        refine kg_at (pc' := 64) rfl ?_
        refine kg_icmp_ne hC d_K_answer_64 (tgt := 69) rfl (fun h64 => ?_) (fun h64 => ?_)
        · refine kg_aload_n hC d_K_answer_69 1 rfl ?_
          refine kg_getr hC (ko_0 hV) rfl ui_K (j := 1) (by decide) tw_93 rfl d_K_answer_70 rfl ?_
          refine kg_iconst hC d_K_answer_73 kn_i_3 ?_
          refine kg_iload_n hC d_K_answer_74 2 rfl ?_
          refine kg_iload_n hC d_K_answer_75 3 rfl ?_
          refine kg_iload_n hC d_K_answer_76 0 rfl ?_
          refine kg_aload_n hC d_K_answer_77 1 rfl ?_
          refine kg_geti hC (ko_0 hV) rfl ui_K (j := 6) (by decide) tw_98 rfl d_K_answer_78 rfl ?_
          refine kg_at (pc' := 81) rfl ?_
          refine kg_virtualV hC (kk_B_add (kc_l C) hV σ (nI 3) (nI d) (nI k) (kp_V_shownBy σ d k) (σ 0 6) hb) cal_B_add tw_386 tw_387 tw_425 (ko_2 hV) rfl rfl (by decide) (rest := []) rfl (Nat.le_of_ble_eq_true rfl) d_K_answer_81 ?_ (by decide)
          refine kg_aload_n hC d_K_answer_84 1 rfl ?_
          refine kg_getr hC (ko_0 hV) rfl ui_K (j := 2) (by decide) tw_94 rfl d_K_answer_85 rfl ?_
          refine kg_iload_n hC d_K_answer_88 2 rfl ?_
          refine kg_iload_n hC d_K_answer_89 3 rfl ?_
          refine kg_iload_n hC d_K_answer_90 0 rfl ?_
          refine kg_virtualI hC (kk_V_settle (kc_l C) hV (kq_B_add σ (nI 3) (nI d) (nI k) (kp_V_shownBy σ d k) (σ 0 6)) d k (kp_V_shownBy σ d k) (by rw [ke_addc (by decide) (by decide)]; exact hp) (by omega) (by omega)) cal_V_settle tw_442 tw_443 tw_441 (ko_3 hV) rfl rfl (by decide) (rest := []) rfl (Nat.le_of_ble_eq_true rfl) d_K_answer_91 ?_ (by decide)
          exact kx_zret hC d_K_answer_94 (kn_zb (kz_V_settle _ _ _ _)) (by rw [kt_K_answer, if_pos hX1, if_neg h23, if_neg h41, if_neg h64]) (by rw [kp_K_answer, if_pos hX1, if_neg h23, if_neg h41, if_neg h64]) (by rw [kq_K_answer, if_pos hX1, if_neg h23, if_neg h41, if_neg h64])
        · refine kg_iconst hC d_K_answer_67 kn_i_0 ?_
          exact kx_zret hC d_K_answer_68 kn_z0 (by rw [kt_K_answer, if_pos hX1, if_neg h23, if_neg h41, if_pos h64]) (by rw [kp_K_answer, if_pos hX1, if_neg h23, if_neg h41, if_pos h64]) (by rw [kq_K_answer, if_pos hX1, if_neg h23, if_neg h41, if_pos h64])
      · exact kx_thr_4 hC hG (by rw [kt_K_answer, if_pos hX1, if_neg h23, if_pos h41]) (by decide) (Nat.le_of_ble_eq_true rfl) d_K_answer_44 d_K_answer_47 d_K_answer_48 d_K_answer_51
    · exact kx_thr_3 hC hG (by rw [kt_K_answer, if_pos hX1, if_pos h23]) (by decide) (Nat.le_of_ble_eq_true rfl) d_K_answer_26 d_K_answer_29 d_K_answer_30 d_K_answer_33
  · exact kx_outV hC hG (kx_K_requireFounded (kc_l C) hG.2.2.1 hV σ) hX1 (by rw [kt_K_answer, if_neg hX1]) cal_K_requireFounded tw_278 ts_K_requireFounded tw_276 (ko_0 hV) rfl rfl (by decide) (rest := []) rfl (Nat.le_of_ble_eq_true rfl) d_K_answer_1
def kf_K_close_1 (σ : kc_Sg) (i1 : Nat) (a1 : kc_Sg) : kc_Sg := if (kp_K_isAmong (kp_V_accepted σ) (nI i1)) = 0 then a1 else (kq_K_takeOver a1 i1)
def kp_K_close (σ : kc_Sg) : Int32 := if (kt_K_requireFounded σ) = 0 then (kp_V_accepted σ) else (nI 0)
def kq_K_close (σ : kc_Sg) : kc_Sg := if (kt_K_requireFounded σ) = 0 then (kc_up (kq_V_begin (kc_it (kf_K_close_1 σ) 7 1 σ)) 0 6 (((kq_V_begin (kc_it (kf_K_close_1 σ) 7 1 σ)) 0 6) + (nI 1))) else σ
def kt_K_close (σ : kc_Sg) : Nat := if (kt_K_requireFounded σ) = 0 then 0 else (kt_K_requireFounded σ)
set_option maxHeartbeats 4000000 in
set_option maxRecDepth 100000 in
theorem kx_K_close (l : Launch) (hlt : l.stackTraces = false) {V : kc_V} (hV : kc_G V) (σ : kc_Sg) (hp : ¬ σ 1 0 = 0) (hq : ¬ σ 1 1 = 0) : kx_Met l y_K_close b_K_close 3 (some .int) (kx_rm 7) V [.ref (kc_ad V 0)] σ (kt_K_close σ) (some (.int (kp_K_close σ))) (kq_K_close σ) := by
  refine kx_of hlt (by decide) (Nat.le_of_ble_eq_true rfl) hV.ok (fun C _ hC hG => ?_)
  show kc_Go C V 3 (0, 0) (kx_E C V (kt_K_close σ) (some (.int (kp_K_close σ))) (kq_K_close σ) σ) σ 0 [(0, .ref (kc_ad V 0))] []
  refine kg_aload_n hC d_K_close_0 0 rfl ?_
  by_cases hX1 : (kt_K_requireFounded σ) = 0
  · refine kg_virtualV hC (kk_K_requireFounded (kc_l C) hV σ hX1) cal_K_requireFounded tw_278 ts_K_requireFounded tw_276 (ko_0 hV) rfl rfl (by decide) (rest := []) rfl (Nat.le_of_ble_eq_true rfl) d_K_close_1 ?_ (by decide)
    refine kg_aload_n hC d_K_close_4 0 rfl ?_
    refine kg_getr hC (ko_0 hV) rfl ui_K (j := 2) (by decide) tw_94 rfl d_K_close_5 rfl ?_
    refine kg_virtualI hC (kk_V_accepted (kc_l C) hV σ) cal_V_accepted tw_453 tw_454 tw_452 (ko_3 hV) rfl rfl (by decide) (rest := []) rfl (Nat.le_of_ble_eq_true rfl) d_K_close_8 ?_ (by decide)
    refine kg_istore_n hC d_K_close_11 [(1, .int (kp_V_accepted σ)), (0, .ref (kc_ad V 0))] rfl (by decide) ?_
    refine kg_iconst hC d_K_close_12 kn_i_1 ?_
    refine kg_istore_n hC d_K_close_13 [(2, .int (nI 1)), (1, .int (kp_V_accepted σ)), (0, .ref (kc_ad V 0))] rfl (by decide) ?_
    refine kc_loop (fun i1 a1 => a1 1 = σ 1 → kc_Go C V 3 (0, 0) (kx_E C V (kt_K_close σ) (some (.int (kp_K_close σ))) (kq_K_close σ) σ) a1 14 [(2, .int (nI i1)), (1, .int (kp_V_accepted σ)), (0, .ref (kc_ad V 0))] []) (kf_K_close_1 σ) 1 8 (fun i1 a1 ho1 hi1 hk1 hv1 => ?_) 7 1 σ (Nat.le_refl _) rfl (fun hw1 => ?_) rfl
    · refine kg_iload_n hC d_K_close_14 0 rfl ?_
      refine kg_bipush hC d_K_close_15 kn_b_7 ?_
      refine kg_icmp_gt hC d_K_close_17 (tgt := 39) rfl (fun q => absurd q (nI_nlt (by omega) (by decide))) (fun _ => ?_)
      refine kg_iload_n hC d_K_close_20 1 rfl ?_
      refine kg_iload_n hC d_K_close_21 0 rfl ?_
      refine kg_staticI hC (kk_K_isAmong (kc_l C) hV a1 (kp_V_accepted σ) (nI i1)) cal_K_isAmong tw_303 tw_420 rfl (by decide) (rest := []) rfl (Nat.le_of_ble_eq_true rfl) d_K_close_22 ?_ (by decide)
      refine kg_if_eq hC d_K_close_25 (tgt := 33) rfl (fun h25 => ?_) (fun h25 => ?_)
      · refine kg_iinc hC d_K_close_33 0 rfl (kn_inc1 i1) [(2, .int (nI (i1 + 1))), (1, .int (kp_V_accepted σ)), (0, .ref (kc_ad V 0))] rfl (by decide) ?_
        refine kg_goto hC d_K_close_36 (tgt := 14) rfl ?_
        exact kg_to (P := fun zz => zz 1 = σ 1 → kc_Go C V 3 (0, 0) (kx_E C V (kt_K_close σ) (some (.int (kp_K_close σ))) (kq_K_close σ) σ) zz 14 [(2, .int (nI (i1 + 1))), (1, .int (kp_V_accepted σ)), (0, .ref (kc_ad V 0))] []) (b := a1) (a := (kf_K_close_1 σ) i1 a1) (by rw [kf_K_close_1, if_pos h25]) hk1 hv1
      · refine kg_aload_n hC d_K_close_28 2 rfl ?_
        refine kg_iload_n hC d_K_close_29 0 rfl ?_
        refine kg_virtualV hC (kk_K_takeOver (kc_l C) hV a1 i1 (by rw [hv1]; exact hp) (by rw [hv1]; exact hq) (by omega)) cal_K_takeOver tw_458 ts_K_takeOver tw_456 (ko_0 hV) rfl rfl (by decide) (rest := []) rfl (Nat.le_of_ble_eq_true rfl) d_K_close_30 ?_ (by decide)
        refine kg_iinc hC d_K_close_33 0 rfl (kn_inc1 i1) [(2, .int (nI (i1 + 1))), (1, .int (kp_V_accepted σ)), (0, .ref (kc_ad V 0))] rfl (by decide) ?_
        refine kg_goto hC d_K_close_36 (tgt := 14) rfl ?_
        exact kg_to (P := fun zz => zz 1 = σ 1 → kc_Go C V 3 (0, 0) (kx_E C V (kt_K_close σ) (some (.int (kp_K_close σ))) (kq_K_close σ) σ) zz 14 [(2, .int (nI (i1 + 1))), (1, .int (kp_V_accepted σ)), (0, .ref (kc_ad V 0))] []) (b := (kq_K_takeOver a1 i1)) (a := (kf_K_close_1 σ) i1 a1) (by rw [kf_K_close_1, if_neg h25]) hk1 (by rw [ke_takeOver (by decide) (by decide)]; exact hv1)
    generalize hg1 : (kc_it (kf_K_close_1 σ) 7 1 σ) = τ1 at hw1 ⊢
    refine kg_iload_n hC d_K_close_14 0 rfl ?_
    refine kg_bipush hC d_K_close_15 kn_b_7 ?_
    refine kg_icmp_gt hC d_K_close_17 (tgt := 39) rfl (fun _ => ?_) (fun q => absurd (nI_lt (by decide) (by decide)) q)
    refine kg_aload_n hC d_K_close_39 2 rfl ?_
    refine kg_getr hC (ko_0 hV) rfl ui_K (j := 2) (by decide) tw_94 rfl d_K_close_40 rfl ?_
    refine kg_virtualV hC (kk_V_begin (kc_l C) hV τ1) cal_V_begin tw_205 tw_206 tw_204 (ko_3 hV) rfl rfl (by decide) (rest := []) rfl (Nat.le_of_ble_eq_true rfl) d_K_close_43 ?_ (by decide)
    refine kg_aload_n hC d_K_close_46 2 rfl ?_
    refine kg_dup hC d_K_close_47 rfl ?_
    refine kg_at (pc' := 48) rfl ?_
    refine kg_geti hC (ko_0 hV) rfl ui_K (j := 6) (by decide) tw_98 rfl d_K_close_48 rfl ?_
    refine kg_iconst hC d_K_close_51 kn_i_1 ?_
    refine kg_iadd hC d_K_close_52 ?_
    refine kg_puti hC (ko_0 hV) rfl ui_K ok_K nm_K (j := 6) (by decide) tw_98 rfl rfl rfl rfl d_K_close_53 rfl ?_
    refine kg_iload_n hC d_K_close_56 1 rfl ?_
    exact kx_iret hC d_K_close_57 (by rw [kt_K_close, if_pos hX1]) (by rw [kp_K_close, if_pos hX1]) (by rw [kq_K_close, hg1, if_pos hX1])
  · exact kx_outV hC hG (kx_K_requireFounded (kc_l C) hG.2.2.1 hV σ) hX1 (by rw [kt_K_close, if_neg hX1]) cal_K_requireFounded tw_278 ts_K_requireFounded tw_276 (ko_0 hV) rfl rfl (by decide) (rest := []) rfl (Nat.le_of_ble_eq_true rfl) d_K_close_1
def kq_K_wipe_x (σ : kc_Sg) : kc_Sg := if (kt_K_requireFounded σ) = 0 then σ else σ
def kt_K_wipe_x (σ : kc_Sg) (x : Int32) : Nat := if (kt_K_requireFounded σ) = 0 then (kt_K_requireSeat x) else (kt_K_requireFounded σ)
set_option maxHeartbeats 4000000 in
set_option maxRecDepth 100000 in
theorem kx_K_wipe_x (l : Launch) (hlt : l.stackTraces = false) {V : kc_V} (hV : kc_G V) (σ : kc_Sg) (x : Int32) (hs : ¬ kt_K_requireSeat x = 0) : kx_Met l y_K_wipe b_K_wipe 2 none (kx_rm 7) V [.ref (kc_ad V 0), .int x] σ (kt_K_wipe_x σ x) none (kq_K_wipe_x σ) := by
  refine kx_of hlt (by decide) (Nat.le_of_ble_eq_true rfl) hV.ok (fun C _ hC hG => ?_)
  show kc_Go C V 2 (0, 0) (kx_E C V (kt_K_wipe_x σ x) none (kq_K_wipe_x σ) σ) σ 0 [(0, .ref (kc_ad V 0)), (1, .int x)] []
  refine kg_aload_n hC d_K_wipe_0 0 rfl ?_
  by_cases hX1 : (kt_K_requireFounded σ) = 0
  · refine kg_virtualV hC (kk_K_requireFounded (kc_l C) hV σ hX1) cal_K_requireFounded tw_278 ts_K_requireFounded tw_276 (ko_0 hV) rfl rfl (by decide) (rest := []) rfl (Nat.le_of_ble_eq_true rfl) d_K_wipe_1 ?_ (by decide)
    refine kg_iload_n hC d_K_wipe_4 1 rfl ?_
    exact kx_outS hC hG (kx_K_requireSeat (kc_l C) hG.2.2.1 hV σ x) hs (by rw [kt_K_wipe_x, if_pos hX1]) cal_K_requireSeat tw_281 tw_280 rfl (by decide) (rest := []) rfl (Nat.le_of_ble_eq_true rfl) d_K_wipe_5
  · exact kx_outV hC hG (kx_K_requireFounded (kc_l C) hG.2.2.1 hV σ) hX1 (by rw [kt_K_wipe_x, if_neg hX1]) cal_K_requireFounded tw_278 ts_K_requireFounded tw_276 (ko_0 hV) rfl rfl (by decide) (rest := []) rfl (Nat.le_of_ble_eq_true rfl) d_K_wipe_1
def kq_K_wipe (σ : kc_Sg) (d : Nat) : kc_Sg := if (kt_K_requireFounded σ) = 0 then (if (kp_K_isWiped σ d) = 0 then (kc_up σ 4 d (-1)) else σ) else σ
def kt_K_wipe (σ : kc_Sg) (d : Nat) : Nat := if (kt_K_requireFounded σ) = 0 then (if (kp_K_isWiped σ d) = 0 then 0 else 4) else (kt_K_requireFounded σ)
set_option maxHeartbeats 4000000 in
set_option maxRecDepth 100000 in
theorem kx_K_wipe (l : Launch) (hlt : l.stackTraces = false) {V : kc_V} (hV : kc_G V) (σ : kc_Sg) (d : Nat) (hd : 1 ≤ d ∧ d ≤ 7) : kx_Met l y_K_wipe b_K_wipe 2 none (kx_rm 7) V [.ref (kc_ad V 0), .int (nI d)] σ (kt_K_wipe σ d) none (kq_K_wipe σ d) := by
  refine kx_of hlt (by decide) (Nat.le_of_ble_eq_true rfl) hV.ok (fun C _ hC hG => ?_)
  show kc_Go C V 2 (0, 0) (kx_E C V (kt_K_wipe σ d) none (kq_K_wipe σ d) σ) σ 0 [(0, .ref (kc_ad V 0)), (1, .int (nI d))] []
  refine kg_aload_n hC d_K_wipe_0 0 rfl ?_
  by_cases hX1 : (kt_K_requireFounded σ) = 0
  · refine kg_virtualV hC (kk_K_requireFounded (kc_l C) hV σ hX1) cal_K_requireFounded tw_278 ts_K_requireFounded tw_276 (ko_0 hV) rfl rfl (by decide) (rest := []) rfl (Nat.le_of_ble_eq_true rfl) d_K_wipe_1 ?_ (by decide)
    refine kg_iload_n hC d_K_wipe_4 1 rfl ?_
    refine kg_staticV hC (kk_K_requireSeat (kc_l C) hV σ (nI d) (kt_seat_ok hd)) cal_K_requireSeat tw_281 tw_280 rfl (by decide) (rest := []) rfl (Nat.le_of_ble_eq_true rfl) d_K_wipe_5 ?_ (by decide)
    refine kg_aload_n hC d_K_wipe_8 0 rfl ?_
    refine kg_iload_n hC d_K_wipe_9 1 rfl ?_
    refine kg_virtualI hC (kk_K_isWiped (kc_l C) hV σ d (by omega)) cal_K_isWiped tw_462 ts_K_isWiped tw_460 (ko_0 hV) rfl rfl (by decide) (rest := []) rfl (Nat.le_of_ble_eq_true rfl) d_K_wipe_10 ?_ (by decide)
    refine kg_if_eq hC d_K_wipe_13 (tgt := 24) rfl (fun h13 => ?_) (fun h13 => ?_)
    · refine kg_aload_n hC d_K_wipe_24 0 rfl ?_
      refine kg_getr hC (ko_0 hV) rfl ui_K (j := 3) (by decide) tw_95 rfl d_K_wipe_25 rfl ?_
      refine kg_iload_n hC d_K_wipe_28 1 rfl ?_
      refine kg_iconst hC d_K_wipe_29 kn_i_m1 ?_
      refine kg_iast hC (ka_4 hV) (i := d) rfl (by omega) d_K_wipe_30 ?_
      exact kx_vret hC d_K_wipe_31 (by rw [kt_K_wipe, if_pos hX1, if_pos h13]) (by rw [kq_K_wipe, if_pos hX1, if_pos h13])
    · exact kx_thr_4 hC hG (by rw [kt_K_wipe, if_pos hX1, if_neg h13]) (by decide) (Nat.le_of_ble_eq_true rfl) d_K_wipe_16 d_K_wipe_19 d_K_wipe_20 d_K_wipe_23
  · exact kx_outV hC hG (kx_K_requireFounded (kc_l C) hG.2.2.1 hV σ) hX1 (by rw [kt_K_wipe, if_neg hX1]) cal_K_requireFounded tw_278 ts_K_requireFounded tw_276 (ko_0 hV) rfl rfl (by decide) (rest := []) rfl (Nat.le_of_ble_eq_true rfl) d_K_wipe_1
def kp_K_recover_x (σ : kc_Sg) : Int32 := if (kt_K_requireFounded σ) = 0 then (nI 0) else (nI 0)
def kq_K_recover_x (σ : kc_Sg) : kc_Sg := if (kt_K_requireFounded σ) = 0 then σ else σ
def kt_K_recover_x (σ : kc_Sg) (x : Int32) : Nat := if (kt_K_requireFounded σ) = 0 then (kt_K_requireSeat x) else (kt_K_requireFounded σ)
set_option maxHeartbeats 4000000 in
set_option maxRecDepth 100000 in
theorem kx_K_recover_x (l : Launch) (hlt : l.stackTraces = false) {V : kc_V} (hV : kc_G V) (σ : kc_Sg) (x : Int32) (hs : ¬ kt_K_requireSeat x = 0) : kx_Met l y_K_recover b_K_recover 4 (some .int) (kx_rm 7) V [.ref (kc_ad V 0), .int x] σ (kt_K_recover_x σ x) (some (.int (kp_K_recover_x σ))) (kq_K_recover_x σ) := by
  refine kx_of hlt (by decide) (Nat.le_of_ble_eq_true rfl) hV.ok (fun C _ hC hG => ?_)
  show kc_Go C V 4 (0, 0) (kx_E C V (kt_K_recover_x σ x) (some (.int (kp_K_recover_x σ))) (kq_K_recover_x σ) σ) σ 0 [(0, .ref (kc_ad V 0)), (1, .int x)] []
  refine kg_aload_n hC d_K_recover_0 0 rfl ?_
  by_cases hX1 : (kt_K_requireFounded σ) = 0
  · refine kg_virtualV hC (kk_K_requireFounded (kc_l C) hV σ hX1) cal_K_requireFounded tw_278 ts_K_requireFounded tw_276 (ko_0 hV) rfl rfl (by decide) (rest := []) rfl (Nat.le_of_ble_eq_true rfl) d_K_recover_1 ?_ (by decide)
    refine kg_iload_n hC d_K_recover_4 1 rfl ?_
    exact kx_outS hC hG (kx_K_requireSeat (kc_l C) hG.2.2.1 hV σ x) hs (by rw [kt_K_recover_x, if_pos hX1]) cal_K_requireSeat tw_281 tw_280 rfl (by decide) (rest := []) rfl (Nat.le_of_ble_eq_true rfl) d_K_recover_5
  · exact kx_outV hC hG (kx_K_requireFounded (kc_l C) hG.2.2.1 hV σ) hX1 (by rw [kt_K_recover_x, if_neg hX1]) cal_K_requireFounded tw_278 ts_K_requireFounded tw_276 (ko_0 hV) rfl rfl (by decide) (rest := []) rfl (Nat.le_of_ble_eq_true rfl) d_K_recover_1
def kp_K_recover (σ : kc_Sg) (d : Nat) : Int32 := if (kt_K_requireFounded σ) = 0 then (if (kp_K_isWiped σ d) = 0 then (nI 0) else (if (nI 4) ≤ (kp_JI_bitCount (kp_K_sound σ)) then (kp_K_leastFour (kp_K_sound σ)) else (nI 0))) else (nI 0)
def kq_K_recover (σ : kc_Sg) (d : Nat) : kc_Sg := if (kt_K_requireFounded σ) = 0 then (if (kp_K_isWiped σ d) = 0 then σ else (if (nI 4) ≤ (kp_JI_bitCount (kp_K_sound σ)) then (kc_up σ 4 d (kp_G_interpolate σ (nI d) (kp_K_leastFour (kp_K_sound σ)) 4)) else σ)) else σ
def kt_K_recover (σ : kc_Sg) (d : Nat) : Nat := if (kt_K_requireFounded σ) = 0 then (if (kp_K_isWiped σ d) = 0 then 4 else (if (nI 4) ≤ (kp_JI_bitCount (kp_K_sound σ)) then 0 else 4)) else (kt_K_requireFounded σ)
set_option maxHeartbeats 4000000 in
set_option maxRecDepth 100000 in
theorem kx_K_recover (l : Launch) (hlt : l.stackTraces = false) {V : kc_V} (hV : kc_G V) (σ : kc_Sg) (d : Nat) (hd : 1 ≤ d ∧ d ≤ 7) (hp : ¬ σ 1 0 = 0) (hq : ¬ σ 1 1 = 0) : kx_Met l y_K_recover b_K_recover 4 (some .int) (kx_rm 7) V [.ref (kc_ad V 0), .int (nI d)] σ (kt_K_recover σ d) (some (.int (kp_K_recover σ d))) (kq_K_recover σ d) := by
  refine kx_of hlt (by decide) (Nat.le_of_ble_eq_true rfl) hV.ok (fun C _ hC hG => ?_)
  show kc_Go C V 4 (0, 0) (kx_E C V (kt_K_recover σ d) (some (.int (kp_K_recover σ d))) (kq_K_recover σ d) σ) σ 0 [(0, .ref (kc_ad V 0)), (1, .int (nI d))] []
  refine kg_aload_n hC d_K_recover_0 0 rfl ?_
  by_cases hX1 : (kt_K_requireFounded σ) = 0
  · refine kg_virtualV hC (kk_K_requireFounded (kc_l C) hV σ hX1) cal_K_requireFounded tw_278 ts_K_requireFounded tw_276 (ko_0 hV) rfl rfl (by decide) (rest := []) rfl (Nat.le_of_ble_eq_true rfl) d_K_recover_1 ?_ (by decide)
    refine kg_iload_n hC d_K_recover_4 1 rfl ?_
    refine kg_staticV hC (kk_K_requireSeat (kc_l C) hV σ (nI d) (kt_seat_ok hd)) cal_K_requireSeat tw_281 tw_280 rfl (by decide) (rest := []) rfl (Nat.le_of_ble_eq_true rfl) d_K_recover_5 ?_ (by decide)
    refine kg_aload_n hC d_K_recover_8 0 rfl ?_
    refine kg_iload_n hC d_K_recover_9 1 rfl ?_
    refine kg_virtualI hC (kk_K_isWiped (kc_l C) hV σ d (by omega)) cal_K_isWiped tw_462 ts_K_isWiped tw_460 (ko_0 hV) rfl rfl (by decide) (rest := []) rfl (Nat.le_of_ble_eq_true rfl) d_K_recover_10 ?_ (by decide)
    refine kg_if_ne hC d_K_recover_13 (tgt := 24) rfl (fun h13 => ?_) (fun h13 => ?_)
    · refine kg_aload_n hC d_K_recover_24 0 rfl ?_
      refine kg_virtualI hC (kk_K_sound (kc_l C) hV σ hp) cal_K_sound tw_486 ts_K_sound tw_484 (ko_0 hV) rfl rfl (by decide) (rest := []) rfl (Nat.le_of_ble_eq_true rfl) d_K_recover_25 ?_ (by decide)
      refine kg_istore_n hC d_K_recover_28 [(2, .int (kp_K_sound σ)), (0, .ref (kc_ad V 0)), (1, .int (nI d))] rfl (by decide) ?_
      refine kg_iload_n hC d_K_recover_29 0 rfl ?_
      refine kg_staticI hC (kk_JI_bitCount (kc_l C) hV σ (kp_K_sound σ)) cal_JI_bitCount tw_318 tw_419 rfl (by decide) (rest := []) rfl (Nat.le_of_ble_eq_true rfl) d_K_recover_30 ?_ (by decide)
      refine kg_iconst hC d_K_recover_33 kn_i_4 ?_
      refine kg_icmp_ge hC d_K_recover_34 (tgt := 45) rfl (fun h34 => ?_) (fun h34 => ?_)
      · refine kg_iload_n hC d_K_recover_45 0 rfl ?_
        refine kg_staticI hC (kk_K_leastFour (kc_l C) hV σ (kp_K_sound σ)) cal_K_leastFour tw_494 tw_493 rfl (by decide) (rest := []) rfl (Nat.le_of_ble_eq_true rfl) d_K_recover_46 ?_ (by decide)
        refine kg_istore_n hC d_K_recover_49 [(3, .int (kp_K_leastFour (kp_K_sound σ))), (2, .int (kp_K_sound σ)), (0, .ref (kc_ad V 0)), (1, .int (nI d))] rfl (by decide) ?_
        refine kg_aload_n hC d_K_recover_50 2 rfl ?_
        refine kg_getr hC (ko_0 hV) rfl ui_K (j := 3) (by decide) tw_95 rfl d_K_recover_51 rfl ?_
        refine kg_iload_n hC d_K_recover_54 3 rfl ?_
        refine kg_aload_n hC d_K_recover_55 2 rfl ?_
        refine kg_getr hC (ko_0 hV) rfl ui_K (j := 0) (by decide) tw_92 rfl d_K_recover_56 rfl ?_
        refine kg_at (pc' := 59) rfl ?_
        refine kg_iload_n hC d_K_recover_59 3 rfl ?_
        refine kg_iload_n hC d_K_recover_60 0 rfl ?_
        refine kg_aload_n hC d_K_recover_61 2 rfl ?_
        refine kg_getr hC (ko_0 hV) rfl ui_K (j := 3) (by decide) tw_95 rfl d_K_recover_62 rfl ?_
        refine kg_virtualI hC (kk_G_interpolate (kc_l C) hV σ (nI d) (kp_K_leastFour (kp_K_sound σ)) 4 hq (ka_4 hV)) cal_G_interpolate tw_497 tw_498 tw_496 (ko_1 hV) rfl rfl (by decide) (rest := [.int (nI d), .ref (kc_ad V 4)]) rfl (Nat.le_of_ble_eq_true rfl) d_K_recover_65 ?_ (by decide)
        refine kg_iast hC (ka_4 hV) (i := d) rfl (by omega) d_K_recover_68 ?_
        refine kg_iload_n hC d_K_recover_69 0 rfl ?_
        exact kx_iret hC d_K_recover_70 (by rw [kt_K_recover, if_pos hX1, if_neg h13, if_pos h34]) (by rw [kp_K_recover, if_pos hX1, if_neg h13, if_pos h34]) (by rw [kq_K_recover, if_pos hX1, if_neg h13, if_pos h34])
      · exact kx_thr_4 hC hG (by rw [kt_K_recover, if_pos hX1, if_neg h13, if_neg h34]) (by decide) (Nat.le_of_ble_eq_true rfl) d_K_recover_37 d_K_recover_40 d_K_recover_41 d_K_recover_44
    · exact kx_thr_4 hC hG (by rw [kt_K_recover, if_pos hX1, if_pos h13]) (by decide) (Nat.le_of_ble_eq_true rfl) d_K_recover_16 d_K_recover_19 d_K_recover_20 d_K_recover_23
  · exact kx_outV hC hG (kx_K_requireFounded (kc_l C) hG.2.2.1 hV σ) hX1 (by rw [kt_K_recover, if_neg hX1]) cal_K_requireFounded tw_278 ts_K_requireFounded tw_276 (ko_0 hV) rfl rfl (by decide) (rest := []) rfl (Nat.le_of_ble_eq_true rfl) d_K_recover_1
def kp_K_share_x (σ : kc_Sg) : Int32 := if (kt_K_requireFounded σ) = 0 then (nI 0) else (nI 0)
def kt_K_share_x (σ : kc_Sg) (x : Int32) : Nat := if (kt_K_requireFounded σ) = 0 then (kt_K_requireSeat x) else (kt_K_requireFounded σ)
set_option maxHeartbeats 4000000 in
set_option maxRecDepth 100000 in
theorem kx_K_share_x (l : Launch) (hlt : l.stackTraces = false) {V : kc_V} (hV : kc_G V) (σ : kc_Sg) (x : Int32) (hs : ¬ kt_K_requireSeat x = 0) : kx_Met l y_K_share b_K_share 2 (some .int) (kx_rm 7) V [.ref (kc_ad V 0), .int x] σ (kt_K_share_x σ x) (some (.int (kp_K_share_x σ))) σ := by
  refine kx_of hlt (by decide) (Nat.le_of_ble_eq_true rfl) hV.ok (fun C _ hC hG => ?_)
  show kc_Go C V 2 (0, 0) (kx_E C V (kt_K_share_x σ x) (some (.int (kp_K_share_x σ))) σ σ) σ 0 [(0, .ref (kc_ad V 0)), (1, .int x)] []
  refine kg_aload_n hC d_K_share_0 0 rfl ?_
  by_cases hX1 : (kt_K_requireFounded σ) = 0
  · refine kg_virtualV hC (kk_K_requireFounded (kc_l C) hV σ hX1) cal_K_requireFounded tw_278 ts_K_requireFounded tw_276 (ko_0 hV) rfl rfl (by decide) (rest := []) rfl (Nat.le_of_ble_eq_true rfl) d_K_share_1 ?_ (by decide)
    refine kg_iload_n hC d_K_share_4 1 rfl ?_
    exact kx_outS hC hG (kx_K_requireSeat (kc_l C) hG.2.2.1 hV σ x) hs (by rw [kt_K_share_x, if_pos hX1]) cal_K_requireSeat tw_281 tw_280 rfl (by decide) (rest := []) rfl (Nat.le_of_ble_eq_true rfl) d_K_share_5
  · exact kx_outV hC hG (kx_K_requireFounded (kc_l C) hG.2.2.1 hV σ) hX1 (by rw [kt_K_share_x, if_neg hX1]) cal_K_requireFounded tw_278 ts_K_requireFounded tw_276 (ko_0 hV) rfl rfl (by decide) (rest := []) rfl (Nat.le_of_ble_eq_true rfl) d_K_share_1
def kp_K_share (σ : kc_Sg) (d : Nat) : Int32 := if (kt_K_requireFounded σ) = 0 then (σ 4 d) else (nI 0)
def kt_K_share (σ : kc_Sg) : Nat := if (kt_K_requireFounded σ) = 0 then 0 else (kt_K_requireFounded σ)
set_option maxHeartbeats 4000000 in
set_option maxRecDepth 100000 in
theorem kx_K_share (l : Launch) (hlt : l.stackTraces = false) {V : kc_V} (hV : kc_G V) (σ : kc_Sg) (d : Nat) (hd : 1 ≤ d ∧ d ≤ 7) : kx_Met l y_K_share b_K_share 2 (some .int) (kx_rm 7) V [.ref (kc_ad V 0), .int (nI d)] σ (kt_K_share σ) (some (.int (kp_K_share σ d))) σ := by
  refine kx_of hlt (by decide) (Nat.le_of_ble_eq_true rfl) hV.ok (fun C _ hC hG => ?_)
  show kc_Go C V 2 (0, 0) (kx_E C V (kt_K_share σ) (some (.int (kp_K_share σ d))) σ σ) σ 0 [(0, .ref (kc_ad V 0)), (1, .int (nI d))] []
  refine kg_aload_n hC d_K_share_0 0 rfl ?_
  by_cases hX1 : (kt_K_requireFounded σ) = 0
  · refine kg_virtualV hC (kk_K_requireFounded (kc_l C) hV σ hX1) cal_K_requireFounded tw_278 ts_K_requireFounded tw_276 (ko_0 hV) rfl rfl (by decide) (rest := []) rfl (Nat.le_of_ble_eq_true rfl) d_K_share_1 ?_ (by decide)
    refine kg_iload_n hC d_K_share_4 1 rfl ?_
    refine kg_staticV hC (kk_K_requireSeat (kc_l C) hV σ (nI d) (kt_seat_ok hd)) cal_K_requireSeat tw_281 tw_280 rfl (by decide) (rest := []) rfl (Nat.le_of_ble_eq_true rfl) d_K_share_5 ?_ (by decide)
    refine kg_aload_n hC d_K_share_8 0 rfl ?_
    refine kg_getr hC (ko_0 hV) rfl ui_K (j := 3) (by decide) tw_95 rfl d_K_share_9 rfl ?_
    refine kg_iload_n hC d_K_share_12 1 rfl ?_
    refine kg_iald hC (ka_4 hV) (i := d) rfl (by omega) d_K_share_13 ?_
    exact kx_iret hC d_K_share_14 (by rw [kt_K_share, if_pos hX1]) (by rw [kp_K_share, if_pos hX1]) rfl
  · exact kx_outV hC hG (kx_K_requireFounded (kc_l C) hG.2.2.1 hV σ) hX1 (by rw [kt_K_share, if_neg hX1]) cal_K_requireFounded tw_278 ts_K_requireFounded tw_276 (ko_0 hV) rfl rfl (by decide) (rest := []) rfl (Nat.le_of_ble_eq_true rfl) d_K_share_1
def kp_K_fits_x (σ : kc_Sg) : Int32 := if (kt_K_requireFounded σ) = 0 then (nI 0) else (nI 0)
def kt_K_fits_x (σ : kc_Sg) (x : Int32) : Nat := if (kt_K_requireFounded σ) = 0 then (kt_K_requireSeat x) else (kt_K_requireFounded σ)
set_option maxHeartbeats 4000000 in
set_option maxRecDepth 100000 in
theorem kx_K_fits_x (l : Launch) (hlt : l.stackTraces = false) {V : kc_V} (hV : kc_G V) (σ : kc_Sg) (x : Int32) (hs : ¬ kt_K_requireSeat x = 0) : kx_Met l y_K_fits b_K_fits 2 (some .boolean) (kx_rm 7) V [.ref (kc_ad V 0), .int x] σ (kt_K_fits_x σ x) (some (.int (kp_K_fits_x σ))) σ := by
  refine kx_of hlt (by decide) (Nat.le_of_ble_eq_true rfl) hV.ok (fun C _ hC hG => ?_)
  show kc_Go C V 2 (0, 0) (kx_E C V (kt_K_fits_x σ x) (some (.int (kp_K_fits_x σ))) σ σ) σ 0 [(0, .ref (kc_ad V 0)), (1, .int x)] []
  refine kg_aload_n hC d_K_fits_0 0 rfl ?_
  by_cases hX1 : (kt_K_requireFounded σ) = 0
  · refine kg_virtualV hC (kk_K_requireFounded (kc_l C) hV σ hX1) cal_K_requireFounded tw_278 ts_K_requireFounded tw_276 (ko_0 hV) rfl rfl (by decide) (rest := []) rfl (Nat.le_of_ble_eq_true rfl) d_K_fits_1 ?_ (by decide)
    refine kg_iload_n hC d_K_fits_4 1 rfl ?_
    exact kx_outS hC hG (kx_K_requireSeat (kc_l C) hG.2.2.1 hV σ x) hs (by rw [kt_K_fits_x, if_pos hX1]) cal_K_requireSeat tw_281 tw_280 rfl (by decide) (rest := []) rfl (Nat.le_of_ble_eq_true rfl) d_K_fits_5
  · exact kx_outV hC hG (kx_K_requireFounded (kc_l C) hG.2.2.1 hV σ) hX1 (by rw [kt_K_fits_x, if_neg hX1]) cal_K_requireFounded tw_278 ts_K_requireFounded tw_276 (ko_0 hV) rfl rfl (by decide) (rest := []) rfl (Nat.le_of_ble_eq_true rfl) d_K_fits_1
def kp_K_fits (σ : kc_Sg) (d : Nat) : Int32 := if (kt_K_requireFounded σ) = 0 then (kp_K_isSound σ d) else (nI 0)
def kt_K_fits (σ : kc_Sg) : Nat := if (kt_K_requireFounded σ) = 0 then 0 else (kt_K_requireFounded σ)
set_option maxHeartbeats 4000000 in
set_option maxRecDepth 100000 in
theorem kx_K_fits (l : Launch) (hlt : l.stackTraces = false) {V : kc_V} (hV : kc_G V) (σ : kc_Sg) (d : Nat) (hd : 1 ≤ d ∧ d ≤ 7) (hp : ¬ σ 1 0 = 0) : kx_Met l y_K_fits b_K_fits 2 (some .boolean) (kx_rm 7) V [.ref (kc_ad V 0), .int (nI d)] σ (kt_K_fits σ) (some (.int (kp_K_fits σ d))) σ := by
  refine kx_of hlt (by decide) (Nat.le_of_ble_eq_true rfl) hV.ok (fun C _ hC hG => ?_)
  show kc_Go C V 2 (0, 0) (kx_E C V (kt_K_fits σ) (some (.int (kp_K_fits σ d))) σ σ) σ 0 [(0, .ref (kc_ad V 0)), (1, .int (nI d))] []
  refine kg_aload_n hC d_K_fits_0 0 rfl ?_
  by_cases hX1 : (kt_K_requireFounded σ) = 0
  · refine kg_virtualV hC (kk_K_requireFounded (kc_l C) hV σ hX1) cal_K_requireFounded tw_278 ts_K_requireFounded tw_276 (ko_0 hV) rfl rfl (by decide) (rest := []) rfl (Nat.le_of_ble_eq_true rfl) d_K_fits_1 ?_ (by decide)
    refine kg_iload_n hC d_K_fits_4 1 rfl ?_
    refine kg_staticV hC (kk_K_requireSeat (kc_l C) hV σ (nI d) (kt_seat_ok hd)) cal_K_requireSeat tw_281 tw_280 rfl (by decide) (rest := []) rfl (Nat.le_of_ble_eq_true rfl) d_K_fits_5 ?_ (by decide)
    refine kg_aload_n hC d_K_fits_8 0 rfl ?_
    refine kg_iload_n hC d_K_fits_9 1 rfl ?_
    refine kg_virtualI hC (kk_K_isSound (kc_l C) hV σ d hp (by omega)) cal_K_isSound tw_490 ts_K_isSound tw_488 (ko_0 hV) rfl rfl (by decide) (rest := []) rfl (Nat.le_of_ble_eq_true rfl) d_K_fits_10 ?_ (by decide)
    exact kx_zret hC d_K_fits_13 (kn_zb (kz_K_isSound _ _)) (by rw [kt_K_fits, if_pos hX1]) (by rw [kp_K_fits, if_pos hX1]) rfl
  · exact kx_outV hC hG (kx_K_requireFounded (kc_l C) hG.2.2.1 hV σ) hX1 (by rw [kt_K_fits, if_neg hX1]) cal_K_requireFounded tw_278 ts_K_requireFounded tw_276 (ko_0 hV) rfl rfl (by decide) (rest := []) rfl (Nat.le_of_ble_eq_true rfl) d_K_fits_1
def kp_K_element_x (σ : kc_Sg) : Int32 := if (kt_K_requireFounded σ) = 0 then (nI 0) else (nI 0)
def kt_K_element_x (σ : kc_Sg) (x : Int32) : Nat := if (kt_K_requireFounded σ) = 0 then (kt_K_requireSeat x) else (kt_K_requireFounded σ)
set_option maxHeartbeats 4000000 in
set_option maxRecDepth 100000 in
theorem kx_K_element_x (l : Launch) (hlt : l.stackTraces = false) {V : kc_V} (hV : kc_G V) (σ : kc_Sg) (x : Int32) (hs : ¬ kt_K_requireSeat x = 0) : kx_Met l y_K_element b_K_element 2 (some .int) (kx_rm 7) V [.ref (kc_ad V 0), .int x] σ (kt_K_element_x σ x) (some (.int (kp_K_element_x σ))) σ := by
  refine kx_of hlt (by decide) (Nat.le_of_ble_eq_true rfl) hV.ok (fun C _ hC hG => ?_)
  show kc_Go C V 2 (0, 0) (kx_E C V (kt_K_element_x σ x) (some (.int (kp_K_element_x σ))) σ σ) σ 0 [(0, .ref (kc_ad V 0)), (1, .int x)] []
  refine kg_aload_n hC d_K_element_0 0 rfl ?_
  by_cases hX1 : (kt_K_requireFounded σ) = 0
  · refine kg_virtualV hC (kk_K_requireFounded (kc_l C) hV σ hX1) cal_K_requireFounded tw_278 ts_K_requireFounded tw_276 (ko_0 hV) rfl rfl (by decide) (rest := []) rfl (Nat.le_of_ble_eq_true rfl) d_K_element_1 ?_ (by decide)
    refine kg_iload_n hC d_K_element_4 1 rfl ?_
    exact kx_outS hC hG (kx_K_requireSeat (kc_l C) hG.2.2.1 hV σ x) hs (by rw [kt_K_element_x, if_pos hX1]) cal_K_requireSeat tw_281 tw_280 rfl (by decide) (rest := []) rfl (Nat.le_of_ble_eq_true rfl) d_K_element_5
  · exact kx_outV hC hG (kx_K_requireFounded (kc_l C) hG.2.2.1 hV σ) hX1 (by rw [kt_K_element_x, if_neg hX1]) cal_K_requireFounded tw_278 ts_K_requireFounded tw_276 (ko_0 hV) rfl rfl (by decide) (rest := []) rfl (Nat.le_of_ble_eq_true rfl) d_K_element_1
def kp_K_element (σ : kc_Sg) (d : Nat) : Int32 := if (kt_K_requireFounded σ) = 0 then (kp_G_elementAt σ (nI d) 5) else (nI 0)
def kt_K_element (σ : kc_Sg) : Nat := if (kt_K_requireFounded σ) = 0 then 0 else (kt_K_requireFounded σ)
set_option maxHeartbeats 4000000 in
set_option maxRecDepth 100000 in
theorem kx_K_element (l : Launch) (hlt : l.stackTraces = false) {V : kc_V} (hV : kc_G V) (σ : kc_Sg) (d : Nat) (hd : 1 ≤ d ∧ d ≤ 7) (hp : ¬ σ 1 0 = 0) : kx_Met l y_K_element b_K_element 2 (some .int) (kx_rm 7) V [.ref (kc_ad V 0), .int (nI d)] σ (kt_K_element σ) (some (.int (kp_K_element σ d))) σ := by
  refine kx_of hlt (by decide) (Nat.le_of_ble_eq_true rfl) hV.ok (fun C _ hC hG => ?_)
  show kc_Go C V 2 (0, 0) (kx_E C V (kt_K_element σ) (some (.int (kp_K_element σ d))) σ σ) σ 0 [(0, .ref (kc_ad V 0)), (1, .int (nI d))] []
  refine kg_aload_n hC d_K_element_0 0 rfl ?_
  by_cases hX1 : (kt_K_requireFounded σ) = 0
  · refine kg_virtualV hC (kk_K_requireFounded (kc_l C) hV σ hX1) cal_K_requireFounded tw_278 ts_K_requireFounded tw_276 (ko_0 hV) rfl rfl (by decide) (rest := []) rfl (Nat.le_of_ble_eq_true rfl) d_K_element_1 ?_ (by decide)
    refine kg_iload_n hC d_K_element_4 1 rfl ?_
    refine kg_staticV hC (kk_K_requireSeat (kc_l C) hV σ (nI d) (kt_seat_ok hd)) cal_K_requireSeat tw_281 tw_280 rfl (by decide) (rest := []) rfl (Nat.le_of_ble_eq_true rfl) d_K_element_5 ?_ (by decide)
    refine kg_aload_n hC d_K_element_8 0 rfl ?_
    refine kg_getr hC (ko_0 hV) rfl ui_K (j := 0) (by decide) tw_92 rfl d_K_element_9 rfl ?_
    refine kg_iload_n hC d_K_element_12 1 rfl ?_
    refine kg_aload_n hC d_K_element_13 0 rfl ?_
    refine kg_getr hC (ko_0 hV) rfl ui_K (j := 4) (by decide) tw_96 rfl d_K_element_14 rfl ?_
    refine kg_at (pc' := 17) rfl ?_
    refine kg_virtualI hC (kk_G_elementAt (kc_l C) hV σ (nI d) 5 hp (ka_5 hV)) cal_G_elementAt tw_412 tw_413 tw_552 (ko_1 hV) rfl rfl (by decide) (rest := []) rfl (Nat.le_of_ble_eq_true rfl) d_K_element_17 ?_ (by decide)
    exact kx_iret hC d_K_element_20 (by rw [kt_K_element, if_pos hX1]) (by rw [kp_K_element, if_pos hX1]) rfl
  · exact kx_outV hC hG (kx_K_requireFounded (kc_l C) hG.2.2.1 hV σ) hX1 (by rw [kt_K_element, if_neg hX1]) cal_K_requireFounded tw_278 ts_K_requireFounded tw_276 (ko_0 hV) rfl rfl (by decide) (rest := []) rfl (Nat.le_of_ble_eq_true rfl) d_K_element_1
def kp_K_sum (σ : kc_Sg) (j : Int32) : Int32 := if (kt_K_requireFounded σ) = 0 then (if j < 0 then (nI 0) else (if j < (nI 4) then (σ 5 j.toNatClampNeg) else (nI 0))) else (nI 0)
def kt_K_sum (σ : kc_Sg) (j : Int32) : Nat := if (kt_K_requireFounded σ) = 0 then (if j < 0 then 5 else (if j < (nI 4) then 0 else 5)) else (kt_K_requireFounded σ)
set_option maxHeartbeats 4000000 in
set_option maxRecDepth 100000 in
theorem kx_K_sum (l : Launch) (hlt : l.stackTraces = false) {V : kc_V} (hV : kc_G V) (σ : kc_Sg) (j : Int32) : kx_Met l y_K_sum b_K_sum 2 (some .int) (kx_rm 7) V [.ref (kc_ad V 0), .int j] σ (kt_K_sum σ j) (some (.int (kp_K_sum σ j))) σ := by
  refine kx_of hlt (by decide) (Nat.le_of_ble_eq_true rfl) hV.ok (fun C _ hC hG => ?_)
  show kc_Go C V 2 (0, 0) (kx_E C V (kt_K_sum σ j) (some (.int (kp_K_sum σ j))) σ σ) σ 0 [(0, .ref (kc_ad V 0)), (1, .int j)] []
  refine kg_aload_n hC d_K_sum_0 0 rfl ?_
  by_cases hX1 : (kt_K_requireFounded σ) = 0
  · refine kg_virtualV hC (kk_K_requireFounded (kc_l C) hV σ hX1) cal_K_requireFounded tw_278 ts_K_requireFounded tw_276 (ko_0 hV) rfl rfl (by decide) (rest := []) rfl (Nat.le_of_ble_eq_true rfl) d_K_sum_1 ?_ (by decide)
    refine kg_iload_n hC d_K_sum_4 1 rfl ?_
    refine kg_if_lt hC d_K_sum_5 (tgt := 13) rfl (fun h5 => ?_) (fun h5 => ?_)
    · exact kx_thr_5 hC hG (by rw [kt_K_sum, if_pos hX1, if_pos h5]) (by decide) (Nat.le_of_ble_eq_true rfl) d_K_sum_13 d_K_sum_16 d_K_sum_17 d_K_sum_20
    · refine kg_iload_n hC d_K_sum_8 1 rfl ?_
      refine kg_iconst hC d_K_sum_9 kn_i_4 ?_
      refine kg_icmp_lt hC d_K_sum_10 (tgt := 21) rfl (fun h10 => ?_) (fun h10 => ?_)
      · refine kg_aload_n hC d_K_sum_21 0 rfl ?_
        refine kg_getr hC (ko_0 hV) rfl ui_K (j := 4) (by decide) tw_96 rfl d_K_sum_22 rfl ?_
        refine kg_iload_n hC d_K_sum_25 1 rfl ?_
        refine kg_iald hC (ka_5 hV) (i := j.toNatClampNeg) (kn_nat h5) (kn_lt h5 (by decide) h10) d_K_sum_26 ?_
        exact kx_iret hC d_K_sum_27 (by rw [kt_K_sum, if_pos hX1, if_neg h5, if_pos h10]) (by rw [kp_K_sum, if_pos hX1, if_neg h5, if_pos h10]) rfl
      · exact kx_thr_5 hC hG (by rw [kt_K_sum, if_pos hX1, if_neg h5, if_neg h10]) (by decide) (Nat.le_of_ble_eq_true rfl) d_K_sum_13 d_K_sum_16 d_K_sum_17 d_K_sum_20
  · exact kx_outV hC hG (kx_K_requireFounded (kc_l C) hG.2.2.1 hV σ) hX1 (by rw [kt_K_sum, if_neg hX1]) cal_K_requireFounded tw_278 ts_K_requireFounded tw_276 (ko_0 hV) rfl rfl (by decide) (rest := []) rfl (Nat.le_of_ble_eq_true rfl) d_K_sum_1
def kp_K_reconstruct (σ : kc_Sg) (c : Int32) : Int32 := if (kt_K_requireFounded σ) = 0 then (if c < 0 then (nI 0) else (if (nI 127) < c then (nI 0) else (if (kp_JI_bitCount c) < (nI 4) then (nI 0) else (if (c &&& (kp_K_wiped σ)) = 0 then (kp_G_interpolate σ (nI 0) (kp_K_leastFour c) 4) else (nI 0))))) else (nI 0)
def kt_K_reconstruct (σ : kc_Sg) (c : Int32) : Nat := if (kt_K_requireFounded σ) = 0 then (if c < 0 then 3 else (if (nI 127) < c then 3 else (if (kp_JI_bitCount c) < (nI 4) then 3 else (if (c &&& (kp_K_wiped σ)) = 0 then 0 else 3)))) else (kt_K_requireFounded σ)
set_option maxHeartbeats 4000000 in
set_option maxRecDepth 100000 in
theorem kx_K_reconstruct (l : Launch) (hlt : l.stackTraces = false) {V : kc_V} (hV : kc_G V) (σ : kc_Sg) (c : Int32) (hq : ¬ σ 1 1 = 0) : kx_Met l y_K_reconstruct b_K_reconstruct 2 (some .int) (kx_rm 7) V [.ref (kc_ad V 0), .int c] σ (kt_K_reconstruct σ c) (some (.int (kp_K_reconstruct σ c))) σ := by
  refine kx_of hlt (by decide) (Nat.le_of_ble_eq_true rfl) hV.ok (fun C _ hC hG => ?_)
  show kc_Go C V 2 (0, 0) (kx_E C V (kt_K_reconstruct σ c) (some (.int (kp_K_reconstruct σ c))) σ σ) σ 0 [(0, .ref (kc_ad V 0)), (1, .int c)] []
  refine kg_aload_n hC d_K_reconstruct_0 0 rfl ?_
  by_cases hX1 : (kt_K_requireFounded σ) = 0
  · refine kg_virtualV hC (kk_K_requireFounded (kc_l C) hV σ hX1) cal_K_requireFounded tw_278 ts_K_requireFounded tw_276 (ko_0 hV) rfl rfl (by decide) (rest := []) rfl (Nat.le_of_ble_eq_true rfl) d_K_reconstruct_1 ?_ (by decide)
    refine kg_iload_n hC d_K_reconstruct_4 1 rfl ?_
    refine kg_if_lt hC d_K_reconstruct_5 (tgt := 31) rfl (fun h5 => ?_) (fun h5 => ?_)
    · exact kx_thr_3 hC hG (by rw [kt_K_reconstruct, if_pos hX1, if_pos h5]) (by decide) (Nat.le_of_ble_eq_true rfl) d_K_reconstruct_31 d_K_reconstruct_34 d_K_reconstruct_35 d_K_reconstruct_38
    · refine kg_iload_n hC d_K_reconstruct_8 1 rfl ?_
      refine kg_bipush hC d_K_reconstruct_9 kn_b_127 ?_
      refine kg_icmp_gt hC d_K_reconstruct_11 (tgt := 31) rfl (fun h11 => ?_) (fun h11 => ?_)
      · exact kx_thr_3 hC hG (by rw [kt_K_reconstruct, if_pos hX1, if_neg h5, if_pos h11]) (by decide) (Nat.le_of_ble_eq_true rfl) d_K_reconstruct_31 d_K_reconstruct_34 d_K_reconstruct_35 d_K_reconstruct_38
      · refine kg_iload_n hC d_K_reconstruct_14 1 rfl ?_
        refine kg_staticI hC (kk_JI_bitCount (kc_l C) hV σ c) cal_JI_bitCount tw_318 tw_419 rfl (by decide) (rest := []) rfl (Nat.le_of_ble_eq_true rfl) d_K_reconstruct_15 ?_ (by decide)
        refine kg_iconst hC d_K_reconstruct_18 kn_i_4 ?_
        refine kg_icmp_lt hC d_K_reconstruct_19 (tgt := 31) rfl (fun h19 => ?_) (fun h19 => ?_)
        · exact kx_thr_3 hC hG (by rw [kt_K_reconstruct, if_pos hX1, if_neg h5, if_neg h11, if_pos h19]) (by decide) (Nat.le_of_ble_eq_true rfl) d_K_reconstruct_31 d_K_reconstruct_34 d_K_reconstruct_35 d_K_reconstruct_38
        · refine kg_iload_n hC d_K_reconstruct_22 1 rfl ?_
          refine kg_aload_n hC d_K_reconstruct_23 0 rfl ?_
          refine kg_virtualI hC (kk_K_wiped (kc_l C) hV σ) cal_K_wiped tw_562 ts_K_wiped tw_560 (ko_0 hV) rfl rfl (by decide) (rest := [.int c]) rfl (Nat.le_of_ble_eq_true rfl) d_K_reconstruct_24 ?_ (by decide)
          refine kg_iand hC d_K_reconstruct_27 ?_
          refine kg_if_eq hC d_K_reconstruct_28 (tgt := 39) rfl (fun h28 => ?_) (fun h28 => ?_)
          · refine kg_aload_n hC d_K_reconstruct_39 0 rfl ?_
            refine kg_getr hC (ko_0 hV) rfl ui_K (j := 0) (by decide) tw_92 rfl d_K_reconstruct_40 rfl ?_
            refine kg_iconst hC d_K_reconstruct_43 kn_i_0 ?_
            refine kg_iload_n hC d_K_reconstruct_44 1 rfl ?_
            refine kg_staticI hC (kk_K_leastFour (kc_l C) hV σ c) cal_K_leastFour tw_494 tw_493 rfl (by decide) (rest := [.int (nI 0), .ref (kc_ad V 1)]) rfl (Nat.le_of_ble_eq_true rfl) d_K_reconstruct_45 ?_ (by decide)
            refine kg_aload_n hC d_K_reconstruct_48 0 rfl ?_
            refine kg_getr hC (ko_0 hV) rfl ui_K (j := 3) (by decide) tw_95 rfl d_K_reconstruct_49 rfl ?_
            refine kg_virtualI hC (kk_G_interpolate (kc_l C) hV σ (nI 0) (kp_K_leastFour c) 4 hq (ka_4 hV)) cal_G_interpolate tw_497 tw_498 tw_496 (ko_1 hV) rfl rfl (by decide) (rest := []) rfl (Nat.le_of_ble_eq_true rfl) d_K_reconstruct_52 ?_ (by decide)
            refine kg_at (pc' := 55) rfl ?_
            exact kx_iret hC d_K_reconstruct_55 (by rw [kt_K_reconstruct, if_pos hX1, if_neg h5, if_neg h11, if_neg h19, if_pos h28]) (by rw [kp_K_reconstruct, if_pos hX1, if_neg h5, if_neg h11, if_neg h19, if_pos h28]) rfl
          · exact kx_thr_3 hC hG (by rw [kt_K_reconstruct, if_pos hX1, if_neg h5, if_neg h11, if_neg h19, if_neg h28]) (by decide) (Nat.le_of_ble_eq_true rfl) d_K_reconstruct_31 d_K_reconstruct_34 d_K_reconstruct_35 d_K_reconstruct_38
  · exact kx_outV hC hG (kx_K_requireFounded (kc_l C) hG.2.2.1 hV σ) hX1 (by rw [kt_K_reconstruct, if_neg hX1]) cal_K_requireFounded tw_278 ts_K_requireFounded tw_276 (ko_0 hV) rfl rfl (by decide) (rest := []) rfl (Nat.le_of_ble_eq_true rfl) d_K_reconstruct_1
def kp_K_post (σ : kc_Sg) (n : Int32) (j : Int32) : Int32 := if (kt_K_requireFounded σ) = 0 then (if n < 0 then (nI 0) else (if n < (kp_B_size σ) then (if j < 0 then (nI 0) else (if j < (nI 9) then (kp_B_read σ n.toNatClampNeg j.toNatClampNeg) else (nI 0))) else (nI 0))) else (nI 0)
def kt_K_post (σ : kc_Sg) (n : Int32) (j : Int32) : Nat := if (kt_K_requireFounded σ) = 0 then (if n < 0 then 5 else (if n < (kp_B_size σ) then (if j < 0 then 3 else (if j < (nI 9) then 0 else 3)) else 5)) else (kt_K_requireFounded σ)
set_option maxHeartbeats 4000000 in
set_option maxRecDepth 100000 in
theorem kx_K_post (l : Launch) (hlt : l.stackTraces = false) {V : kc_V} (hV : kc_G V) (σ : kc_Sg) (n : Int32) (j : Int32) (hb : kc_bd σ) : kx_Met l y_K_post b_K_post 3 (some .int) (kx_rm 7) V [.ref (kc_ad V 0), .int n, .int j] σ (kt_K_post σ n j) (some (.int (kp_K_post σ n j))) σ := by
  refine kx_of hlt (by decide) (Nat.le_of_ble_eq_true rfl) hV.ok (fun C _ hC hG => ?_)
  show kc_Go C V 3 (0, 0) (kx_E C V (kt_K_post σ n j) (some (.int (kp_K_post σ n j))) σ σ) σ 0 [(0, .ref (kc_ad V 0)), (1, .int n), (2, .int j)] []
  refine kg_aload_n hC d_K_post_0 0 rfl ?_
  by_cases hX1 : (kt_K_requireFounded σ) = 0
  · refine kg_virtualV hC (kk_K_requireFounded (kc_l C) hV σ hX1) cal_K_requireFounded tw_278 ts_K_requireFounded tw_276 (ko_0 hV) rfl rfl (by decide) (rest := []) rfl (Nat.le_of_ble_eq_true rfl) d_K_post_1 ?_ (by decide)
    refine kg_iload_n hC d_K_post_4 1 rfl ?_
    refine kg_if_lt hC d_K_post_5 (tgt := 19) rfl (fun h5 => ?_) (fun h5 => ?_)
    · exact kx_thr_5 hC hG (by rw [kt_K_post, if_pos hX1, if_pos h5]) (by decide) (Nat.le_of_ble_eq_true rfl) d_K_post_19 d_K_post_22 d_K_post_23 d_K_post_26
    · refine kg_iload_n hC d_K_post_8 1 rfl ?_
      refine kg_aload_n hC d_K_post_9 0 rfl ?_
      refine kg_getr hC (ko_0 hV) rfl ui_K (j := 1) (by decide) tw_93 rfl d_K_post_10 rfl ?_
      refine kg_virtualI hC (kk_B_size (kc_l C) hV σ) cal_B_size tw_572 tw_573 tw_571 (ko_2 hV) rfl rfl (by decide) (rest := [.int n]) rfl (Nat.le_of_ble_eq_true rfl) d_K_post_13 ?_ (by decide)
      refine kg_icmp_lt hC d_K_post_16 (tgt := 27) rfl (fun h16 => ?_) (fun h16 => ?_)
      · refine kg_iload_n hC d_K_post_27 2 rfl ?_
        refine kg_if_lt hC d_K_post_28 (tgt := 37) rfl (fun h28 => ?_) (fun h28 => ?_)
        · exact kx_thr_3 hC hG (by rw [kt_K_post, if_pos hX1, if_neg h5, if_pos h16, if_pos h28]) (by decide) (Nat.le_of_ble_eq_true rfl) d_K_post_37 d_K_post_40 d_K_post_41 d_K_post_44
        · refine kg_iload_n hC d_K_post_31 2 rfl ?_
          refine kg_bipush hC d_K_post_32 kn_b_9 ?_
          refine kg_icmp_lt hC d_K_post_34 (tgt := 45) rfl (fun h34 => ?_) (fun h34 => ?_)
          · refine kg_aload_n hC d_K_post_45 0 rfl ?_
            refine kg_getr hC (ko_0 hV) rfl ui_K (j := 1) (by decide) tw_93 rfl d_K_post_46 rfl ?_
            refine kg_iload_n hC d_K_post_49 1 rfl ?_
            refine kg_top (x' := (nI n.toNatClampNeg)) (kn_nat h5) ?_
            refine kg_iload_n hC d_K_post_50 2 rfl ?_
            refine kg_top (x' := (nI j.toNatClampNeg)) (kn_nat h28) ?_
            refine kg_virtualI hC (kk_B_read (kc_l C) hV σ n.toNatClampNeg j.toNatClampNeg (by have g1 := kn_lt h5 (by have := hb.2; omega) (show n < nI (kb σ) from hb.1 ▸ (show n < σ 2 1 from h16)); have g2 := kn_lt h28 (by decide) h34; have g3 := hb.2; omega)) cal_B_read tw_576 tw_577 tw_575 (ko_2 hV) rfl rfl (by decide) (rest := []) rfl (Nat.le_of_ble_eq_true rfl) d_K_post_51 ?_ (by decide)
            exact kx_iret hC d_K_post_54 (by rw [kt_K_post, if_pos hX1, if_neg h5, if_pos h16, if_neg h28, if_pos h34]) (by rw [kp_K_post, if_pos hX1, if_neg h5, if_pos h16, if_neg h28, if_pos h34]) rfl
          · exact kx_thr_3 hC hG (by rw [kt_K_post, if_pos hX1, if_neg h5, if_pos h16, if_neg h28, if_neg h34]) (by decide) (Nat.le_of_ble_eq_true rfl) d_K_post_37 d_K_post_40 d_K_post_41 d_K_post_44
      · exact kx_thr_5 hC hG (by rw [kt_K_post, if_pos hX1, if_neg h5, if_neg h16]) (by decide) (Nat.le_of_ble_eq_true rfl) d_K_post_19 d_K_post_22 d_K_post_23 d_K_post_26
  · exact kx_outV hC hG (kx_K_requireFounded (kc_l C) hG.2.2.1 hV σ) hX1 (by rw [kt_K_post, if_neg hX1]) cal_K_requireFounded tw_278 ts_K_requireFounded tw_276 (ko_0 hV) rfl rfl (by decide) (rest := []) rfl (Nat.le_of_ble_eq_true rfl) d_K_post_1
def kp_K_about_0 (σ : kc_Sg) : Int32 := (σ 0 6)
def kt_K_about_0 : Nat := 0
set_option maxHeartbeats 4000000 in
set_option maxRecDepth 100000 in
theorem kx_K_about_0 (l : Launch) (hlt : l.stackTraces = false) {V : kc_V} (hV : kc_G V) (σ : kc_Sg) (x : Int32) (hx : x = nI 0) : kx_Met l y_K_about b_K_about 2 (some .int) (kx_rm 6) V [.ref (kc_ad V 0), .int x] σ kt_K_about_0 (some (.int (kp_K_about_0 σ))) σ := by
  refine kx_of hlt (by decide) (Nat.le_of_ble_eq_true rfl) hV.ok (fun C _ hC hG => ?_)
  show kc_Go C V 2 (0, 0) (kx_E C V kt_K_about_0 (some (.int (kp_K_about_0 σ))) σ σ) σ 0 [(0, .ref (kc_ad V 0)), (1, .int x)] []
  refine kg_iload_n hC d_K_about_0 1 rfl ?_
  refine kg_tabIn hC d_K_about_1 (n := 0) ⟨hx, by decide⟩ (by decide) (by decide) (off := 43) (by decide) (tgt := 44) (by decide) ?_
  refine kg_aload_n hC d_K_about_44 0 rfl ?_
  refine kg_geti hC (ko_0 hV) rfl ui_K (j := 6) (by decide) tw_98 rfl d_K_about_45 rfl ?_
  exact kx_iret hC d_K_about_48 (by rw [kt_K_about_0]) (by rw [kp_K_about_0]) rfl
def kp_K_about_1 (σ : kc_Sg) : Int32 := (kp_B_size σ)
def kt_K_about_1 : Nat := 0
set_option maxHeartbeats 4000000 in
set_option maxRecDepth 100000 in
theorem kx_K_about_1 (l : Launch) (hlt : l.stackTraces = false) {V : kc_V} (hV : kc_G V) (σ : kc_Sg) (x : Int32) (hx : x = nI 1) : kx_Met l y_K_about b_K_about 2 (some .int) (kx_rm 6) V [.ref (kc_ad V 0), .int x] σ kt_K_about_1 (some (.int (kp_K_about_1 σ))) σ := by
  refine kx_of hlt (by decide) (Nat.le_of_ble_eq_true rfl) hV.ok (fun C _ hC hG => ?_)
  show kc_Go C V 2 (0, 0) (kx_E C V kt_K_about_1 (some (.int (kp_K_about_1 σ))) σ σ) σ 0 [(0, .ref (kc_ad V 0)), (1, .int x)] []
  refine kg_iload_n hC d_K_about_0 1 rfl ?_
  refine kg_tabIn hC d_K_about_1 (n := 1) ⟨hx, by decide⟩ (by decide) (by decide) (off := 48) (by decide) (tgt := 49) (by decide) ?_
  refine kg_aload_n hC d_K_about_49 0 rfl ?_
  refine kg_getr hC (ko_0 hV) rfl ui_K (j := 1) (by decide) tw_93 rfl d_K_about_50 rfl ?_
  refine kg_virtualI hC (kk_B_size (kc_l C) hV σ) cal_B_size tw_572 tw_573 tw_571 (ko_2 hV) rfl rfl (by decide) (rest := []) rfl (Nat.le_of_ble_eq_true rfl) d_K_about_53 ?_ (by decide)
  exact kx_iret hC d_K_about_56 (by rw [kt_K_about_1]) (by rw [kp_K_about_1]) rfl
def kp_K_about_2 (σ : kc_Sg) : Int32 := (kp_V_complaintCount σ)
def kt_K_about_2 : Nat := 0
set_option maxHeartbeats 4000000 in
set_option maxRecDepth 100000 in
theorem kx_K_about_2 (l : Launch) (hlt : l.stackTraces = false) {V : kc_V} (hV : kc_G V) (σ : kc_Sg) (x : Int32) (hx : x = nI 2) : kx_Met l y_K_about b_K_about 2 (some .int) (kx_rm 6) V [.ref (kc_ad V 0), .int x] σ kt_K_about_2 (some (.int (kp_K_about_2 σ))) σ := by
  refine kx_of hlt (by decide) (Nat.le_of_ble_eq_true rfl) hV.ok (fun C _ hC hG => ?_)
  show kc_Go C V 2 (0, 0) (kx_E C V kt_K_about_2 (some (.int (kp_K_about_2 σ))) σ σ) σ 0 [(0, .ref (kc_ad V 0)), (1, .int x)] []
  refine kg_iload_n hC d_K_about_0 1 rfl ?_
  refine kg_tabIn hC d_K_about_1 (n := 2) ⟨hx, by decide⟩ (by decide) (by decide) (off := 56) (by decide) (tgt := 57) (by decide) ?_
  refine kg_aload_n hC d_K_about_57 0 rfl ?_
  refine kg_getr hC (ko_0 hV) rfl ui_K (j := 2) (by decide) tw_94 rfl d_K_about_58 rfl ?_
  refine kg_virtualI hC (kk_V_complaintCount (kc_l C) hV σ) cal_V_complaintCount tw_587 tw_588 tw_586 (ko_3 hV) rfl rfl (by decide) (rest := []) rfl (Nat.le_of_ble_eq_true rfl) d_K_about_61 ?_ (by decide)
  exact kx_iret hC d_K_about_64 (by rw [kt_K_about_2]) (by rw [kp_K_about_2]) rfl
def kp_K_about_3 (σ : kc_Sg) : Int32 := (kp_V_settledCount σ)
def kt_K_about_3 : Nat := 0
set_option maxHeartbeats 4000000 in
set_option maxRecDepth 100000 in
theorem kx_K_about_3 (l : Launch) (hlt : l.stackTraces = false) {V : kc_V} (hV : kc_G V) (σ : kc_Sg) (x : Int32) (hx : x = nI 3) : kx_Met l y_K_about b_K_about 2 (some .int) (kx_rm 6) V [.ref (kc_ad V 0), .int x] σ kt_K_about_3 (some (.int (kp_K_about_3 σ))) σ := by
  refine kx_of hlt (by decide) (Nat.le_of_ble_eq_true rfl) hV.ok (fun C _ hC hG => ?_)
  show kc_Go C V 2 (0, 0) (kx_E C V kt_K_about_3 (some (.int (kp_K_about_3 σ))) σ σ) σ 0 [(0, .ref (kc_ad V 0)), (1, .int x)] []
  refine kg_iload_n hC d_K_about_0 1 rfl ?_
  refine kg_tabIn hC d_K_about_1 (n := 3) ⟨hx, by decide⟩ (by decide) (by decide) (off := 64) (by decide) (tgt := 65) (by decide) ?_
  refine kg_aload_n hC d_K_about_65 0 rfl ?_
  refine kg_getr hC (ko_0 hV) rfl ui_K (j := 2) (by decide) tw_94 rfl d_K_about_66 rfl ?_
  refine kg_virtualI hC (kk_V_settledCount (kc_l C) hV σ) cal_V_settledCount tw_594 tw_595 tw_593 (ko_3 hV) rfl rfl (by decide) (rest := []) rfl (Nat.le_of_ble_eq_true rfl) d_K_about_69 ?_ (by decide)
  exact kx_iret hC d_K_about_72 (by rw [kt_K_about_3]) (by rw [kp_K_about_3]) rfl
def kp_K_about_4 (σ : kc_Sg) : Int32 := (kp_V_dealers σ)
def kt_K_about_4 : Nat := 0
set_option maxHeartbeats 4000000 in
set_option maxRecDepth 100000 in
theorem kx_K_about_4 (l : Launch) (hlt : l.stackTraces = false) {V : kc_V} (hV : kc_G V) (σ : kc_Sg) (x : Int32) (hx : x = nI 4) : kx_Met l y_K_about b_K_about 2 (some .int) (kx_rm 6) V [.ref (kc_ad V 0), .int x] σ kt_K_about_4 (some (.int (kp_K_about_4 σ))) σ := by
  refine kx_of hlt (by decide) (Nat.le_of_ble_eq_true rfl) hV.ok (fun C _ hC hG => ?_)
  show kc_Go C V 2 (0, 0) (kx_E C V kt_K_about_4 (some (.int (kp_K_about_4 σ))) σ σ) σ 0 [(0, .ref (kc_ad V 0)), (1, .int x)] []
  refine kg_iload_n hC d_K_about_0 1 rfl ?_
  refine kg_tabIn hC d_K_about_1 (n := 4) ⟨hx, by decide⟩ (by decide) (by decide) (off := 72) (by decide) (tgt := 73) (by decide) ?_
  refine kg_aload_n hC d_K_about_73 0 rfl ?_
  refine kg_getr hC (ko_0 hV) rfl ui_K (j := 2) (by decide) tw_94 rfl d_K_about_74 rfl ?_
  refine kg_virtualI hC (kk_V_dealers (kc_l C) hV σ) cal_V_dealers tw_434 tw_435 tw_433 (ko_3 hV) rfl rfl (by decide) (rest := []) rfl (Nat.le_of_ble_eq_true rfl) d_K_about_77 ?_ (by decide)
  exact kx_iret hC d_K_about_80 (by rw [kt_K_about_4]) (by rw [kp_K_about_4]) rfl
def kp_K_about_5 (σ : kc_Sg) : Int32 := (kp_K_wiped σ)
def kt_K_about_5 : Nat := 0
set_option maxHeartbeats 4000000 in
set_option maxRecDepth 100000 in
theorem kx_K_about_5 (l : Launch) (hlt : l.stackTraces = false) {V : kc_V} (hV : kc_G V) (σ : kc_Sg) (x : Int32) (hx : x = nI 5) : kx_Met l y_K_about b_K_about 2 (some .int) (kx_rm 6) V [.ref (kc_ad V 0), .int x] σ kt_K_about_5 (some (.int (kp_K_about_5 σ))) σ := by
  refine kx_of hlt (by decide) (Nat.le_of_ble_eq_true rfl) hV.ok (fun C _ hC hG => ?_)
  show kc_Go C V 2 (0, 0) (kx_E C V kt_K_about_5 (some (.int (kp_K_about_5 σ))) σ σ) σ 0 [(0, .ref (kc_ad V 0)), (1, .int x)] []
  refine kg_iload_n hC d_K_about_0 1 rfl ?_
  refine kg_tabIn hC d_K_about_1 (n := 5) ⟨hx, by decide⟩ (by decide) (by decide) (off := 80) (by decide) (tgt := 81) (by decide) ?_
  refine kg_aload_n hC d_K_about_81 0 rfl ?_
  refine kg_virtualI hC (kk_K_wiped (kc_l C) hV σ) cal_K_wiped tw_562 ts_K_wiped tw_560 (ko_0 hV) rfl rfl (by decide) (rest := []) rfl (Nat.le_of_ble_eq_true rfl) d_K_about_82 ?_ (by decide)
  exact kx_iret hC d_K_about_85 (by rw [kt_K_about_5]) (by rw [kp_K_about_5]) rfl
def kp_K_about_6 (σ : kc_Sg) : Int32 := (kp_V_faulty σ)
def kt_K_about_6 : Nat := 0
set_option maxHeartbeats 4000000 in
set_option maxRecDepth 100000 in
theorem kx_K_about_6 (l : Launch) (hlt : l.stackTraces = false) {V : kc_V} (hV : kc_G V) (σ : kc_Sg) (x : Int32) (hx : x = nI 6) : kx_Met l y_K_about b_K_about 2 (some .int) (kx_rm 6) V [.ref (kc_ad V 0), .int x] σ kt_K_about_6 (some (.int (kp_K_about_6 σ))) σ := by
  refine kx_of hlt (by decide) (Nat.le_of_ble_eq_true rfl) hV.ok (fun C _ hC hG => ?_)
  show kc_Go C V 2 (0, 0) (kx_E C V kt_K_about_6 (some (.int (kp_K_about_6 σ))) σ σ) σ 0 [(0, .ref (kc_ad V 0)), (1, .int x)] []
  refine kg_iload_n hC d_K_about_0 1 rfl ?_
  refine kg_tabIn hC d_K_about_1 (n := 6) ⟨hx, by decide⟩ (by decide) (by decide) (off := 85) (by decide) (tgt := 86) (by decide) ?_
  refine kg_aload_n hC d_K_about_86 0 rfl ?_
  refine kg_getr hC (ko_0 hV) rfl ui_K (j := 2) (by decide) tw_94 rfl d_K_about_87 rfl ?_
  refine kg_virtualI hC (kk_V_faulty (kc_l C) hV σ) cal_V_faulty tw_313 tw_314 tw_597 (ko_3 hV) rfl rfl (by decide) (rest := []) rfl (Nat.le_of_ble_eq_true rfl) d_K_about_90 ?_ (by decide)
  exact kx_iret hC d_K_about_93 (by rw [kt_K_about_6]) (by rw [kp_K_about_6]) rfl
def kp_K_about_x : Int32 := (nI 0)
def kt_K_about_x : Nat := 3
set_option maxHeartbeats 4000000 in
set_option maxRecDepth 100000 in
theorem kx_K_about_x (l : Launch) (hlt : l.stackTraces = false) {V : kc_V} (hV : kc_G V) (σ : kc_Sg) (x : Int32) (hx : x.toInt < 0 ∨ 6 < x.toInt) : kx_Met l y_K_about b_K_about 2 (some .int) (kx_rm 6) V [.ref (kc_ad V 0), .int x] σ kt_K_about_x (some (.int kp_K_about_x)) σ := by
  refine kx_of hlt (by decide) (Nat.le_of_ble_eq_true rfl) hV.ok (fun C _ hC hG => ?_)
  show kc_Go C V 2 (0, 0) (kx_E C V kt_K_about_x (some (.int kp_K_about_x)) σ σ) σ 0 [(0, .ref (kc_ad V 0)), (1, .int x)] []
  refine kg_iload_n hC d_K_about_0 1 rfl ?_
  refine kg_tabOut hC d_K_about_1 hx (tgt := 94) (by decide) ?_
  exact kx_thr_3 hC hG (by rw [kt_K_about_x]) (by decide) (Nat.le_of_ble_eq_true rfl) d_K_about_94 d_K_about_97 d_K_about_98 d_K_about_101
