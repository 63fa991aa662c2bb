theorem ke_writeRow {σ : kc_Sg} {k j : Nat} {a b c d : Int32} (h : j ≠ k) : kq_K_writeRow σ k a b c d j = σ j := by
  unfold kq_K_writeRow
  rw [kc_up_ne h, kc_up_ne h, kc_up_ne h, kc_up_ne h]
theorem ke_it {f : Nat → kc_Sg → kc_Sg} {j : Nat} (h : ∀ i a, f i a j = a j) : ∀ n i a, kc_it f n i a j = a j
  | 0, _, _ => rfl
  | n + 1, i, a => (ke_it h n (i + 1) (f i a)).trans (h i a)
theorem ke_commitTo {σ : kc_Sg} {k k2 j : Nat} (h : j ≠ k2) : kq_G_commitTo σ k k2 j = σ j := by
  unfold kq_G_commitTo
  exact ke_it (fun i a => by rw [kf_G_commitTo_1, kc_up_ne h]) _ _ _
def kq_V_begin (σ : kc_Sg) : kc_Sg := (kc_up (kc_up (kq_JA_fill (kq_JA_fill (kq_JA_fill σ 8 (nI 0) 8) 12 (nI 0) 8) 13 (nI 0) 8) 3 7 (nI 0)) 3 8 (nI 0))
set_option maxHeartbeats 4000000 in
set_option maxRecDepth 100000 in
theorem kk_V_begin (l : Launch) {V : kc_V} (hV : kc_G V) (σ : kc_Sg) : kc_Met l y_V_begin b_V_begin 1 none (kc_rm 2) V [.ref (kc_ad V 3)] σ none (kq_V_begin σ) := by
  refine kc_of (by decide) (Nat.le_of_ble_eq_true rfl) hV.ok (fun C _ hC => ?_)
  show kc_Go C V 1 (0, 0) (kc_E C V none (kq_V_begin σ)) σ 0 [(0, .ref (kc_ad V 3))] []
  refine kg_aload_n hC d_V_begin_0 0 rfl ?_
  refine kg_getr hC (ko_3 hV) rfl ui_V (j := 1) (by decide) tw_65 rfl d_V_begin_1 rfl ?_
  refine kg_iconst hC d_V_begin_4 kn_i_0 ?_
  refine kg_staticV hC (kk_JA_fill (kc_l C) hV σ 8 (nI 0) 8 (ka_8 hV)) cal_JA_fill tw_209 tw_208 rfl (by decide) (rest := []) rfl (Nat.le_of_ble_eq_true rfl) d_V_begin_5 ?_ (by decide)
  refine kg_aload_n hC d_V_begin_8 0 rfl ?_
  refine kg_getr hC (ko_3 hV) rfl ui_V (j := 5) (by decide) tw_69 rfl d_V_begin_9 rfl ?_
  refine kg_iconst hC d_V_begin_12 kn_i_0 ?_
  refine kg_staticV hC (kk_JA_fill (kc_l C) hV (kq_JA_fill σ 8 (nI 0) 8) 12 (nI 0) 8 (ka_12 hV)) cal_JA_fill tw_209 tw_208 rfl (by decide) (rest := []) rfl (Nat.le_of_ble_eq_true rfl) d_V_begin_13 ?_ (by decide)
  refine kg_at (pc' := 16) rfl ?_
  refine kg_aload_n hC d_V_begin_16 0 rfl ?_
  refine kg_getr hC (ko_3 hV) rfl ui_V (j := 6) (by decide) tw_70 rfl d_V_begin_17 rfl ?_
  refine kg_iconst hC d_V_begin_20 kn_i_0 ?_
  refine kg_staticV hC (kk_JA_fill (kc_l C) hV (kq_JA_fill (kq_JA_fill σ 8 (nI 0) 8) 12 (nI 0) 8) 13 (nI 0) 8 (ka_13 hV)) cal_JA_fill tw_209 tw_208 rfl (by decide) (rest := []) rfl (Nat.le_of_ble_eq_true rfl) d_V_begin_21 ?_ (by decide)
  refine kg_aload_n hC d_V_begin_24 0 rfl ?_
  refine kg_iconst hC d_V_begin_25 kn_i_0 ?_
  refine kg_puti hC (ko_3 hV) rfl ui_V ok_V nm_V (j := 7) (by decide) tw_71 rfl rfl rfl rfl d_V_begin_26 rfl ?_
  refine kg_aload_n hC d_V_begin_29 0 rfl ?_
  refine kg_at (pc' := 30) rfl ?_
  refine kg_iconst hC d_V_begin_30 kn_i_0 ?_
  refine kg_puti hC (ko_3 hV) rfl ui_V ok_V nm_V (j := 8) (by decide) tw_72 rfl rfl rfl rfl d_V_begin_31 rfl ?_
  exact kg_vret hC d_V_begin_34 (by rw [kq_V_begin])
def kp_V_hasDealt (σ : kc_Sg) (d : Nat) : Int32 := (kp_K_isAmong (σ 3 7) (nI d))
set_option maxHeartbeats 4000000 in
set_option maxRecDepth 100000 in
theorem kk_V_hasDealt (l : Launch) {V : kc_V} (hV : kc_G V) (σ : kc_Sg) (d : Nat) : kc_Met l y_V_hasDealt b_V_hasDealt 2 (some .boolean) (kc_rm 3) V [.ref (kc_ad V 3), .int (nI d)] σ (some (.int (kp_V_hasDealt σ d))) σ := by
  refine kc_of (by decide) (Nat.le_of_ble_eq_true rfl) hV.ok (fun C _ hC => ?_)
  show kc_Go C V 2 (0, 0) (kc_E C V (some (.int (kp_V_hasDealt σ d))) σ) σ 0 [(0, .ref (kc_ad V 3)), (1, .int (nI d))] []
  refine kg_aload_n hC d_V_hasDealt_0 0 rfl ?_
  refine kg_geti hC (ko_3 hV) rfl ui_V (j := 7) (by decide) tw_71 rfl d_V_hasDealt_1 rfl ?_
  refine kg_iload_n hC d_V_hasDealt_4 1 rfl ?_
  refine kg_staticNI hC (kk_K_isAmong (kc_l C) hV σ (σ 3 7) (nI d)) cal_K_isAmong tw_303 kx_V_49 rfl (by decide) (rest := []) rfl (Nat.le_of_ble_eq_true rfl) d_V_hasDealt_5 ?_ (by decide)
  exact kg_zret hC d_V_hasDealt_8 (kn_zb (kz_K_isAmong _ _)) (by rw [kp_V_hasDealt]) rfl
theorem kz_V_hasDealt (σ : kc_Sg) (d : Nat) : kp_V_hasDealt σ d = nI 0 ∨ kp_V_hasDealt σ d = nI 1 := by
  unfold kp_V_hasDealt
  (repeat' split) <;> first | exact Or.inl rfl | exact Or.inr rfl | exact kz_K_isAmong _ _
def kf_V_faulty_1 (σ : kc_Sg) (i1 : Nat) (a1 : Int32) : Int32 := if (σ 8 i1) = 0 then a1 else (a1 ||| (kp_K_bit (nI i1)))
def kp_V_faulty (σ : kc_Sg) : Int32 := (kc_it (kf_V_faulty_1 σ) 7 1 (nI 0))
set_option maxHeartbeats 4000000 in
set_option maxRecDepth 100000 in
theorem kk_V_faulty (l : Launch) {V : kc_V} (hV : kc_G V) (σ : kc_Sg) : kc_Met l y_V_faulty b_V_faulty 3 (some .int) (kc_rm 2) V [.ref (kc_ad V 3)] σ (some (.int (kp_V_faulty σ))) σ := by
  refine kc_of (by decide) (Nat.le_of_ble_eq_true rfl) hV.ok (fun C _ hC => ?_)
  show kc_Go C V 3 (0, 0) (kc_E C V (some (.int (kp_V_faulty σ))) σ) σ 0 [(0, .ref (kc_ad V 3))] []
  refine kg_iconst hC d_V_faulty_0 kn_i_0 ?_
  refine kg_istore_n hC d_V_faulty_1 [(1, .int (nI 0)), (0, .ref (kc_ad V 3))] rfl (by decide) ?_
  refine kg_iconst hC d_V_faulty_2 kn_i_1 ?_
  refine kg_istore_n hC d_V_faulty_3 [(2, .int (nI 1)), (1, .int (nI 0)), (0, .ref (kc_ad V 3))] rfl (by decide) ?_
  refine kc_loop (fun i1 a1 => kc_Go C V 3 (0, 0) (kc_E C V (some (.int (kp_V_faulty σ))) σ) σ 4 [(2, .int (nI i1)), (1, .int a1), (0, .ref (kc_ad V 3))] []) (kf_V_faulty_1 σ) 1 8 (fun i1 a1 ho1 hi1 hk1 => ?_) 7 1 (nI 0) (Nat.le_refl _) rfl ?_
  · refine kg_iload_n hC d_V_faulty_4 0 rfl ?_
    refine kg_bipush hC d_V_faulty_5 kn_b_7 ?_
    refine kg_icmp_gt hC d_V_faulty_7 (tgt := 32) rfl (fun q => absurd q (nI_nlt (by omega) (by decide))) (fun _ => ?_)
    refine kg_aload_n hC d_V_faulty_10 2 rfl ?_
    refine kg_getr hC (ko_3 hV) rfl ui_V (j := 1) (by decide) tw_65 rfl d_V_faulty_11 rfl ?_
    refine kg_iload_n hC d_V_faulty_14 0 rfl ?_
    refine kg_iald hC (ka_8 hV) (i := i1) rfl (by omega) d_V_faulty_15 ?_
    refine kg_if_eq hC d_V_faulty_16 (tgt := 26) rfl (fun h16 => ?_) (fun h16 => ?_)
    · refine kg_iinc hC d_V_faulty_26 0 rfl (kn_inc1 i1) [(2, .int (nI (i1 + 1))), (1, .int a1), (0, .ref (kc_ad V 3))] rfl (by decide) ?_
      refine kg_goto hC d_V_faulty_29 (tgt := 4) rfl ?_
      exact kg_to (P := fun zz => kc_Go C V 3 (0, 0) (kc_E C V (some (.int (kp_V_faulty σ))) σ) σ 4 [(2, .int (nI (i1 + 1))), (1, .int zz), (0, .ref (kc_ad V 3))] []) (b := a1) (a := (kf_V_faulty_1 σ) i1 a1) (by rw [kf_V_faulty_1, if_pos h16]) hk1
    · refine kg_iload_n hC d_V_faulty_19 1 rfl ?_
      refine kg_iload_n hC d_V_faulty_20 0 rfl ?_
      refine kg_staticNI hC (kk_K_bit (kc_l C) hV σ (nI i1)) cal_K_bit tw_306 kx_V_57 rfl (by decide) (rest := [.int a1]) rfl (Nat.le_of_ble_eq_true rfl) d_V_faulty_21 ?_ (by decide)
      refine kg_ior hC d_V_faulty_24 ?_
      refine kg_istore_n hC d_V_faulty_25 [(1, .int (a1 ||| (kp_K_bit (nI i1)))), (2, .int (nI i1)), (0, .ref (kc_ad V 3))] rfl (by decide) ?_
      refine kg_iinc hC d_V_faulty_26 1 rfl (kn_inc1 i1) [(2, .int (nI (i1 + 1))), (1, .int (a1 ||| (kp_K_bit (nI i1)))), (0, .ref (kc_ad V 3))] rfl (by decide) ?_
      refine kg_goto hC d_V_faulty_29 (tgt := 4) rfl ?_
      exact kg_to (P := fun zz => kc_Go C V 3 (0, 0) (kc_E C V (some (.int (kp_V_faulty σ))) σ) σ 4 [(2, .int (nI (i1 + 1))), (1, .int zz), (0, .ref (kc_ad V 3))] []) (b := (a1 ||| (kp_K_bit (nI i1)))) (a := (kf_V_faulty_1 σ) i1 a1) (by rw [kf_V_faulty_1, if_neg h16]) hk1
  generalize hg1 : (kc_it (kf_V_faulty_1 σ) 7 1 (nI 0)) = τ1
  refine kg_iload_n hC d_V_faulty_4 0 rfl ?_
  refine kg_bipush hC d_V_faulty_5 kn_b_7 ?_
  refine kg_icmp_gt hC d_V_faulty_7 (tgt := 32) rfl (fun _ => ?_) (fun q => absurd (nI_lt (by decide) (by decide)) q)
  refine kg_iload_n hC d_V_faulty_32 1 rfl ?_
  exact kg_iret hC d_V_faulty_33 (by rw [kp_V_faulty, hg1]) rfl
def kp_V_isOneTooMany (σ : kc_Sg) (d : Nat) (x : Int32) : Int32 := if x = 0 then (nI 0) else (if (kp_JI_bitCount ((kp_V_faulty σ) ||| (kp_K_bit (nI d)))) ≤ (nI 3) then (nI 0) else (nI 1))
set_option maxHeartbeats 4000000 in
set_option maxRecDepth 100000 in
theorem kk_V_isOneTooMany (l : Launch) {V : kc_V} (hV : kc_G V) (σ : kc_Sg) (d : Nat) (x : Int32) : kc_Met l y_V_isOneTooMany b_V_isOneTooMany 3 (some .boolean) (kc_rm 3) V [.ref (kc_ad V 3), .int (nI d), .int x] σ (some (.int (kp_V_isOneTooMany σ d x))) σ := by
  refine kc_of (by decide) (Nat.le_of_ble_eq_true rfl) hV.ok (fun C _ hC => ?_)
  show kc_Go C V 3 (0, 0) (kc_E C V (some (.int (kp_V_isOneTooMany σ d x))) σ) σ 0 [(0, .ref (kc_ad V 3)), (1, .int (nI d)), (2, .int x)] []
  refine kg_iload_n hC d_V_isOneTooMany_0 2 rfl ?_
  refine kg_if_eq hC d_V_isOneTooMany_1 (tgt := 24) rfl (fun h1 => ?_) (fun h1 => ?_)
  · refine kg_iconst hC d_V_isOneTooMany_24 kn_i_0 ?_
    exact kg_zret hC d_V_isOneTooMany_25 kn_z0 (by rw [kp_V_isOneTooMany, if_pos h1]) rfl
  · refine kg_aload_n hC d_V_isOneTooMany_4 0 rfl ?_
    refine kg_virtualI hC (kk_V_faulty (kc_l C) hV σ) cal_V_faulty tw_313 tw_314 tw_312 (ko_3 hV) rfl rfl (by decide) (rest := []) rfl (Nat.le_of_ble_eq_true rfl) d_V_isOneTooMany_5 ?_ (by decide)
    refine kg_iload_n hC d_V_isOneTooMany_8 1 rfl ?_
    refine kg_staticNI hC (kk_K_bit (kc_l C) hV σ (nI d)) cal_K_bit tw_306 kx_V_57 rfl (by decide) (rest := [.int (kp_V_faulty σ)]) rfl (Nat.le_of_ble_eq_true rfl) d_V_isOneTooMany_9 ?_ (by decide)
    refine kg_ior hC d_V_isOneTooMany_12 ?_
    refine kg_staticI hC (kk_JI_bitCount (kc_l C) hV σ ((kp_V_faulty σ) ||| (kp_K_bit (nI d)))) cal_JI_bitCount tw_318 tw_317 rfl (by decide) (rest := []) rfl (Nat.le_of_ble_eq_true rfl) d_V_isOneTooMany_13 ?_ (by decide)
    refine kg_iconst hC d_V_isOneTooMany_16 kn_i_3 ?_
    refine kg_icmp_le hC d_V_isOneTooMany_17 (tgt := 24) rfl (fun h17 => ?_) (fun h17 => ?_)
    · refine kg_iconst hC d_V_isOneTooMany_24 kn_i_0 ?_
      exact kg_zret hC d_V_isOneTooMany_25 kn_z0 (by rw [kp_V_isOneTooMany, if_neg h1, if_pos h17]) rfl
    · refine kg_iconst hC d_V_isOneTooMany_20 kn_i_1 ?_
      refine kg_goto hC d_V_isOneTooMany_21 (tgt := 25) rfl ?_
      exact kg_zret hC d_V_isOneTooMany_25 kn_z1 (by rw [kp_V_isOneTooMany, if_neg h1, if_neg h17]) rfl
theorem kz_V_isOneTooMany (σ : kc_Sg) (d : Nat) (x : Int32) : kp_V_isOneTooMany σ d x = nI 0 ∨ kp_V_isOneTooMany σ d x = nI 1 := by
  unfold kp_V_isOneTooMany
  (repeat' split) <;> first | exact Or.inl rfl | exact Or.inr rfl
def kq_V_turn (σ : kc_Sg) (d : Nat) (x : Int32) : kc_Sg := (kc_up σ 8 d x)
set_option maxHeartbeats 4000000 in
set_option maxRecDepth 100000 in
theorem kk_V_turn (l : Launch) {V : kc_V} (hV : kc_G V) (σ : kc_Sg) (d : Nat) (x : Int32) (hd : d < 8) : kc_Met l y_V_turn b_V_turn 3 none (kc_rm 1) V [.ref (kc_ad V 3), .int (nI d), .int x] σ none (kq_V_turn σ d x) := by
  refine kc_of (by decide) (Nat.le_of_ble_eq_true rfl) hV.ok (fun C _ hC => ?_)
  show kc_Go C V 3 (0, 0) (kc_E C V none (kq_V_turn σ d x)) σ 0 [(0, .ref (kc_ad V 3)), (1, .int (nI d)), (2, .int x)] []
  refine kg_aload_n hC d_V_turn_0 0 rfl ?_
  refine kg_getr hC (ko_3 hV) rfl ui_V (j := 1) (by decide) tw_65 rfl d_V_turn_1 rfl ?_
  refine kg_iload_n hC d_V_turn_4 1 rfl ?_
  refine kg_iload_n hC d_V_turn_5 2 rfl ?_
  refine kg_iast hC (ka_8 hV) (i := d) rfl hd d_V_turn_6 ?_
  exact kg_vret hC d_V_turn_7 (by rw [kq_V_turn])
def kp_V_isSilent (σ : kc_Sg) (d : Nat) : Int32 := if (σ 8 d) = (nI 1) then (nI 1) else (nI 0)
set_option maxHeartbeats 4000000 in
set_option maxRecDepth 100000 in
theorem kk_V_isSilent (l : Launch) {V : kc_V} (hV : kc_G V) (σ : kc_Sg) (d : Nat) (hd : d < 8) : kc_Met l y_V_isSilent b_V_isSilent 2 (some .boolean) (kc_rm 1) V [.ref (kc_ad V 3), .int (nI d)] σ (some (.int (kp_V_isSilent σ d))) σ := by
  refine kc_of (by decide) (Nat.le_of_ble_eq_true rfl) hV.ok (fun C _ hC => ?_)
  show kc_Go C V 2 (0, 0) (kc_E C V (some (.int (kp_V_isSilent σ d))) σ) σ 0 [(0, .ref (kc_ad V 3)), (1, .int (nI d))] []
  refine kg_aload_n hC d_V_isSilent_0 0 rfl ?_
  refine kg_getr hC (ko_3 hV) rfl ui_V (j := 1) (by decide) tw_65 rfl d_V_isSilent_1 rfl ?_
  refine kg_iload_n hC d_V_isSilent_4 1 rfl ?_
  refine kg_iald hC (ka_8 hV) (i := d) rfl hd d_V_isSilent_5 ?_
  refine kg_iconst hC d_V_isSilent_6 kn_i_1 ?_
  refine kg_icmp_ne hC d_V_isSilent_7 (tgt := 14) rfl (fun h7 => ?_) (fun h7 => ?_)
  · refine kg_iconst hC d_V_isSilent_14 kn_i_0 ?_
    exact kg_zret hC d_V_isSilent_15 kn_z0 (by rw [kp_V_isSilent, if_neg h7]) rfl
  · refine kg_iconst hC d_V_isSilent_10 kn_i_1 ?_
    refine kg_goto hC d_V_isSilent_11 (tgt := 15) rfl ?_
    exact kg_zret hC d_V_isSilent_15 kn_z1 (by rw [kp_V_isSilent, if_pos h7]) rfl
theorem kz_V_isSilent (σ : kc_Sg) (d : Nat) : kp_V_isSilent σ d = nI 0 ∨ kp_V_isSilent σ d = nI 1 := by
  unfold kp_V_isSilent
  (repeat' split) <;> first | exact Or.inl rfl | exact Or.inr rfl
def kq_V_passOver (σ : kc_Sg) (d : Nat) : kc_Sg := (kc_up σ 3 7 ((σ 3 7) ||| (kp_K_bit (nI d))))
set_option maxHeartbeats 4000000 in
set_option maxRecDepth 100000 in
theorem kk_V_passOver (l : Launch) {V : kc_V} (hV : kc_G V) (σ : kc_Sg) (d : Nat) : kc_Met l y_V_passOver b_V_passOver 2 none (kc_rm 2) V [.ref (kc_ad V 3), .int (nI d)] σ none (kq_V_passOver σ d) := by
  refine kc_of (by decide) (Nat.le_of_ble_eq_true rfl) hV.ok (fun C _ hC => ?_)
  show kc_Go C V 2 (0, 0) (kc_E C V none (kq_V_passOver σ d)) σ 0 [(0, .ref (kc_ad V 3)), (1, .int (nI d))] []
  refine kg_aload_n hC d_V_passOver_0 0 rfl ?_
  refine kg_dup hC d_V_passOver_1 rfl ?_
  refine kg_geti hC (ko_3 hV) rfl ui_V (j := 7) (by decide) tw_71 rfl d_V_passOver_2 rfl ?_
  refine kg_iload_n hC d_V_passOver_5 1 rfl ?_
  refine kg_staticNI hC (kk_K_bit (kc_l C) hV σ (nI d)) cal_K_bit tw_306 kx_V_57 rfl (by decide) (rest := [.int (σ 3 7), .ref (kc_ad V 3)]) rfl (Nat.le_of_ble_eq_true rfl) d_V_passOver_6 ?_ (by decide)
  refine kg_ior hC d_V_passOver_9 ?_
  refine kg_puti hC (ko_3 hV) rfl ui_V ok_V nm_V (j := 7) (by decide) tw_71 rfl rfl rfl rfl d_V_passOver_10 rfl ?_
  exact kg_vret hC d_V_passOver_13 (by rw [kq_V_passOver])
def kp_V_rightShare (σ : kc_Sg) (d : Nat) (k : Nat) : Int32 := (kp_G_valueAt σ (nI k) (14 + d))
set_option maxHeartbeats 4000000 in
set_option maxRecDepth 100000 in
theorem kk_V_rightShare (l : Launch) {V : kc_V} (hV : kc_G V) (σ : kc_Sg) (d : Nat) (k : Nat) (hq : ¬ σ 1 1 = 0) (hd : d < 8) : kc_Met l y_V_rightShare b_V_rightShare 3 (some .int) (kc_rm 3) V [.ref (kc_ad V 3), .int (nI d), .int (nI k)] σ (some (.int (kp_V_rightShare σ d k))) σ := by
  refine kc_of (by decide) (Nat.le_of_ble_eq_true rfl) hV.ok (fun C _ hC => ?_)
  show kc_Go C V 3 (0, 0) (kc_E C V (some (.int (kp_V_rightShare σ d k))) σ) σ 0 [(0, .ref (kc_ad V 3)), (1, .int (nI d)), (2, .int (nI k))] []
  refine kg_aload_n hC d_V_rightShare_0 0 rfl ?_
  refine kg_getr hC (ko_3 hV) rfl ui_V (j := 0) (by decide) tw_64 rfl d_V_rightShare_1 rfl ?_
  refine kg_iload_n hC d_V_rightShare_4 2 rfl ?_
  refine kg_aload_n hC d_V_rightShare_5 0 rfl ?_
  refine kg_getr hC (ko_3 hV) rfl ui_V (j := 2) (by decide) tw_66 rfl d_V_rightShare_6 rfl ?_
  refine kg_iload_n hC d_V_rightShare_9 1 rfl ?_
  refine kg_aald hC (ka_9 hV) (i := d) rfl hd d_V_rightShare_10 ?_
  refine kg_virtualI hC (kk_G_valueAt (kc_l C) hV σ (nI k) (14 + d) hq (ka_14 hV hd)) cal_G_valueAt tw_256 tw_257 tw_371 (ko_1 hV) rfl rfl (by decide) (rest := []) rfl (Nat.le_of_ble_eq_true rfl) d_V_rightShare_11 ?_ (by decide)
  refine kg_at (pc' := 14) rfl ?_
  exact kg_iret hC d_V_rightShare_14 (by rw [kp_V_rightShare]) rfl
def kp_V_isCheated (σ : kc_Sg) (d : Nat) (k : Nat) : Int32 := if (nI k) = ((kc_rem (nI d) (nI 7)) + (nI 1)) then (if (σ 8 d) = (nI 2) then (nI 1) else (if (σ 8 d) = (nI 5) then (nI 1) else (if (σ 8 d) = (nI 6) then (nI 1) else (nI 0)))) else (nI 0)
set_option maxHeartbeats 4000000 in
set_option maxRecDepth 100000 in
theorem kk_V_isCheated (l : Launch) {V : kc_V} (hV : kc_G V) (σ : kc_Sg) (d : Nat) (k : Nat) (hd : d < 8) : kc_Met l y_V_isCheated b_V_isCheated 4 (some .boolean) (kc_rm 1) V [.ref (kc_ad V 3), .int (nI d), .int (nI k)] σ (some (.int (kp_V_isCheated σ d k))) σ := by
  refine kc_of (by decide) (Nat.le_of_ble_eq_true rfl) hV.ok (fun C _ hC => ?_)
  show kc_Go C V 4 (0, 0) (kc_E C V (some (.int (kp_V_isCheated σ d k))) σ) σ 0 [(0, .ref (kc_ad V 3)), (1, .int (nI d)), (2, .int (nI k))] []
  refine kg_aload_n hC d_V_isCheated_0 0 rfl ?_
  refine kg_getr hC (ko_3 hV) rfl ui_V (j := 1) (by decide) tw_65 rfl d_V_isCheated_1 rfl ?_
  refine kg_iload_n hC d_V_isCheated_4 1 rfl ?_
  refine kg_iald hC (ka_8 hV) (i := d) rfl hd d_V_isCheated_5 ?_
  refine kg_istore_n hC d_V_isCheated_6 [(3, .int (σ 8 d)), (0, .ref (kc_ad V 3)), (1, .int (nI d)), (2, .int (nI k))] rfl (by decide) ?_
  refine kg_iload_n hC d_V_isCheated_7 3 rfl ?_
  refine kg_iload_n hC d_V_isCheated_8 2 rfl ?_
  refine kg_bipush hC d_V_isCheated_9 kn_b_7 ?_
  refine kg_at (pc' := 11) rfl ?_
  refine kg_irem hC d_V_isCheated_11 (by decide) ?_
  refine kg_iconst hC d_V_isCheated_12 kn_i_1 ?_
  refine kg_iadd hC d_V_isCheated_13 ?_
  refine kg_icmp_ne hC d_V_isCheated_14 (tgt := 37) rfl (fun h14 => ?_) (fun h14 => ?_)
  · refine kg_iconst hC d_V_isCheated_37 kn_i_0 ?_
    exact kg_zret hC d_V_isCheated_38 kn_z0 (by rw [kp_V_isCheated, if_neg h14]) rfl
  · refine kg_iload_n hC d_V_isCheated_17 0 rfl ?_
    refine kg_iconst hC d_V_isCheated_18 kn_i_2 ?_
    refine kg_icmp_eq hC d_V_isCheated_19 (tgt := 33) rfl (fun h19 => ?_) (fun h19 => ?_)
    · refine kg_iconst hC d_V_isCheated_33 kn_i_1 ?_
      refine kg_goto hC d_V_isCheated_34 (tgt := 38) rfl ?_
      exact kg_zret hC d_V_isCheated_38 kn_z1 (by rw [kp_V_isCheated, if_pos h14, if_pos h19]) rfl
    · refine kg_iload_n hC d_V_isCheated_22 0 rfl ?_
      refine kg_iconst hC d_V_isCheated_23 kn_i_5 ?_
      refine kg_icmp_eq hC d_V_isCheated_24 (tgt := 33) rfl (fun h24 => ?_) (fun h24 => ?_)
      · refine kg_iconst hC d_V_isCheated_33 kn_i_1 ?_
        refine kg_goto hC d_V_isCheated_34 (tgt := 38) rfl ?_
        exact kg_zret hC d_V_isCheated_38 kn_z1 (by rw [kp_V_isCheated, if_pos h14, if_neg h19, if_pos h24]) rfl
      · refine kg_iload_n hC d_V_isCheated_27 0 rfl ?_
        refine kg_bipush hC d_V_isCheated_28 kn_b_6 ?_
        refine kg_icmp_ne hC d_V_isCheated_30 (tgt := 37) rfl (fun h30 => ?_) (fun h30 => ?_)
        · refine kg_iconst hC d_V_isCheated_37 kn_i_0 ?_
          exact kg_zret hC d_V_isCheated_38 kn_z0 (by rw [kp_V_isCheated, if_pos h14, if_neg h19, if_neg h24, if_neg h30]) rfl
        · refine kg_iconst hC d_V_isCheated_33 kn_i_1 ?_
          refine kg_goto hC d_V_isCheated_34 (tgt := 38) rfl ?_
          exact kg_zret hC d_V_isCheated_38 kn_z1 (by rw [kp_V_isCheated, if_pos h14, if_neg h19, if_neg h24, if_pos h30]) rfl
theorem kz_V_isCheated (σ : kc_Sg) (d : Nat) (k : Nat) : kp_V_isCheated σ d k = nI 0 ∨ kp_V_isCheated σ d k = nI 1 := by
  unfold kp_V_isCheated
  (repeat' split) <;> first | exact Or.inl rfl | exact Or.inr rfl
def kp_V_dealers (σ : kc_Sg) : Int32 := (σ 3 8)
set_option maxHeartbeats 4000000 in
set_option maxRecDepth 100000 in
theorem kk_V_dealers (l : Launch) {V : kc_V} (hV : kc_G V) (σ : kc_Sg) : kc_Met l y_V_dealers b_V_dealers 1 (some .int) (kc_rm 1) V [.ref (kc_ad V 3)] σ (some (.int (kp_V_dealers σ))) σ := by
  refine kc_of (by decide) (Nat.le_of_ble_eq_true rfl) hV.ok (fun C _ hC => ?_)
  show kc_Go C V 1 (0, 0) (kc_E C V (some (.int (kp_V_dealers σ))) σ) σ 0 [(0, .ref (kc_ad V 3))] []
  refine kg_aload_n hC d_V_dealers_0 0 rfl ?_
  refine kg_geti hC (ko_3 hV) rfl ui_V (j := 8) (by decide) tw_72 rfl d_V_dealers_1 rfl ?_
  exact kg_iret hC d_V_dealers_4 (by rw [kp_V_dealers]) rfl
set_option maxHeartbeats 4000000 in
set_option maxRecDepth 100000 in
theorem kk_V_commitmentsOf (l : Launch) {V : kc_V} (hV : kc_G V) (σ : kc_Sg) (d : Nat) (hd : d < 8) : kc_Met l y_V_commitmentsOf b_V_commitmentsOf 2 (some (.array .int)) (kc_rm 1) V [.ref (kc_ad V 3), .int (nI d)] σ (some (.ref (kc_ad V (22 + d)))) σ := by
  refine kc_of (by decide) (Nat.le_of_ble_eq_true rfl) hV.ok (fun C _ hC => ?_)
  show kc_Go C V 2 (0, 0) (kc_E C V (some (.ref (kc_ad V (22 + d)))) σ) σ 0 [(0, .ref (kc_ad V 3)), (1, .int (nI d))] []
  refine kg_aload_n hC d_V_commitmentsOf_0 0 rfl ?_
  refine kg_getr hC (ko_3 hV) rfl ui_V (j := 3) (by decide) tw_67 rfl d_V_commitmentsOf_1 rfl ?_
  refine kg_iload_n hC d_V_commitmentsOf_4 1 rfl ?_
  refine kg_aald hC (ka_10 hV) (i := d) rfl hd d_V_commitmentsOf_5 ?_
  exact kg_aret hC (Or.inr ⟨_, rfl⟩) d_V_commitmentsOf_6 rfl rfl
def kp_V_hadFrom (σ : kc_Sg) (d : Nat) (k : Nat) : Int32 := (σ (30 + d) k)
set_option maxHeartbeats 4000000 in
set_option maxRecDepth 100000 in
theorem kk_V_hadFrom (l : Launch) {V : kc_V} (hV : kc_G V) (σ : kc_Sg) (d : Nat) (k : Nat) (hd : d < 8) (hk : k < 8) : kc_Met l y_V_hadFrom b_V_hadFrom 3 (some .int) (kc_rm 1) V [.ref (kc_ad V 3), .int (nI d), .int (nI k)] σ (some (.int (kp_V_hadFrom σ d k))) σ := by
  refine kc_of (by decide) (Nat.le_of_ble_eq_true rfl) hV.ok (fun C _ hC => ?_)
  show kc_Go C V 3 (0, 0) (kc_E C V (some (.int (kp_V_hadFrom σ d k))) σ) σ 0 [(0, .ref (kc_ad V 3)), (1, .int (nI d)), (2, .int (nI k))] []
  refine kg_aload_n hC d_V_hadFrom_0 0 rfl ?_
  refine kg_getr hC (ko_3 hV) rfl ui_V (j := 4) (by decide) tw_68 rfl d_V_hadFrom_1 rfl ?_
  refine kg_iload_n hC d_V_hadFrom_4 1 rfl ?_
  refine kg_aald hC (ka_11 hV) (i := d) rfl hd d_V_hadFrom_5 ?_
  refine kg_iload_n hC d_V_hadFrom_6 2 rfl ?_
  refine kg_iald hC (ka_30 hV hd) (i := k) rfl hk d_V_hadFrom_7 ?_
  exact kg_iret hC d_V_hadFrom_8 (by rw [kp_V_hadFrom]) rfl
def kp_V_objectsTo (σ : kc_Sg) (k : Nat) (d : Nat) : Int32 := if (σ 8 k) = (nI 4) then (nI 1) else (if (kp_G_agree σ (nI k) (22 + d) (σ (30 + d) k)) = 0 then (nI 1) else (nI 0))
set_option maxHeartbeats 4000000 in
set_option maxRecDepth 100000 in
theorem kk_V_objectsTo (l : Launch) {V : kc_V} (hV : kc_G V) (σ : kc_Sg) (k : Nat) (d : Nat) (hp : ¬ σ 1 0 = 0) (hk : k < 8) (hd : d < 8) : kc_Met l y_V_objectsTo b_V_objectsTo 3 (some .boolean) (kc_rm 4) V [.ref (kc_ad V 3), .int (nI k), .int (nI d)] σ (some (.int (kp_V_objectsTo σ k d))) σ := by
  refine kc_of (by decide) (Nat.le_of_ble_eq_true rfl) hV.ok (fun C _ hC => ?_)
  show kc_Go C V 3 (0, 0) (kc_E C V (some (.int (kp_V_objectsTo σ k d))) σ) σ 0 [(0, .ref (kc_ad V 3)), (1, .int (nI k)), (2, .int (nI d))] []
  refine kg_aload_n hC d_V_objectsTo_0 0 rfl ?_
  refine kg_getr hC (ko_3 hV) rfl ui_V (j := 1) (by decide) tw_65 rfl d_V_objectsTo_1 rfl ?_
  refine kg_iload_n hC d_V_objectsTo_4 1 rfl ?_
  refine kg_iald hC (ka_8 hV) (i := k) rfl hk d_V_objectsTo_5 ?_
  refine kg_iconst hC d_V_objectsTo_6 kn_i_4 ?_
  refine kg_icmp_eq hC d_V_objectsTo_7 (tgt := 35) rfl (fun h7 => ?_) (fun h7 => ?_)
  · refine kg_iconst hC d_V_objectsTo_35 kn_i_1 ?_
    refine kg_goto hC d_V_objectsTo_36 (tgt := 40) rfl ?_
    exact kg_zret hC d_V_objectsTo_40 kn_z1 (by rw [kp_V_objectsTo, if_pos h7]) rfl
  · refine kg_aload_n hC d_V_objectsTo_10 0 rfl ?_
    refine kg_getr hC (ko_3 hV) rfl ui_V (j := 0) (by decide) tw_64 rfl d_V_objectsTo_11 rfl ?_
    refine kg_iload_n hC d_V_objectsTo_14 1 rfl ?_
    refine kg_aload_n hC d_V_objectsTo_15 0 rfl ?_
    refine kg_getr hC (ko_3 hV) rfl ui_V (j := 3) (by decide) tw_67 rfl d_V_objectsTo_16 rfl ?_
    refine kg_iload_n hC d_V_objectsTo_19 2 rfl ?_
    refine kg_aald hC (ka_10 hV) (i := d) rfl hd d_V_objectsTo_20 ?_
    refine kg_aload_n hC d_V_objectsTo_21 0 rfl ?_
    refine kg_at (pc' := 22) rfl ?_
    refine kg_getr hC (ko_3 hV) rfl ui_V (j := 4) (by decide) tw_68 rfl d_V_objectsTo_22 rfl ?_
    refine kg_iload_n hC d_V_objectsTo_25 2 rfl ?_
    refine kg_aald hC (ka_11 hV) (i := d) rfl hd d_V_objectsTo_26 ?_
    refine kg_iload_n hC d_V_objectsTo_27 1 rfl ?_
    refine kg_iald hC (ka_30 hV hd) (i := k) rfl hk d_V_objectsTo_28 ?_
    refine kg_virtualI hC (kk_G_agree (kc_l C) hV σ (nI k) (22 + d) (σ (30 + d) k) hp (ka_22 hV hd)) cal_G_agree tw_408 tw_409 tw_407 (ko_1 hV) rfl rfl (by decide) (rest := []) rfl (Nat.le_of_ble_eq_true rfl) d_V_objectsTo_29 ?_ (by decide)
    refine kg_if_ne hC d_V_objectsTo_32 (tgt := 39) rfl (fun h32 => ?_) (fun h32 => ?_)
    · refine kg_iconst hC d_V_objectsTo_39 kn_i_0 ?_
      exact kg_zret hC d_V_objectsTo_40 kn_z0 (by rw [kp_V_objectsTo, if_neg h7, if_neg h32]) rfl
    · refine kg_iconst hC d_V_objectsTo_35 kn_i_1 ?_
      refine kg_goto hC d_V_objectsTo_36 (tgt := 40) rfl ?_
      exact kg_zret hC d_V_objectsTo_40 kn_z1 (by rw [kp_V_objectsTo, if_neg h7, if_pos h32]) rfl
theorem kz_V_objectsTo (σ : kc_Sg) (k : Nat) (d : Nat) : kp_V_objectsTo σ k d = nI 0 ∨ kp_V_objectsTo σ k d = nI 1 := by
  unfold kp_V_objectsTo
  (repeat' split) <;> first | exact Or.inl rfl | exact Or.inr rfl
def kf_V_accusedBy_1 (σ : kc_Sg) (k : Nat) (i1 : Nat) (a1 : Int32) : Int32 := if (kp_K_isAmong (σ 3 8) (nI i1)) = 0 then a1 else (if (kp_K_isAmong (σ 12 i1) (nI k)) = 0 then (if (kp_V_objectsTo σ k i1) = 0 then a1 else (a1 ||| (kp_K_bit (nI i1)))) else a1)
def kp_V_accusedBy (σ : kc_Sg) (k : Nat) : Int32 := (kc_it (kf_V_accusedBy_1 σ k) 7 1 (nI 0))
set_option maxHeartbeats 4000000 in
set_option maxRecDepth 100000 in
theorem kk_V_accusedBy (l : Launch) {V : kc_V} (hV : kc_G V) (σ : kc_Sg) (k : Nat) (hp : ¬ σ 1 0 = 0) (hk : k < 8) : kc_Met l y_V_accusedBy b_V_accusedBy 4 (some .int) (kc_rm 5) V [.ref (kc_ad V 3), .int (nI k)] σ (some (.int (kp_V_accusedBy σ k))) σ := by
  refine kc_of (by decide) (Nat.le_of_ble_eq_true rfl) hV.ok (fun C _ hC => ?_)
  show kc_Go C V 4 (0, 0) (kc_E C V (some (.int (kp_V_accusedBy σ k))) σ) σ 0 [(0, .ref (kc_ad V 3)), (1, .int (nI k))] []
  refine kg_iconst hC d_V_accusedBy_0 kn_i_0 ?_
  refine kg_istore_n hC d_V_accusedBy_1 [(2, .int (nI 0)), (0, .ref (kc_ad V 3)), (1, .int (nI k))] rfl (by decide) ?_
  refine kg_iconst hC d_V_accusedBy_2 kn_i_1 ?_
  refine kg_istore_n hC d_V_accusedBy_3 [(3, .int (nI 1)), (2, .int (nI 0)), (0, .ref (kc_ad V 3)), (1, .int (nI k))] rfl (by decide) ?_
  refine kc_loop (fun i1 a1 => kc_Go C V 4 (0, 0) (kc_E C V (some (.int (kp_V_accusedBy σ k))) σ) σ 4 [(3, .int (nI i1)), (2, .int a1), (0, .ref (kc_ad V 3)), (1, .int (nI k))] []) (kf_V_accusedBy_1 σ k) 1 8 (fun i1 a1 ho1 hi1 hk1 => ?_) 7 1 (nI 0) (Nat.le_refl _) rfl ?_
  · refine kg_iload_n hC d_V_accusedBy_4 0 rfl ?_
    refine kg_bipush hC d_V_accusedBy_5 kn_b_7 ?_
    refine kg_icmp_gt hC d_V_accusedBy_7 (tgt := 56) rfl (fun q => absurd q (nI_nlt (by omega) (by decide))) (fun _ => ?_)
    refine kg_aload_n hC d_V_accusedBy_10 2 rfl ?_
    refine kg_geti hC (ko_3 hV) rfl ui_V (j := 8) (by decide) tw_72 rfl d_V_accusedBy_11 rfl ?_
    refine kg_iload_n hC d_V_accusedBy_14 0 rfl ?_
    refine kg_staticNI hC (kk_K_isAmong (kc_l C) hV σ (σ 3 8) (nI i1)) cal_K_isAmong tw_303 kx_V_49 rfl (by decide) (rest := []) rfl (Nat.le_of_ble_eq_true rfl) d_V_accusedBy_15 ?_ (by decide)
    refine kg_if_eq hC d_V_accusedBy_18 (tgt := 50) rfl (fun h18 => ?_) (fun h18 => ?_)
    · refine kg_iinc hC d_V_accusedBy_50 0 rfl (kn_inc1 i1) [(3, .int (nI (i1 + 1))), (2, .int a1), (0, .ref (kc_ad V 3)), (1, .int (nI k))] rfl (by decide) ?_
      refine kg_goto hC d_V_accusedBy_53 (tgt := 4) rfl ?_
      exact kg_to (P := fun zz => kc_Go C V 4 (0, 0) (kc_E C V (some (.int (kp_V_accusedBy σ k))) σ) σ 4 [(3, .int (nI (i1 + 1))), (2, .int zz), (0, .ref (kc_ad V 3)), (1, .int (nI k))] []) (b := a1) (a := (kf_V_accusedBy_1 σ k) i1 a1) (by rw [kf_V_accusedBy_1, if_pos h18]) hk1
    · refine kg_aload_n hC d_V_accusedBy_21 2 rfl ?_
      refine kg_getr hC (ko_3 hV) rfl ui_V (j := 5) (by decide) tw_69 rfl d_V_accusedBy_22 rfl ?_
      refine kg_iload_n hC d_V_accusedBy_25 0 rfl ?_
      refine kg_iald hC (ka_12 hV) (i := i1) rfl (by omega) d_V_accusedBy_26 ?_
      refine kg_iload_n hC d_V_accusedBy_27 3 rfl ?_
      refine kg_staticNI hC (kk_K_isAmong (kc_l C) hV σ (σ 12 i1) (nI k)) cal_K_isAmong tw_303 kx_V_49 rfl (by decide) (rest := []) rfl (Nat.le_of_ble_eq_true rfl) d_V_accusedBy_28 ?_ (by decide)
      refine kg_if_ne hC d_V_accusedBy_31 (tgt := 50) rfl (fun h31 => ?_) (fun h31 => ?_)
      · refine kg_iinc hC d_V_accusedBy_50 0 rfl (kn_inc1 i1) [(3, .int (nI (i1 + 1))), (2, .int a1), (0, .ref (kc_ad V 3)), (1, .int (nI k))] rfl (by decide) ?_
        refine kg_goto hC d_V_accusedBy_53 (tgt := 4) rfl ?_
        exact kg_to (P := fun zz => kc_Go C V 4 (0, 0) (kc_E C V (some (.int (kp_V_accusedBy σ k))) σ) σ 4 [(3, .int (nI (i1 + 1))), (2, .int zz), (0, .ref (kc_ad V 3)), (1, .int (nI k))] []) (b := a1) (a := (kf_V_accusedBy_1 σ k) i1 a1) (by rw [kf_V_accusedBy_1, if_neg h18, if_neg h31]) hk1
      · refine kg_aload_n hC d_V_accusedBy_34 2 rfl ?_
        refine kg_iload_n hC d_V_accusedBy_35 3 rfl ?_
        refine kg_iload_n hC d_V_accusedBy_36 0 rfl ?_
        refine kg_virtualI hC (kk_V_objectsTo (kc_l C) hV σ k i1 hp hk (by omega)) cal_V_objectsTo tw_405 ts_V_objectsTo tw_403 (ko_3 hV) rfl rfl (by decide) (rest := []) rfl (Nat.le_of_ble_eq_true rfl) d_V_accusedBy_37 ?_ (by decide)
        refine kg_if_eq hC d_V_accusedBy_40 (tgt := 50) rfl (fun h40 => ?_) (fun h40 => ?_)
        · refine kg_iinc hC d_V_accusedBy_50 0 rfl (kn_inc1 i1) [(3, .int (nI (i1 + 1))), (2, .int a1), (0, .ref (kc_ad V 3)), (1, .int (nI k))] rfl (by decide) ?_
          refine kg_goto hC d_V_accusedBy_53 (tgt := 4) rfl ?_
          exact kg_to (P := fun zz => kc_Go C V 4 (0, 0) (kc_E C V (some (.int (kp_V_accusedBy σ k))) σ) σ 4 [(3, .int (nI (i1 + 1))), (2, .int zz), (0, .ref (kc_ad V 3)), (1, .int (nI k))] []) (b := a1) (a := (kf_V_accusedBy_1 σ k) i1 a1) (by rw [kf_V_accusedBy_1, if_neg h18, if_pos h31, if_pos h40]) hk1
        · refine kg_iload_n hC d_V_accusedBy_43 1 rfl ?_
          refine kg_iload_n hC d_V_accusedBy_44 0 rfl ?_
          refine kg_staticNI hC (kk_K_bit (kc_l C) hV σ (nI i1)) cal_K_bit tw_306 kx_V_57 rfl (by decide) (rest := [.int a1]) rfl (Nat.le_of_ble_eq_true rfl) d_V_accusedBy_45 ?_ (by decide)
          refine kg_ior hC d_V_accusedBy_48 ?_
          refine kg_istore_n hC d_V_accusedBy_49 [(2, .int (a1 ||| (kp_K_bit (nI i1)))), (3, .int (nI i1)), (0, .ref (kc_ad V 3)), (1, .int (nI k))] rfl (by decide) ?_
          refine kg_iinc hC d_V_accusedBy_50 1 rfl (kn_inc1 i1) [(3, .int (nI (i1 + 1))), (2, .int (a1 ||| (kp_K_bit (nI i1)))), (0, .ref (kc_ad V 3)), (1, .int (nI k))] rfl (by decide) ?_
          refine kg_goto hC d_V_accusedBy_53 (tgt := 4) rfl ?_
          exact kg_to (P := fun zz => kc_Go C V 4 (0, 0) (kc_E C V (some (.int (kp_V_accusedBy σ k))) σ) σ 4 [(3, .int (nI (i1 + 1))), (2, .int zz), (0, .ref (kc_ad V 3)), (1, .int (nI k))] []) (b := (a1 ||| (kp_K_bit (nI i1)))) (a := (kf_V_accusedBy_1 σ k) i1 a1) (by rw [kf_V_accusedBy_1, if_neg h18, if_pos h31, if_neg h40]) hk1
  generalize hg1 : (kc_it (kf_V_accusedBy_1 σ k) 7 1 (nI 0)) = τ1
  refine kg_iload_n hC d_V_accusedBy_4 0 rfl ?_
  refine kg_bipush hC d_V_accusedBy_5 kn_b_7 ?_
  refine kg_icmp_gt hC d_V_accusedBy_7 (tgt := 56) rfl (fun _ => ?_) (fun q => absurd (nI_lt (by decide) (by decide)) q)
  refine kg_iload_n hC d_V_accusedBy_56 1 rfl ?_
  exact kg_iret hC d_V_accusedBy_57 (by rw [kp_V_accusedBy, hg1]) rfl
def kq_V_complain (σ : kc_Sg) (k : Nat) (d : Nat) : kc_Sg := (kc_up σ 12 d ((σ 12 d) ||| (kp_K_bit (nI k))))
set_option maxHeartbeats 4000000 in
set_option maxRecDepth 100000 in
theorem kk_V_complain (l : Launch) {V : kc_V} (hV : kc_G V) (σ : kc_Sg) (k : Nat) (d : Nat) (hd : d < 8) : kc_Met l y_V_complain b_V_complain 3 none (kc_rm 2) V [.ref (kc_ad V 3), .int (nI k), .int (nI d)] σ none (kq_V_complain σ k d) := by
  refine kc_of (by decide) (Nat.le_of_ble_eq_true rfl) hV.ok (fun C _ hC => ?_)
  show kc_Go C V 3 (0, 0) (kc_E C V none (kq_V_complain σ k d)) σ 0 [(0, .ref (kc_ad V 3)), (1, .int (nI k)), (2, .int (nI d))] []
  refine kg_aload_n hC d_V_complain_0 0 rfl ?_
  refine kg_getr hC (ko_3 hV) rfl ui_V (j := 5) (by decide) tw_69 rfl d_V_complain_1 rfl ?_
  refine kg_iload_n hC d_V_complain_4 2 rfl ?_
  refine kg_dup2 hC d_V_complain_5 rfl rfl ?_
  refine kg_iald hC (ka_12 hV) (i := d) rfl hd d_V_complain_6 ?_
  refine kg_iload_n hC d_V_complain_7 1 rfl ?_
  refine kg_staticNI hC (kk_K_bit (kc_l C) hV σ (nI k)) cal_K_bit tw_306 kx_V_57 rfl (by decide) (rest := [.int (σ 12 d), .int (nI d), .ref (kc_ad V 12)]) rfl (Nat.le_of_ble_eq_true rfl) d_V_complain_8 ?_ (by decide)
  refine kg_ior hC d_V_complain_11 ?_
  refine kg_at (pc' := 12) rfl ?_
  refine kg_iast hC (ka_12 hV) (i := d) rfl hd d_V_complain_12 ?_
  exact kg_vret hC d_V_complain_13 (by rw [kq_V_complain])
def kp_V_shownBy (σ : kc_Sg) (d : Nat) (k : Nat) : Int32 := if (σ 8 d) = (nI 6) then (-1) else (if (σ 8 d) = (nI 2) then (if (kp_V_isCheated σ d k) = 0 then (kp_V_rightShare σ d k) else (kp_G_addNumbers σ (kp_V_rightShare σ d k) (nI 1))) else (kp_V_rightShare σ d k))
set_option maxHeartbeats 4000000 in
set_option maxRecDepth 100000 in
theorem kk_V_shownBy (l : Launch) {V : kc_V} (hV : kc_G V) (σ : kc_Sg) (d : Nat) (k : Nat) (hq : ¬ σ 1 1 = 0) (hd : d < 8) : kc_Met l y_V_shownBy b_V_shownBy 5 (some .int) (kc_rm 4) V [.ref (kc_ad V 3), .int (nI d), .int (nI k)] σ (some (.int (kp_V_shownBy σ d k))) σ := by
  refine kc_of (by decide) (Nat.le_of_ble_eq_true rfl) hV.ok (fun C _ hC => ?_)
  show kc_Go C V 5 (0, 0) (kc_E C V (some (.int (kp_V_shownBy σ d k))) σ) σ 0 [(0, .ref (kc_ad V 3)), (1, .int (nI d)), (2, .int (nI k))] []
  refine kg_aload_n hC d_V_shownBy_0 0 rfl ?_
  refine kg_getr hC (ko_3 hV) rfl ui_V (j := 1) (by decide) tw_65 rfl d_V_shownBy_1 rfl ?_
  refine kg_iload_n hC d_V_shownBy_4 1 rfl ?_
  refine kg_iald hC (ka_8 hV) (i := d) rfl hd d_V_shownBy_5 ?_
  refine kg_bipush hC d_V_shownBy_6 kn_b_6 ?_
  refine kg_icmp_ne hC d_V_shownBy_8 (tgt := 13) rfl (fun h8 => ?_) (fun h8 => ?_)
  · refine kg_aload_n hC d_V_shownBy_13 0 rfl ?_
    refine kg_iload_n hC d_V_shownBy_14 1 rfl ?_
    refine kg_iload_n hC d_V_shownBy_15 2 rfl ?_
    refine kg_virtualI hC (kk_V_rightShare (kc_l C) hV σ d k hq hd) cal_V_rightShare tw_369 ts_V_rightShare tw_367 (ko_3 hV) rfl rfl (by decide) (rest := []) rfl (Nat.le_of_ble_eq_true rfl) d_V_shownBy_16 ?_ (by decide)
    refine kg_istore_n hC d_V_shownBy_19 [(3, .int (kp_V_rightShare σ d k)), (0, .ref (kc_ad V 3)), (1, .int (nI d)), (2, .int (nI k))] rfl (by decide) ?_
    refine kg_aload_n hC d_V_shownBy_20 1 rfl ?_
    refine kg_getr hC (ko_3 hV) rfl ui_V (j := 1) (by decide) tw_65 rfl d_V_shownBy_21 rfl ?_
    refine kg_iload_n hC d_V_shownBy_24 2 rfl ?_
    refine kg_at (pc' := 25) rfl ?_
    refine kg_iald hC (ka_8 hV) (i := d) rfl hd d_V_shownBy_25 ?_
    refine kg_iconst hC d_V_shownBy_26 kn_i_2 ?_
    refine kg_icmp_ne hC d_V_shownBy_27 (tgt := 43) rfl (fun h27 => ?_) (fun h27 => ?_)
    · refine kg_iconst hC d_V_shownBy_43 kn_i_0 ?_
      refine kg_istore hC d_V_shownBy_44 [(4, .int (nI 0)), (3, .int (kp_V_rightShare σ d k)), (0, .ref (kc_ad V 3)), (1, .int (nI d)), (2, .int (nI k))] rfl (by decide) ?_
      refine kg_iload hC d_V_shownBy_46 0 rfl ?_
      refine kg_if_eq hC d_V_shownBy_48 (tgt := 63) rfl (fun _ => ?_) (fun q => absurd (by decide) q)
      refine kg_iload_n hC d_V_shownBy_63 1 rfl ?_
      exact kg_iret hC d_V_shownBy_64 (by rw [kp_V_shownBy, if_neg h8, if_neg h27]) rfl
    · refine kg_aload_n hC d_V_shownBy_30 1 rfl ?_
      refine kg_iload_n hC d_V_shownBy_31 2 rfl ?_
      refine kg_iload_n hC d_V_shownBy_32 3 rfl ?_
      refine kg_virtualI hC (kk_V_isCheated (kc_l C) hV σ d k hd) cal_V_isCheated tw_374 ts_V_isCheated tw_372 (ko_3 hV) rfl rfl (by decide) (rest := []) rfl (Nat.le_of_ble_eq_true rfl) d_V_shownBy_33 ?_ (by decide)
      refine kg_if_eq hC d_V_shownBy_36 (tgt := 43) rfl (fun h36 => ?_) (fun h36 => ?_)
      · refine kg_iconst hC d_V_shownBy_43 kn_i_0 ?_
        refine kg_istore hC d_V_shownBy_44 [(4, .int (nI 0)), (3, .int (kp_V_rightShare σ d k)), (0, .ref (kc_ad V 3)), (1, .int (nI d)), (2, .int (nI k))] rfl (by decide) ?_
        refine kg_iload hC d_V_shownBy_46 0 rfl ?_
        refine kg_if_eq hC d_V_shownBy_48 (tgt := 63) rfl (fun _ => ?_) (fun q => absurd (by decide) q)
        refine kg_iload_n hC d_V_shownBy_63 1 rfl ?_
        exact kg_iret hC d_V_shownBy_64 (by rw [kp_V_shownBy, if_neg h8, if_pos h27, if_pos h36]) rfl
      · refine kg_iconst hC d_V_shownBy_39 kn_i_1 ?_
        refine kg_goto hC d_V_shownBy_40 (tgt := 44) rfl ?_
        refine kg_istore hC d_V_shownBy_44 [(4, .int (nI 1)), (3, .int (kp_V_rightShare σ d k)), (0, .ref (kc_ad V 3)), (1, .int (nI d)), (2, .int (nI k))] rfl (by decide) ?_
        refine kg_iload hC d_V_shownBy_46 0 rfl ?_
        refine kg_if_eq hC d_V_shownBy_48 (tgt := 63) rfl (fun q => absurd q (by decide)) (fun _ => ?_)
        refine kg_aload_n hC d_V_shownBy_51 2 rfl ?_
        refine kg_getr hC (ko_3 hV) rfl ui_V (j := 0) (by decide) tw_64 rfl d_V_shownBy_52 rfl ?_
        refine kg_iload_n hC d_V_shownBy_55 1 rfl ?_
        refine kg_at (pc' := 56) rfl ?_
        refine kg_iconst hC d_V_shownBy_56 kn_i_1 ?_
        refine kg_virtualI hC (kk_G_addNumbers (kc_l C) hV σ (kp_V_rightShare σ d k) (nI 1) hq) cal_G_addNumbers tw_264 tw_265 tw_376 (ko_1 hV) rfl rfl (by decide) (rest := []) rfl (Nat.le_of_ble_eq_true rfl) d_V_shownBy_57 ?_ (by decide)
        refine kg_goto hC d_V_shownBy_60 (tgt := 64) rfl ?_
        exact kg_iret hC d_V_shownBy_64 (by rw [kp_V_shownBy, if_neg h8, if_pos h27, if_neg h36]) rfl
  · refine kg_iconst hC d_V_shownBy_11 kn_i_m1 ?_
    exact kg_iret hC d_V_shownBy_12 (by rw [kp_V_shownBy, if_pos h8]) rfl
def kp_V_settle (σ : kc_Sg) (d : Nat) (k : Nat) (v : Int32) : Int32 := if (kp_K_isAmong ((σ 12 d) &&& ((σ 13 d) ^^^ (-1))) (nI k)) = 0 then (nI 0) else (if (kp_G_agree σ (nI k) (22 + d) v) = 0 then (nI 0) else (nI 1))
def kq_V_settle (σ : kc_Sg) (d : Nat) (k : Nat) (v : Int32) : kc_Sg := if (kp_K_isAmong ((σ 12 d) &&& ((σ 13 d) ^^^ (-1))) (nI k)) = 0 then σ else (if (kp_G_agree σ (nI k) (22 + d) v) = 0 then σ else (kc_up (kc_up σ 13 d ((σ 13 d) ||| (kp_K_bit (nI k)))) (30 + d) k v))
set_option maxHeartbeats 4000000 in
set_option maxRecDepth 100000 in
theorem kk_V_settle (l : Launch) {V : kc_V} (hV : kc_G V) (σ : kc_Sg) (d : Nat) (k : Nat) (v : Int32) (hp : ¬ σ 1 0 = 0) (hd : d < 8) (hk : k < 8) : kc_Met l y_V_settle b_V_settle 5 (some .boolean) (kc_rm 4) V [.ref (kc_ad V 3), .int (nI d), .int (nI k), .int v] σ (some (.int (kp_V_settle σ d k v))) (kq_V_settle σ d k v) := by
  refine kc_of (by decide) (Nat.le_of_ble_eq_true rfl) hV.ok (fun C _ hC => ?_)
  show kc_Go C V 5 (0, 0) (kc_E C V (some (.int (kp_V_settle σ d k v))) (kq_V_settle σ d k v)) σ 0 [(0, .ref (kc_ad V 3)), (1, .int (nI d)), (2, .int (nI k)), (3, .int v)] []
  refine kg_aload_n hC d_V_settle_0 0 rfl ?_
  refine kg_getr hC (ko_3 hV) rfl ui_V (j := 5) (by decide) tw_69 rfl d_V_settle_1 rfl ?_
  refine kg_iload_n hC d_V_settle_4 1 rfl ?_
  refine kg_iald hC (ka_12 hV) (i := d) rfl hd d_V_settle_5 ?_
  refine kg_aload_n hC d_V_settle_6 0 rfl ?_
  refine kg_getr hC (ko_3 hV) rfl ui_V (j := 6) (by decide) tw_70 rfl d_V_settle_7 rfl ?_
  refine kg_iload_n hC d_V_settle_10 1 rfl ?_
  refine kg_iald hC (ka_13 hV) (i := d) rfl hd d_V_settle_11 ?_
  refine kg_at (pc' := 12) rfl ?_
  refine kg_iconst hC d_V_settle_12 kn_i_m1 ?_
  refine kg_ixor hC d_V_settle_13 ?_
  refine kg_iand hC d_V_settle_14 ?_
  refine kg_iload_n hC d_V_settle_15 2 rfl ?_
  refine kg_staticNI hC (kk_K_isAmong (kc_l C) hV σ ((σ 12 d) &&& ((σ 13 d) ^^^ (-1))) (nI k)) cal_K_isAmong tw_303 kx_V_49 rfl (by decide) (rest := []) rfl (Nat.le_of_ble_eq_true rfl) d_V_settle_16 ?_ (by decide)
  refine kg_istore hC d_V_settle_19 [(4, .int (kp_K_isAmong ((σ 12 d) &&& ((σ 13 d) ^^^ (-1))) (nI k))), (0, .ref (kc_ad V 3)), (1, .int (nI d)), (2, .int (nI k)), (3, .int v)] rfl (by decide) ?_
  refine kg_iload hC d_V_settle_21 0 rfl ?_
  refine kg_if_eq hC d_V_settle_23 (tgt := 44) rfl (fun h23 => ?_) (fun h23 => ?_)
  · refine kg_iconst hC d_V_settle_44 kn_i_0 ?_
    exact kg_zret hC d_V_settle_45 kn_z0 (by rw [kp_V_settle, if_pos h23]) (by rw [kq_V_settle, if_pos h23])
  · refine kg_aload_n hC d_V_settle_26 1 rfl ?_
    refine kg_getr hC (ko_3 hV) rfl ui_V (j := 0) (by decide) tw_64 rfl d_V_settle_27 rfl ?_
    refine kg_iload_n hC d_V_settle_30 3 rfl ?_
    refine kg_aload_n hC d_V_settle_31 1 rfl ?_
    refine kg_getr hC (ko_3 hV) rfl ui_V (j := 3) (by decide) tw_67 rfl d_V_settle_32 rfl ?_
    refine kg_iload_n hC d_V_settle_35 2 rfl ?_
    refine kg_aald hC (ka_10 hV) (i := d) rfl hd d_V_settle_36 ?_
    refine kg_iload_n hC d_V_settle_37 4 rfl ?_
    refine kg_at (pc' := 38) rfl ?_
    refine kg_virtualI hC (kk_G_agree (kc_l C) hV σ (nI k) (22 + d) v hp (ka_22 hV hd)) cal_G_agree tw_408 tw_409 tw_407 (ko_1 hV) rfl rfl (by decide) (rest := []) rfl (Nat.le_of_ble_eq_true rfl) d_V_settle_38 ?_ (by decide)
    refine kg_if_ne hC d_V_settle_41 (tgt := 46) rfl (fun h41 => ?_) (fun h41 => ?_)
    · refine kg_aload_n hC d_V_settle_46 1 rfl ?_
      refine kg_getr hC (ko_3 hV) rfl ui_V (j := 6) (by decide) tw_70 rfl d_V_settle_47 rfl ?_
      refine kg_iload_n hC d_V_settle_50 2 rfl ?_
      refine kg_dup2 hC d_V_settle_51 rfl rfl ?_
      refine kg_iald hC (ka_13 hV) (i := d) rfl hd d_V_settle_52 ?_
      refine kg_iload_n hC d_V_settle_53 3 rfl ?_
      refine kg_staticNI hC (kk_K_bit (kc_l C) hV σ (nI k)) cal_K_bit tw_306 kx_V_57 rfl (by decide) (rest := [.int (σ 13 d), .int (nI d), .ref (kc_ad V 13)]) rfl (Nat.le_of_ble_eq_true rfl) d_V_settle_54 ?_ (by decide)
      refine kg_ior hC d_V_settle_57 ?_
      refine kg_at (pc' := 58) rfl ?_
      refine kg_iast hC (ka_13 hV) (i := d) rfl hd d_V_settle_58 ?_
      refine kg_aload_n hC d_V_settle_59 1 rfl ?_
      refine kg_getr hC (ko_3 hV) rfl ui_V (j := 4) (by decide) tw_68 rfl d_V_settle_60 rfl ?_
      refine kg_iload_n hC d_V_settle_63 2 rfl ?_
      refine kg_aald hC (ka_11 hV) (i := d) rfl hd d_V_settle_64 ?_
      refine kg_iload_n hC d_V_settle_65 3 rfl ?_
      refine kg_iload_n hC d_V_settle_66 4 rfl ?_
      refine kg_iast hC (ka_30 hV hd) (i := k) rfl hk d_V_settle_67 ?_
      refine kg_at (pc' := 68) rfl ?_
      refine kg_iconst hC d_V_settle_68 kn_i_1 ?_
      exact kg_zret hC d_V_settle_69 kn_z1 (by rw [kp_V_settle, if_neg h23, if_neg h41]) (by rw [kq_V_settle, if_neg h23, if_neg h41])
    · refine kg_iconst hC d_V_settle_44 kn_i_0 ?_
      exact kg_zret hC d_V_settle_45 kn_z0 (by rw [kp_V_settle, if_neg h23, if_pos h41]) (by rw [kq_V_settle, if_neg h23, if_pos h41])
theorem kz_V_settle (σ : kc_Sg) (d : Nat) (k : Nat) (v : Int32) : kp_V_settle σ d k v = nI 0 ∨ kp_V_settle σ d k v = nI 1 := by
  unfold kp_V_settle
  (repeat' split) <;> first | exact Or.inl rfl | exact Or.inr rfl
def kf_V_accepted_1 (σ : kc_Sg) (i1 : Nat) (a1 : Int32) : Int32 := if (kp_K_isAmong (σ 3 8) (nI i1)) = 0 then a1 else (if (σ (22 + i1) 0) = (nI 1) then (if (σ 12 i1) = (σ 13 i1) then (a1 ||| (kp_K_bit (nI i1))) else a1) else a1)
def kp_V_accepted (σ : kc_Sg) : Int32 := (kc_it (kf_V_accepted_1 σ) 7 1 (nI 0))
set_option maxHeartbeats 4000000 in
set_option maxRecDepth 100000 in
theorem kk_V_accepted (l : Launch) {V : kc_V} (hV : kc_G V) (σ : kc_Sg) : kc_Met l y_V_accepted b_V_accepted 3 (some .int) (kc_rm 3) V [.ref (kc_ad V 3)] σ (some (.int (kp_V_accepted σ))) σ := by
  refine kc_of (by decide) (Nat.le_of_ble_eq_true rfl) hV.ok (fun C _ hC => ?_)
  show kc_Go C V 3 (0, 0) (kc_E C V (some (.int (kp_V_accepted σ))) σ) σ 0 [(0, .ref (kc_ad V 3))] []
  refine kg_iconst hC d_V_accepted_0 kn_i_0 ?_
  refine kg_istore_n hC d_V_accepted_1 [(1, .int (nI 0)), (0, .ref (kc_ad V 3))] rfl (by decide) ?_
  refine kg_iconst hC d_V_accepted_2 kn_i_1 ?_
  refine kg_istore_n hC d_V_accepted_3 [(2, .int (nI 1)), (1, .int (nI 0)), (0, .ref (kc_ad V 3))] rfl (by decide) ?_
  refine kc_loop (fun i1 a1 => kc_Go C V 3 (0, 0) (kc_E C V (some (.int (kp_V_accepted σ))) σ) σ 4 [(2, .int (nI i1)), (1, .int a1), (0, .ref (kc_ad V 3))] []) (kf_V_accepted_1 σ) 1 8 (fun i1 a1 ho1 hi1 hk1 => ?_) 7 1 (nI 0) (Nat.le_refl _) rfl ?_
  · refine kg_iload_n hC d_V_accepted_4 0 rfl ?_
    refine kg_bipush hC d_V_accepted_5 kn_b_7 ?_
    refine kg_icmp_gt hC d_V_accepted_7 (tgt := 61) rfl (fun q => absurd q (nI_nlt (by omega) (by decide))) (fun _ => ?_)
    refine kg_aload_n hC d_V_accepted_10 2 rfl ?_
    refine kg_geti hC (ko_3 hV) rfl ui_V (j := 8) (by decide) tw_72 rfl d_V_accepted_11 rfl ?_
    refine kg_iload_n hC d_V_accepted_14 0 rfl ?_
    refine kg_staticNI hC (kk_K_isAmong (kc_l C) hV σ (σ 3 8) (nI i1)) cal_K_isAmong tw_303 kx_V_49 rfl (by decide) (rest := []) rfl (Nat.le_of_ble_eq_true rfl) d_V_accepted_15 ?_ (by decide)
    refine kg_if_eq hC d_V_accepted_18 (tgt := 55) rfl (fun h18 => ?_) (fun h18 => ?_)
    · refine kg_iinc hC d_V_accepted_55 0 rfl (kn_inc1 i1) [(2, .int (nI (i1 + 1))), (1, .int a1), (0, .ref (kc_ad V 3))] rfl (by decide) ?_
      refine kg_goto hC d_V_accepted_58 (tgt := 4) rfl ?_
      exact kg_to (P := fun zz => kc_Go C V 3 (0, 0) (kc_E C V (some (.int (kp_V_accepted σ))) σ) σ 4 [(2, .int (nI (i1 + 1))), (1, .int zz), (0, .ref (kc_ad V 3))] []) (b := a1) (a := (kf_V_accepted_1 σ) i1 a1) (by rw [kf_V_accepted_1, if_pos h18]) hk1
    · refine kg_aload_n hC d_V_accepted_21 2 rfl ?_
      refine kg_getr hC (ko_3 hV) rfl ui_V (j := 3) (by decide) tw_67 rfl d_V_accepted_22 rfl ?_
      refine kg_iload_n hC d_V_accepted_25 0 rfl ?_
      refine kg_aald hC (ka_10 hV) (i := i1) rfl (by omega) d_V_accepted_26 ?_
      refine kg_iconst hC d_V_accepted_27 kn_i_0 ?_
      refine kg_iald hC (ka_22 hV (by omega)) (i := 0) rfl (by decide) d_V_accepted_28 ?_
      refine kg_iconst hC d_V_accepted_29 kn_i_1 ?_
      refine kg_icmp_ne hC d_V_accepted_30 (tgt := 55) rfl (fun h30 => ?_) (fun h30 => ?_)
      · refine kg_iinc hC d_V_accepted_55 0 rfl (kn_inc1 i1) [(2, .int (nI (i1 + 1))), (1, .int a1), (0, .ref (kc_ad V 3))] rfl (by decide) ?_
        refine kg_goto hC d_V_accepted_58 (tgt := 4) rfl ?_
        exact kg_to (P := fun zz => kc_Go C V 3 (0, 0) (kc_E C V (some (.int (kp_V_accepted σ))) σ) σ 4 [(2, .int (nI (i1 + 1))), (1, .int zz), (0, .ref (kc_ad V 3))] []) (b := a1) (a := (kf_V_accepted_1 σ) i1 a1) (by rw [kf_V_accepted_1, if_neg h18, if_neg h30]) hk1
      · refine kg_aload_n hC d_V_accepted_33 2 rfl ?_
        refine kg_getr hC (ko_3 hV) rfl ui_V (j := 5) (by decide) tw_69 rfl d_V_accepted_34 rfl ?_
        refine kg_iload_n hC d_V_accepted_37 0 rfl ?_
        refine kg_iald hC (ka_12 hV) (i := i1) rfl (by omega) d_V_accepted_38 ?_
        refine kg_aload_n hC d_V_accepted_39 2 rfl ?_
        refine kg_getr hC (ko_3 hV) rfl ui_V (j := 6) (by decide) tw_70 rfl d_V_accepted_40 rfl ?_
        refine kg_iload_n hC d_V_accepted_43 0 rfl ?_
        refine kg_iald hC (ka_13 hV) (i := i1) rfl (by omega) d_V_accepted_44 ?_
        refine kg_at (pc' := 45) rfl ?_
        refine kg_icmp_ne hC d_V_accepted_45 (tgt := 55) rfl (fun h45 => ?_) (fun h45 => ?_)
        · refine kg_iinc hC d_V_accepted_55 0 rfl (kn_inc1 i1) [(2, .int (nI (i1 + 1))), (1, .int a1), (0, .ref (kc_ad V 3))] rfl (by decide) ?_
          refine kg_goto hC d_V_accepted_58 (tgt := 4) rfl ?_
          exact kg_to (P := fun zz => kc_Go C V 3 (0, 0) (kc_E C V (some (.int (kp_V_accepted σ))) σ) σ 4 [(2, .int (nI (i1 + 1))), (1, .int zz), (0, .ref (kc_ad V 3))] []) (b := a1) (a := (kf_V_accepted_1 σ) i1 a1) (by rw [kf_V_accepted_1, if_neg h18, if_pos h30, if_neg h45]) hk1
        · refine kg_iload_n hC d_V_accepted_48 1 rfl ?_
          refine kg_iload_n hC d_V_accepted_49 0 rfl ?_
          refine kg_staticNI hC (kk_K_bit (kc_l C) hV σ (nI i1)) cal_K_bit tw_306 kx_V_57 rfl (by decide) (rest := [.int a1]) rfl (Nat.le_of_ble_eq_true rfl) d_V_accepted_50 ?_ (by decide)
          refine kg_ior hC d_V_accepted_53 ?_
          refine kg_istore_n hC d_V_accepted_54 [(1, .int (a1 ||| (kp_K_bit (nI i1)))), (2, .int (nI i1)), (0, .ref (kc_ad V 3))] rfl (by decide) ?_
          refine kg_iinc hC d_V_accepted_55 1 rfl (kn_inc1 i1) [(2, .int (nI (i1 + 1))), (1, .int (a1 ||| (kp_K_bit (nI i1)))), (0, .ref (kc_ad V 3))] rfl (by decide) ?_
          refine kg_goto hC d_V_accepted_58 (tgt := 4) rfl ?_
          exact kg_to (P := fun zz => kc_Go C V 3 (0, 0) (kc_E C V (some (.int (kp_V_accepted σ))) σ) σ 4 [(2, .int (nI (i1 + 1))), (1, .int zz), (0, .ref (kc_ad V 3))] []) (b := (a1 ||| (kp_K_bit (nI i1)))) (a := (kf_V_accepted_1 σ) i1 a1) (by rw [kf_V_accepted_1, if_neg h18, if_pos h30, if_pos h45]) hk1
  generalize hg1 : (kc_it (kf_V_accepted_1 σ) 7 1 (nI 0)) = τ1
  refine kg_iload_n hC d_V_accepted_4 0 rfl ?_
  refine kg_bipush hC d_V_accepted_5 kn_b_7 ?_
  refine kg_icmp_gt hC d_V_accepted_7 (tgt := 61) rfl (fun _ => ?_) (fun q => absurd (nI_lt (by decide) (by decide)) q)
  refine kg_iload_n hC d_V_accepted_61 1 rfl ?_
  exact kg_iret hC d_V_accepted_62 (by rw [kp_V_accepted, hg1]) rfl
def kf_V_countAll_1 (σ : kc_Sg) (k : Nat) (i1 : Nat) (a1 : Int32) : Int32 := (a1 + (kp_JI_bitCount (σ k i1)))
def kp_V_countAll (σ : kc_Sg) (k : Nat) : Int32 := (kc_it (kf_V_countAll_1 σ k) 7 1 (nI 0))
set_option maxHeartbeats 4000000 in
set_option maxRecDepth 100000 in
theorem kk_V_countAll (l : Launch) {V : kc_V} (hV : kc_G V) (σ : kc_Sg) (k : Nat) (ha : kc_ai V k 8) : kc_Met l y_V_countAll b_V_countAll 3 (some .int) (kc_rm 2) V [.ref (kc_ad V k)] σ (some (.int (kp_V_countAll σ k))) σ := by
  refine kc_of (by decide) (Nat.le_of_ble_eq_true rfl) hV.ok (fun C _ hC => ?_)
  show kc_Go C V 3 (0, 0) (kc_E C V (some (.int (kp_V_countAll σ k))) σ) σ 0 [(0, .ref (kc_ad V k))] []
  refine kg_iconst hC d_V_countAll_0 kn_i_0 ?_
  refine kg_istore_n hC d_V_countAll_1 [(1, .int (nI 0)), (0, .ref (kc_ad V k))] rfl (by decide) ?_
  refine kg_iconst hC d_V_countAll_2 kn_i_1 ?_
  refine kg_istore_n hC d_V_countAll_3 [(2, .int (nI 1)), (1, .int (nI 0)), (0, .ref (kc_ad V k))] rfl (by decide) ?_
  refine kc_loop (fun i1 a1 => kc_Go C V 3 (0, 0) (kc_E C V (some (.int (kp_V_countAll σ k))) σ) σ 4 [(2, .int (nI i1)), (1, .int a1), (0, .ref (kc_ad V k))] []) (kf_V_countAll_1 σ k) 1 8 (fun i1 a1 ho1 hi1 hk1 => ?_) 7 1 (nI 0) (Nat.le_refl _) rfl ?_
  · refine kg_iload_n hC d_V_countAll_4 0 rfl ?_
    refine kg_bipush hC d_V_countAll_5 kn_b_7 ?_
    refine kg_icmp_gt hC d_V_countAll_7 (tgt := 25) rfl (fun q => absurd q (nI_nlt (by omega) (by decide))) (fun _ => ?_)
    refine kg_iload_n hC d_V_countAll_10 1 rfl ?_
    refine kg_aload_n hC d_V_countAll_11 2 rfl ?_
    refine kg_iload_n hC d_V_countAll_12 0 rfl ?_
    refine kg_iald hC ha (i := i1) rfl (by omega) d_V_countAll_13 ?_
    refine kg_staticI hC (kk_JI_bitCount (kc_l C) hV σ (σ k i1)) cal_JI_bitCount tw_318 tw_317 rfl (by decide) (rest := [.int a1]) rfl (Nat.le_of_ble_eq_true rfl) d_V_countAll_14 ?_ (by decide)
    refine kg_at (pc' := 17) rfl ?_
    refine kg_iadd hC d_V_countAll_17 ?_
    refine kg_istore_n hC d_V_countAll_18 [(1, .int (a1 + (kp_JI_bitCount (σ k i1)))), (2, .int (nI i1)), (0, .ref (kc_ad V k))] rfl (by decide) ?_
    refine kg_iinc hC d_V_countAll_19 1 rfl (kn_inc1 i1) [(2, .int (nI (i1 + 1))), (1, .int (a1 + (kp_JI_bitCount (σ k i1)))), (0, .ref (kc_ad V k))] rfl (by decide) ?_
    refine kg_goto hC d_V_countAll_22 (tgt := 4) rfl ?_
    exact kg_to (P := fun zz => kc_Go C V 3 (0, 0) (kc_E C V (some (.int (kp_V_countAll σ k))) σ) σ 4 [(2, .int (nI (i1 + 1))), (1, .int zz), (0, .ref (kc_ad V k))] []) (b := (a1 + (kp_JI_bitCount (σ k i1)))) (a := (kf_V_countAll_1 σ k) i1 a1) (by rw [kf_V_countAll_1]) hk1
  generalize hg1 : (kc_it (kf_V_countAll_1 σ k) 7 1 (nI 0)) = τ1
  refine kg_iload_n hC d_V_countAll_4 0 rfl ?_
  refine kg_bipush hC d_V_countAll_5 kn_b_7 ?_
  refine kg_icmp_gt hC d_V_countAll_7 (tgt := 25) rfl (fun _ => ?_) (fun q => absurd (nI_lt (by decide) (by decide)) q)
  refine kg_iload_n hC d_V_countAll_25 1 rfl ?_
  exact kg_iret hC d_V_countAll_26 (by rw [kp_V_countAll, hg1]) rfl
def kp_V_complaintCount (σ : kc_Sg) : Int32 := (kp_V_countAll σ 12)
set_option maxHeartbeats 4000000 in
set_option maxRecDepth 100000 in
theorem kk_V_complaintCount (l : Launch) {V : kc_V} (hV : kc_G V) (σ : kc_Sg) : kc_Met l y_V_complaintCount b_V_complaintCount 1 (some .int) (kc_rm 3) V [.ref (kc_ad V 3)] σ (some (.int (kp_V_complaintCount σ))) σ := by
  refine kc_of (by decide) (Nat.le_of_ble_eq_true rfl) hV.ok (fun C _ hC => ?_)
  show kc_Go C V 1 (0, 0) (kc_E C V (some (.int (kp_V_complaintCount σ))) σ) σ 0 [(0, .ref (kc_ad V 3))] []
  refine kg_aload_n hC d_V_complaintCount_0 0 rfl ?_
  refine kg_getr hC (ko_3 hV) rfl ui_V (j := 5) (by decide) tw_69 rfl d_V_complaintCount_1 rfl ?_
  refine kg_staticI hC (kk_V_countAll (kc_l C) hV σ 12 (ka_12 hV)) cal_V_countAll tw_591 tw_590 rfl (by decide) (rest := []) rfl (Nat.le_of_ble_eq_true rfl) d_V_complaintCount_4 ?_ (by decide)
  exact kg_iret hC d_V_complaintCount_7 (by rw [kp_V_complaintCount]) rfl
def kp_V_settledCount (σ : kc_Sg) : Int32 := (kp_V_countAll σ 13)
set_option maxHeartbeats 4000000 in
set_option maxRecDepth 100000 in
theorem kk_V_settledCount (l : Launch) {V : kc_V} (hV : kc_G V) (σ : kc_Sg) : kc_Met l y_V_settledCount b_V_settledCount 1 (some .int) (kc_rm 3) V [.ref (kc_ad V 3)] σ (some (.int (kp_V_settledCount σ))) σ := by
  refine kc_of (by decide) (Nat.le_of_ble_eq_true rfl) hV.ok (fun C _ hC => ?_)
  show kc_Go C V 1 (0, 0) (kc_E C V (some (.int (kp_V_settledCount σ))) σ) σ 0 [(0, .ref (kc_ad V 3))] []
  refine kg_aload_n hC d_V_settledCount_0 0 rfl ?_
  refine kg_getr hC (ko_3 hV) rfl ui_V (j := 6) (by decide) tw_70 rfl d_V_settledCount_1 rfl ?_
  refine kg_staticI hC (kk_V_countAll (kc_l C) hV σ 13 (ka_13 hV)) cal_V_countAll tw_591 tw_590 rfl (by decide) (rest := []) rfl (Nat.le_of_ble_eq_true rfl) d_V_settledCount_4 ?_ (by decide)
  exact kg_iret hC d_V_settledCount_7 (by rw [kp_V_settledCount]) rfl
