noncomputable def kp_G_isGroup (p : Int32) (q : Int32) (g : Int32) : Int32 := if q < (nI 11) then (nI 0) else (if (nI 32749) < q then (nI 0) else (if p ≤ q then (nI 0) else (if (kc_rem (p - (nI 1)) q) = 0 then (if g < (nI 2) then (nI 0) else (if p ≤ g then (nI 0) else (if (kp_G_power g q p) = (nI 1) then (if (kp_prime q) = 0 then (nI 0) else (if (kp_prime p) = 0 then (nI 0) else (nI 1))) else (nI 0)))) else (nI 0))))
set_option maxHeartbeats 4000000 in
set_option maxRecDepth 100000 in
theorem kk_G_isGroup (l : Launch) {V : kc_V} (hV : kc_G V) (σ : kc_Sg) (p : Int32) (q : Int32) (g : Int32) : kc_Met l y_G_isGroup b_G_isGroup 3 (some .boolean) (kc_rm 2) V [.int p, .int q, .int g] σ (some (.int (kp_G_isGroup p q g))) σ := by
  refine kc_of (by decide) (Nat.le_of_ble_eq_true rfl) hV.ok (fun C _ hC => ?_)
  show kc_Go C V 3 (0, 0) (kc_E C V (some (.int (kp_G_isGroup p q g))) σ) σ 0 [(0, .int p), (1, .int q), (2, .int g)] []
  refine kg_iload_n hC d_G_isGroup_0 1 rfl ?_
  refine kg_bipush hC d_G_isGroup_1 kn_b_11 ?_
  refine kg_icmp_lt hC d_G_isGroup_3 (tgt := 26) rfl (fun h3 => ?_) (fun h3 => ?_)
  · refine kg_iconst hC d_G_isGroup_26 kn_i_0 ?_
    exact kg_zret hC d_G_isGroup_27 kn_z0 (by rw [kp_G_isGroup, if_pos h3]) rfl
  · refine kg_iload_n hC d_G_isGroup_6 1 rfl ?_
    refine kg_sipush hC d_G_isGroup_7 kn_s_32749 ?_
    refine kg_icmp_gt hC d_G_isGroup_10 (tgt := 26) rfl (fun h10 => ?_) (fun h10 => ?_)
    · refine kg_iconst hC d_G_isGroup_26 kn_i_0 ?_
      exact kg_zret hC d_G_isGroup_27 kn_z0 (by rw [kp_G_isGroup, if_neg h3, if_pos h10]) rfl
    · refine kg_iload_n hC d_G_isGroup_13 0 rfl ?_
      refine kg_iload_n hC d_G_isGroup_14 1 rfl ?_
      refine kg_icmp_le hC d_G_isGroup_15 (tgt := 26) rfl (fun h15 => ?_) (fun h15 => ?_)
      · refine kg_iconst hC d_G_isGroup_26 kn_i_0 ?_
        exact kg_zret hC d_G_isGroup_27 kn_z0 (by rw [kp_G_isGroup, if_neg h3, if_neg h10, if_pos h15]) rfl
      · refine kg_iload_n hC d_G_isGroup_18 0 rfl ?_
        refine kg_iconst hC d_G_isGroup_19 kn_i_1 ?_
        refine kg_isub hC d_G_isGroup_20 ?_
        refine kg_iload_n hC d_G_isGroup_21 1 rfl ?_
        refine kg_irem hC d_G_isGroup_22 (kn_ne0 (by decide) (by decide) h3) ?_
        refine kg_if_eq hC d_G_isGroup_23 (tgt := 28) rfl (fun h23 => ?_) (fun h23 => ?_)
        · refine kg_iload_n hC d_G_isGroup_28 2 rfl ?_
          refine kg_iconst hC d_G_isGroup_29 kn_i_2 ?_
          refine kg_icmp_lt hC d_G_isGroup_30 (tgt := 48) rfl (fun h30 => ?_) (fun h30 => ?_)
          · refine kg_iconst hC d_G_isGroup_48 kn_i_0 ?_
            exact kg_zret hC d_G_isGroup_49 kn_z0 (by rw [kp_G_isGroup, if_neg h3, if_neg h10, if_neg h15, if_pos h23, if_pos h30]) rfl
          · refine kg_iload_n hC d_G_isGroup_33 2 rfl ?_
            refine kg_iload_n hC d_G_isGroup_34 0 rfl ?_
            refine kg_icmp_ge hC d_G_isGroup_35 (tgt := 48) rfl (fun h35 => ?_) (fun h35 => ?_)
            · refine kg_iconst hC d_G_isGroup_48 kn_i_0 ?_
              exact kg_zret hC d_G_isGroup_49 kn_z0 (by rw [kp_G_isGroup, if_neg h3, if_neg h10, if_neg h15, if_pos h23, if_neg h30, if_pos h35]) rfl
            · refine kg_iload_n hC d_G_isGroup_38 2 rfl ?_
              refine kg_iload_n hC d_G_isGroup_39 1 rfl ?_
              refine kg_iload_n hC d_G_isGroup_40 0 rfl ?_
              refine kg_staticI hC (kk_G_power (kc_l C) hV σ g q p (kn_gt0 h3 h15)) cal_G_power tw_126 tw_125 rfl (by decide) (rest := []) rfl (Nat.le_of_ble_eq_true rfl) d_G_isGroup_41 ?_ (by decide)
              refine kg_iconst hC d_G_isGroup_44 kn_i_1 ?_
              refine kg_icmp_eq hC d_G_isGroup_45 (tgt := 50) rfl (fun h45 => ?_) (fun h45 => ?_)
              · refine kg_iload_n hC d_G_isGroup_50 1 rfl ?_
                refine kg_staticI hC (kk_G_isPrime (kc_l C) hV σ q) cal_G_isPrime tw_129 tw_128 rfl (by decide) (rest := []) rfl (Nat.le_of_ble_eq_true rfl) d_G_isGroup_51 ?_ (by decide)
                refine kg_if_eq hC d_G_isGroup_54 (tgt := 68) rfl (fun h54 => ?_) (fun h54 => ?_)
                · refine kg_iconst hC d_G_isGroup_68 kn_i_0 ?_
                  exact kg_zret hC d_G_isGroup_69 kn_z0 (by rw [kp_G_isGroup, if_neg h3, if_neg h10, if_neg h15, if_pos h23, if_neg h30, if_neg h35, if_pos h45, if_pos h54]) rfl
                · refine kg_iload_n hC d_G_isGroup_57 0 rfl ?_
                  refine kg_staticI hC (kk_G_isPrime (kc_l C) hV σ p) cal_G_isPrime tw_129 tw_128 rfl (by decide) (rest := []) rfl (Nat.le_of_ble_eq_true rfl) d_G_isGroup_58 ?_ (by decide)
                  refine kg_if_eq hC d_G_isGroup_61 (tgt := 68) rfl (fun h61 => ?_) (fun h61 => ?_)
                  · refine kg_iconst hC d_G_isGroup_68 kn_i_0 ?_
                    exact kg_zret hC d_G_isGroup_69 kn_z0 (by rw [kp_G_isGroup, if_neg h3, if_neg h10, if_neg h15, if_pos h23, if_neg h30, if_neg h35, if_pos h45, if_neg h54, if_pos h61]) rfl
                  · refine kg_iconst hC d_G_isGroup_64 kn_i_1 ?_
                    refine kg_goto hC d_G_isGroup_65 (tgt := 69) rfl ?_
                    exact kg_zret hC d_G_isGroup_69 kn_z1 (by rw [kp_G_isGroup, if_neg h3, if_neg h10, if_neg h15, if_pos h23, if_neg h30, if_neg h35, if_pos h45, if_neg h54, if_neg h61]) rfl
              · refine kg_iconst hC d_G_isGroup_48 kn_i_0 ?_
                exact kg_zret hC d_G_isGroup_49 kn_z0 (by rw [kp_G_isGroup, if_neg h3, if_neg h10, if_neg h15, if_pos h23, if_neg h30, if_neg h35, if_neg h45]) rfl
        · refine kg_iconst hC d_G_isGroup_26 kn_i_0 ?_
          exact kg_zret hC d_G_isGroup_27 kn_z0 (by rw [kp_G_isGroup, if_neg h3, if_neg h10, if_neg h15, if_neg h23]) rfl
theorem kz_G_isGroup (p : Int32) (q : Int32) (g : Int32) : kp_G_isGroup p q g = nI 0 ∨ kp_G_isGroup p q g = nI 1 := by
  unfold kp_G_isGroup
  (repeat' split) <;> first | exact Or.inl rfl | exact Or.inr rfl
def kq_G_become (σ : kc_Sg) (p : Int32) (q : Int32) (g : Int32) : kc_Sg := (kc_up (kc_up (kc_up σ 1 0 p) 1 1 q) 1 2 g)
set_option maxHeartbeats 4000000 in
set_option maxRecDepth 100000 in
theorem kk_G_become (l : Launch) {V : kc_V} (hV : kc_G V) (σ : kc_Sg) (p : Int32) (q : Int32) (g : Int32) : kc_Met l y_G_become b_G_become 4 none (kc_rm 1) V [.ref (kc_ad V 1), .int p, .int q, .int g] σ none (kq_G_become σ p q g) := by
  refine kc_of (by decide) (Nat.le_of_ble_eq_true rfl) hV.ok (fun C _ hC => ?_)
  show kc_Go C V 4 (0, 0) (kc_E C V none (kq_G_become σ p q g)) σ 0 [(0, .ref (kc_ad V 1)), (1, .int p), (2, .int q), (3, .int g)] []
  refine kg_aload_n hC d_G_become_0 0 rfl ?_
  refine kg_iload_n hC d_G_become_1 1 rfl ?_
  refine kg_puti hC (ko_1 hV) rfl ui_G ok_G nm_G (j := 0) (by decide) tw_32 rfl rfl rfl rfl d_G_become_2 rfl ?_
  refine kg_aload_n hC d_G_become_5 0 rfl ?_
  refine kg_iload_n hC d_G_become_6 2 rfl ?_
  refine kg_puti hC (ko_1 hV) rfl ui_G ok_G nm_G (j := 1) (by decide) tw_33 rfl rfl rfl rfl d_G_become_7 rfl ?_
  refine kg_aload_n hC d_G_become_10 0 rfl ?_
  refine kg_iload_n hC d_G_become_11 3 rfl ?_
  refine kg_at (pc' := 12) rfl ?_
  refine kg_puti hC (ko_1 hV) rfl ui_G ok_G nm_G (j := 2) (by decide) tw_34 rfl rfl rfl rfl d_G_become_12 rfl ?_
  exact kg_vret hC d_G_become_15 (by rw [kq_G_become])
def kp_G_stands (σ : kc_Sg) : Int32 := if (σ 1 1) ≤ (nI 1) then (nI 0) else (nI 1)
set_option maxHeartbeats 4000000 in
set_option maxRecDepth 100000 in
theorem kk_G_stands (l : Launch) {V : kc_V} (hV : kc_G V) (σ : kc_Sg) : kc_Met l y_G_stands b_G_stands 1 (some .boolean) (kc_rm 1) V [.ref (kc_ad V 1)] σ (some (.int (kp_G_stands σ))) σ := by
  refine kc_of (by decide) (Nat.le_of_ble_eq_true rfl) hV.ok (fun C _ hC => ?_)
  show kc_Go C V 1 (0, 0) (kc_E C V (some (.int (kp_G_stands σ))) σ) σ 0 [(0, .ref (kc_ad V 1))] []
  refine kg_aload_n hC d_G_stands_0 0 rfl ?_
  refine kg_geti hC (ko_1 hV) rfl ui_G (j := 1) (by decide) tw_33 rfl d_G_stands_1 rfl ?_
  refine kg_iconst hC d_G_stands_4 kn_i_1 ?_
  refine kg_icmp_le hC d_G_stands_5 (tgt := 12) rfl (fun h5 => ?_) (fun h5 => ?_)
  · refine kg_iconst hC d_G_stands_12 kn_i_0 ?_
    exact kg_zret hC d_G_stands_13 kn_z0 (by rw [kp_G_stands, if_pos h5]) rfl
  · refine kg_iconst hC d_G_stands_8 kn_i_1 ?_
    refine kg_goto hC d_G_stands_9 (tgt := 13) rfl ?_
    exact kg_zret hC d_G_stands_13 kn_z1 (by rw [kp_G_stands, if_neg h5]) rfl
theorem kz_G_stands (σ : kc_Sg) : kp_G_stands σ = nI 0 ∨ kp_G_stands σ = nI 1 := by
  unfold kp_G_stands
  (repeat' split) <;> first | exact Or.inl rfl | exact Or.inr rfl
def kp_G_isNumber (σ : kc_Sg) (a : Int32) : Int32 := if a < 0 then (nI 0) else (if (σ 1 1) ≤ a then (nI 0) else (nI 1))
set_option maxHeartbeats 4000000 in
set_option maxRecDepth 100000 in
theorem kk_G_isNumber (l : Launch) {V : kc_V} (hV : kc_G V) (σ : kc_Sg) (a : Int32) : kc_Met l y_G_isNumber b_G_isNumber 2 (some .boolean) (kc_rm 1) V [.ref (kc_ad V 1), .int a] σ (some (.int (kp_G_isNumber σ a))) σ := by
  refine kc_of (by decide) (Nat.le_of_ble_eq_true rfl) hV.ok (fun C _ hC => ?_)
  show kc_Go C V 2 (0, 0) (kc_E C V (some (.int (kp_G_isNumber σ a))) σ) σ 0 [(0, .ref (kc_ad V 1)), (1, .int a)] []
  refine kg_iload_n hC d_G_isNumber_0 1 rfl ?_
  refine kg_if_lt hC d_G_isNumber_1 (tgt := 16) rfl (fun h1 => ?_) (fun h1 => ?_)
  · refine kg_iconst hC d_G_isNumber_16 kn_i_0 ?_
    exact kg_zret hC d_G_isNumber_17 kn_z0 (by rw [kp_G_isNumber, if_pos h1]) rfl
  · refine kg_iload_n hC d_G_isNumber_4 1 rfl ?_
    refine kg_aload_n hC d_G_isNumber_5 0 rfl ?_
    refine kg_geti hC (ko_1 hV) rfl ui_G (j := 1) (by decide) tw_33 rfl d_G_isNumber_6 rfl ?_
    refine kg_icmp_ge hC d_G_isNumber_9 (tgt := 16) rfl (fun h9 => ?_) (fun h9 => ?_)
    · refine kg_iconst hC d_G_isNumber_16 kn_i_0 ?_
      exact kg_zret hC d_G_isNumber_17 kn_z0 (by rw [kp_G_isNumber, if_neg h1, if_pos h9]) rfl
    · refine kg_iconst hC d_G_isNumber_12 kn_i_1 ?_
      refine kg_goto hC d_G_isNumber_13 (tgt := 17) rfl ?_
      exact kg_zret hC d_G_isNumber_17 kn_z1 (by rw [kp_G_isNumber, if_neg h1, if_neg h9]) rfl
theorem kz_G_isNumber (σ : kc_Sg) (a : Int32) : kp_G_isNumber σ a = nI 0 ∨ kp_G_isNumber σ a = nI 1 := by
  unfold kp_G_isNumber
  (repeat' split) <;> first | exact Or.inl rfl | exact Or.inr rfl
def kp_G_areNumbers (σ : kc_Sg) (b : Int32) (c : Int32) (d : Int32) : Int32 := if (kp_G_isNumber σ b) = 0 then (nI 0) else (if (kp_G_isNumber σ c) = 0 then (nI 0) else (if (kp_G_isNumber σ d) = 0 then (nI 0) else (nI 1)))
set_option maxHeartbeats 4000000 in
set_option maxRecDepth 100000 in
theorem kk_G_areNumbers (l : Launch) {V : kc_V} (hV : kc_G V) (σ : kc_Sg) (b : Int32) (c : Int32) (d : Int32) : kc_Met l y_G_areNumbers b_G_areNumbers 4 (some .boolean) (kc_rm 2) V [.ref (kc_ad V 1), .int b, .int c, .int d] σ (some (.int (kp_G_areNumbers σ b c d))) σ := by
  refine kc_of (by decide) (Nat.le_of_ble_eq_true rfl) hV.ok (fun C _ hC => ?_)
  show kc_Go C V 4 (0, 0) (kc_E C V (some (.int (kp_G_areNumbers σ b c d))) σ) σ 0 [(0, .ref (kc_ad V 1)), (1, .int b), (2, .int c), (3, .int d)] []
  refine kg_aload_n hC d_G_areNumbers_0 0 rfl ?_
  refine kg_iload_n hC d_G_areNumbers_1 1 rfl ?_
  refine kg_virtualI hC (kk_G_isNumber (kc_l C) hV σ b) cal_G_isNumber tw_240 tw_241 tw_247 (ko_1 hV) rfl rfl (by decide) (rest := []) rfl (Nat.le_of_ble_eq_true rfl) d_G_areNumbers_2 ?_ (by decide)
  refine kg_if_eq hC d_G_areNumbers_5 (tgt := 28) rfl (fun h5 => ?_) (fun h5 => ?_)
  · refine kg_iconst hC d_G_areNumbers_28 kn_i_0 ?_
    exact kg_zret hC d_G_areNumbers_29 kn_z0 (by rw [kp_G_areNumbers, if_pos h5]) rfl
  · refine kg_aload_n hC d_G_areNumbers_8 0 rfl ?_
    refine kg_iload_n hC d_G_areNumbers_9 2 rfl ?_
    refine kg_virtualI hC (kk_G_isNumber (kc_l C) hV σ c) cal_G_isNumber tw_240 tw_241 tw_247 (ko_1 hV) rfl rfl (by decide) (rest := []) rfl (Nat.le_of_ble_eq_true rfl) d_G_areNumbers_10 ?_ (by decide)
    refine kg_if_eq hC d_G_areNumbers_13 (tgt := 28) rfl (fun h13 => ?_) (fun h13 => ?_)
    · refine kg_iconst hC d_G_areNumbers_28 kn_i_0 ?_
      exact kg_zret hC d_G_areNumbers_29 kn_z0 (by rw [kp_G_areNumbers, if_neg h5, if_pos h13]) rfl
    · refine kg_aload_n hC d_G_areNumbers_16 0 rfl ?_
      refine kg_iload_n hC d_G_areNumbers_17 3 rfl ?_
      refine kg_virtualI hC (kk_G_isNumber (kc_l C) hV σ d) cal_G_isNumber tw_240 tw_241 tw_247 (ko_1 hV) rfl rfl (by decide) (rest := []) rfl (Nat.le_of_ble_eq_true rfl) d_G_areNumbers_18 ?_ (by decide)
      refine kg_if_eq hC d_G_areNumbers_21 (tgt := 28) rfl (fun h21 => ?_) (fun h21 => ?_)
      · refine kg_iconst hC d_G_areNumbers_28 kn_i_0 ?_
        exact kg_zret hC d_G_areNumbers_29 kn_z0 (by rw [kp_G_areNumbers, if_neg h5, if_neg h13, if_pos h21]) rfl
      · refine kg_iconst hC d_G_areNumbers_24 kn_i_1 ?_
        refine kg_goto hC d_G_areNumbers_25 (tgt := 29) rfl ?_
        exact kg_zret hC d_G_areNumbers_29 kn_z1 (by rw [kp_G_areNumbers, if_neg h5, if_neg h13, if_neg h21]) rfl
theorem kz_G_areNumbers (σ : kc_Sg) (b : Int32) (c : Int32) (d : Int32) : kp_G_areNumbers σ b c d = nI 0 ∨ kp_G_areNumbers σ b c d = nI 1 := by
  unfold kp_G_areNumbers
  (repeat' split) <;> first | exact Or.inl rfl | exact Or.inr rfl
def kp_G_addNumbers (σ : kc_Sg) (a : Int32) (b : Int32) : Int32 := (kc_rem (a + b) (σ 1 1))
set_option maxHeartbeats 4000000 in
set_option maxRecDepth 100000 in
theorem kk_G_addNumbers (l : Launch) {V : kc_V} (hV : kc_G V) (σ : kc_Sg) (a : Int32) (b : Int32) (hq : ¬ σ 1 1 = 0) : kc_Met l y_G_addNumbers b_G_addNumbers 3 (some .int) (kc_rm 1) V [.ref (kc_ad V 1), .int a, .int b] σ (some (.int (kp_G_addNumbers σ a b))) σ := by
  refine kc_of (by decide) (Nat.le_of_ble_eq_true rfl) hV.ok (fun C _ hC => ?_)
  show kc_Go C V 3 (0, 0) (kc_E C V (some (.int (kp_G_addNumbers σ a b))) σ) σ 0 [(0, .ref (kc_ad V 1)), (1, .int a), (2, .int b)] []
  refine kg_iload_n hC d_G_addNumbers_0 1 rfl ?_
  refine kg_iload_n hC d_G_addNumbers_1 2 rfl ?_
  refine kg_iadd hC d_G_addNumbers_2 ?_
  refine kg_aload_n hC d_G_addNumbers_3 0 rfl ?_
  refine kg_geti hC (ko_1 hV) rfl ui_G (j := 1) (by decide) tw_33 rfl d_G_addNumbers_4 rfl ?_
  refine kg_irem hC d_G_addNumbers_7 hq ?_
  exact kg_iret hC d_G_addNumbers_8 (by rw [kp_G_addNumbers]) rfl
def kp_G_multiplyNumbers (σ : kc_Sg) (a : Int32) (b : Int32) : Int32 := (Int64.toInt32 (kc_lrem ((Int32.toInt64 a) * (Int32.toInt64 b)) (Int32.toInt64 (σ 1 1))))
set_option maxHeartbeats 4000000 in
set_option maxRecDepth 100000 in
theorem kk_G_multiplyNumbers (l : Launch) {V : kc_V} (hV : kc_G V) (σ : kc_Sg) (a : Int32) (b : Int32) (hq : ¬ σ 1 1 = 0) : kc_Met l y_G_multiplyNumbers b_G_multiplyNumbers 3 (some .int) (kc_rm 1) V [.ref (kc_ad V 1), .int a, .int b] σ (some (.int (kp_G_multiplyNumbers σ a b))) σ := by
  refine kc_of (by decide) (Nat.le_of_ble_eq_true rfl) hV.ok (fun C _ hC => ?_)
  show kc_Go C V 3 (0, 0) (kc_E C V (some (.int (kp_G_multiplyNumbers σ a b))) σ) σ 0 [(0, .ref (kc_ad V 1)), (1, .int a), (2, .int b)] []
  refine kg_iload_n hC d_G_multiplyNumbers_0 1 rfl ?_
  refine kg_i2l hC d_G_multiplyNumbers_1 ?_
  refine kg_iload_n hC d_G_multiplyNumbers_2 2 rfl ?_
  refine kg_i2l hC d_G_multiplyNumbers_3 ?_
  refine kg_lmul hC d_G_multiplyNumbers_4 ?_
  refine kg_aload_n hC d_G_multiplyNumbers_5 0 rfl ?_
  refine kg_geti hC (ko_1 hV) rfl ui_G (j := 1) (by decide) tw_33 rfl d_G_multiplyNumbers_6 rfl ?_
  refine kg_i2l hC d_G_multiplyNumbers_9 ?_
  refine kg_at (pc' := 10) rfl ?_
  refine kg_lrem hC d_G_multiplyNumbers_10 (kn_l0 hq) ?_
  refine kg_l2i hC d_G_multiplyNumbers_11 ?_
  exact kg_iret hC d_G_multiplyNumbers_12 (by rw [kp_G_multiplyNumbers]) rfl
def kp_G_multiply (σ : kc_Sg) (a : Int32) (b : Int32) : Int32 := (Int64.toInt32 (kc_lrem ((Int32.toInt64 a) * (Int32.toInt64 b)) (Int32.toInt64 (σ 1 0))))
set_option maxHeartbeats 4000000 in
set_option maxRecDepth 100000 in
theorem kk_G_multiply (l : Launch) {V : kc_V} (hV : kc_G V) (σ : kc_Sg) (a : Int32) (b : Int32) (hp : ¬ σ 1 0 = 0) : kc_Met l y_G_multiply b_G_multiply 3 (some .int) (kc_rm 1) V [.ref (kc_ad V 1), .int a, .int b] σ (some (.int (kp_G_multiply σ a b))) σ := by
  refine kc_of (by decide) (Nat.le_of_ble_eq_true rfl) hV.ok (fun C _ hC => ?_)
  show kc_Go C V 3 (0, 0) (kc_E C V (some (.int (kp_G_multiply σ a b))) σ) σ 0 [(0, .ref (kc_ad V 1)), (1, .int a), (2, .int b)] []
  refine kg_iload_n hC d_G_multiply_0 1 rfl ?_
  refine kg_i2l hC d_G_multiply_1 ?_
  refine kg_iload_n hC d_G_multiply_2 2 rfl ?_
  refine kg_i2l hC d_G_multiply_3 ?_
  refine kg_lmul hC d_G_multiply_4 ?_
  refine kg_aload_n hC d_G_multiply_5 0 rfl ?_
  refine kg_geti hC (ko_1 hV) rfl ui_G (j := 0) (by decide) tw_32 rfl d_G_multiply_6 rfl ?_
  refine kg_i2l hC d_G_multiply_9 ?_
  refine kg_at (pc' := 10) rfl ?_
  refine kg_lrem hC d_G_multiply_10 (kn_l0 hp) ?_
  refine kg_l2i hC d_G_multiply_11 ?_
  exact kg_iret hC d_G_multiply_12 (by rw [kp_G_multiply]) rfl
def kf_G_valueAt_1 (σ : kc_Sg) (x : Int32) (k : Nat) (i1 : Nat) (a1 : Int32) : Int32 := (kp_G_addNumbers σ (kp_G_multiplyNumbers σ a1 x) (σ k (3 - i1)))
def kp_G_valueAt (σ : kc_Sg) (x : Int32) (k : Nat) : Int32 := (kc_it (kf_G_valueAt_1 σ x k) 4 0 (nI 0))
set_option maxHeartbeats 4000000 in
set_option maxRecDepth 100000 in
theorem kk_G_valueAt (l : Launch) {V : kc_V} (hV : kc_G V) (σ : kc_Sg) (x : Int32) (k : Nat) (hq : ¬ σ 1 1 = 0) (ha : kc_ai V k 4) : kc_Met l y_G_valueAt b_G_valueAt 5 (some .int) (kc_rm 2) V [.ref (kc_ad V 1), .int x, .ref (kc_ad V k)] σ (some (.int (kp_G_valueAt σ x k))) σ := by
  refine kc_of (by decide) (Nat.le_of_ble_eq_true rfl) hV.ok (fun C _ hC => ?_)
  show kc_Go C V 5 (0, 0) (kc_E C V (some (.int (kp_G_valueAt σ x k))) σ) σ 0 [(0, .ref (kc_ad V 1)), (1, .int x), (2, .ref (kc_ad V k))] []
  refine kg_iconst hC d_G_valueAt_0 kn_i_0 ?_
  refine kg_istore_n hC d_G_valueAt_1 [(3, .int (nI 0)), (0, .ref (kc_ad V 1)), (1, .int x), (2, .ref (kc_ad V k))] rfl (by decide) ?_
  refine kg_iconst hC d_G_valueAt_2 kn_i_3 ?_
  refine kg_istore hC d_G_valueAt_3 [(4, .int (nI 3)), (3, .int (nI 0)), (0, .ref (kc_ad V 1)), (1, .int x), (2, .ref (kc_ad V k))] rfl (by decide) ?_
  refine kc_loop (fun i1 a1 => kc_Go C V 5 (0, 0) (kc_E C V (some (.int (kp_G_valueAt σ x k))) σ) σ 5 [(4, .int (nI 3 - nI i1)), (3, .int a1), (0, .ref (kc_ad V 1)), (1, .int x), (2, .ref (kc_ad V k))] []) (kf_G_valueAt_1 σ x k) 0 4 (fun i1 a1 ho1 hi1 hk1 => ?_) 4 0 (nI 0) (Nat.le_refl _) rfl ?_
  · refine kg_iload hC d_G_valueAt_5 0 rfl ?_
    refine kg_if_lt hC d_G_valueAt_7 (tgt := 31) rfl (fun q => absurd q (kn_dn (by omega))) (fun _ => ?_)
    refine kg_aload_n hC d_G_valueAt_10 2 rfl ?_
    refine kg_aload_n hC d_G_valueAt_11 2 rfl ?_
    refine kg_iload_n hC d_G_valueAt_12 1 rfl ?_
    refine kg_iload_n hC d_G_valueAt_13 3 rfl ?_
    refine kg_virtualI hC (kk_G_multiplyNumbers (kc_l C) hV σ a1 x hq) cal_G_multiplyNumbers tw_261 ts_G_multiplyNumbers tw_259 (ko_1 hV) rfl rfl (by decide) (rest := [.ref (kc_ad V 1)]) rfl (Nat.le_of_ble_eq_true rfl) d_G_valueAt_14 ?_ (by decide)
    refine kg_aload_n hC d_G_valueAt_17 4 rfl ?_
    refine kg_at (pc' := 18) rfl ?_
    refine kg_iload hC d_G_valueAt_18 0 rfl ?_
    refine kg_iald hC ha (i := (3 - i1)) (pk_sub (by omega)) (by omega) d_G_valueAt_20 ?_
    refine kg_virtualI hC (kk_G_addNumbers (kc_l C) hV σ (kp_G_multiplyNumbers σ a1 x) (σ k (3 - i1)) hq) cal_G_addNumbers tw_264 tw_265 tw_263 (ko_1 hV) rfl rfl (by decide) (rest := []) rfl (Nat.le_of_ble_eq_true rfl) d_G_valueAt_21 ?_ (by decide)
    refine kg_istore_n hC d_G_valueAt_24 [(3, .int (kp_G_addNumbers σ (kp_G_multiplyNumbers σ a1 x) (σ k (3 - i1)))), (4, .int (nI 3 - nI i1)), (0, .ref (kc_ad V 1)), (1, .int x), (2, .ref (kc_ad V k))] rfl (by decide) ?_
    refine kg_iinc hC d_G_valueAt_25 1 rfl (kn_dec (by omega)) [(4, .int (nI 3 - nI (i1 + 1))), (3, .int (kp_G_addNumbers σ (kp_G_multiplyNumbers σ a1 x) (σ k (3 - i1)))), (0, .ref (kc_ad V 1)), (1, .int x), (2, .ref (kc_ad V k))] rfl (by decide) ?_
    refine kg_goto hC d_G_valueAt_28 (tgt := 5) rfl ?_
    exact kg_to (P := fun zz => kc_Go C V 5 (0, 0) (kc_E C V (some (.int (kp_G_valueAt σ x k))) σ) σ 5 [(4, .int (nI 3 - nI (i1 + 1))), (3, .int zz), (0, .ref (kc_ad V 1)), (1, .int x), (2, .ref (kc_ad V k))] []) (b := (kp_G_addNumbers σ (kp_G_multiplyNumbers σ a1 x) (σ k (3 - i1)))) (a := (kf_G_valueAt_1 σ x k) i1 a1) (by rw [kf_G_valueAt_1]) hk1
  generalize hg1 : (kc_it (kf_G_valueAt_1 σ x k) 4 0 (nI 0)) = τ1
  refine kg_iload hC d_G_valueAt_5 0 rfl ?_
  refine kg_if_lt hC d_G_valueAt_7 (tgt := 31) rfl (fun _ => ?_) (fun q => absurd (by decide +kernel) q)
  refine kg_iload_n hC d_G_valueAt_31 1 rfl ?_
  exact kg_iret hC d_G_valueAt_32 (by rw [kp_G_valueAt, hg1]) rfl
def kf_G_commitTo_1 (k : Nat) (k2 : Nat) (i1 : Nat) (a1 : kc_Sg) : kc_Sg := (kc_up a1 k2 i1 (kp_G_power (a1 1 2) (a1 k i1) (a1 1 0)))
def kq_G_commitTo (σ : kc_Sg) (k : Nat) (k2 : Nat) : kc_Sg := (kc_it (kf_G_commitTo_1 k k2) 4 0 σ)
set_option maxHeartbeats 4000000 in
set_option maxRecDepth 100000 in
theorem kk_G_commitTo (l : Launch) {V : kc_V} (hV : kc_G V) (σ : kc_Sg) (k : Nat) (k2 : Nat) (hp : ¬ σ 1 0 = 0) (ha : kc_ai V k 4) (hb : kc_ai V k2 4) (h1 : k2 ≠ 1) : kc_Met l y_G_commitTo b_G_commitTo 4 none (kc_rm 2) V [.ref (kc_ad V 1), .ref (kc_ad V k), .ref (kc_ad V k2)] σ none (kq_G_commitTo σ k k2) := by
  refine kc_of (by decide) (Nat.le_of_ble_eq_true rfl) hV.ok (fun C _ hC => ?_)
  show kc_Go C V 4 (0, 0) (kc_E C V none (kq_G_commitTo σ k k2)) σ 0 [(0, .ref (kc_ad V 1)), (1, .ref (kc_ad V k)), (2, .ref (kc_ad V k2))] []
  refine kg_iconst hC d_G_commitTo_0 kn_i_0 ?_
  refine kg_istore_n hC d_G_commitTo_1 [(3, .int (nI 0)), (0, .ref (kc_ad V 1)), (1, .ref (kc_ad V k)), (2, .ref (kc_ad V k2))] rfl (by decide) ?_
  refine kc_loop (fun i1 a1 => a1 1 = σ 1 → kc_Go C V 4 (0, 0) (kc_E C V none (kq_G_commitTo σ k k2)) a1 2 [(3, .int (nI i1)), (0, .ref (kc_ad V 1)), (1, .ref (kc_ad V k)), (2, .ref (kc_ad V k2))] []) (kf_G_commitTo_1 k k2) 0 4 (fun i1 a1 ho1 hi1 hk1 hv1 => ?_) 4 0 σ (Nat.le_refl _) rfl (fun hw1 => ?_) rfl
  · refine kg_iload_n hC d_G_commitTo_2 0 rfl ?_
    refine kg_iconst hC d_G_commitTo_3 kn_i_4 ?_
    refine kg_icmp_ge hC d_G_commitTo_4 (tgt := 30) rfl (fun q => absurd q (nI_ge (by omega) (by decide))) (fun _ => ?_)
    refine kg_aload_n hC d_G_commitTo_7 3 rfl ?_
    refine kg_iload_n hC d_G_commitTo_8 0 rfl ?_
    refine kg_aload_n hC d_G_commitTo_9 1 rfl ?_
    refine kg_geti hC (ko_1 hV) rfl ui_G (j := 2) (by decide) tw_34 rfl d_G_commitTo_10 rfl ?_
    refine kg_aload_n hC d_G_commitTo_13 2 rfl ?_
    refine kg_at (pc' := 14) rfl ?_
    refine kg_iload_n hC d_G_commitTo_14 0 rfl ?_
    refine kg_iald hC ha (i := i1) rfl (by omega) d_G_commitTo_15 ?_
    refine kg_aload_n hC d_G_commitTo_16 1 rfl ?_
    refine kg_geti hC (ko_1 hV) rfl ui_G (j := 0) (by decide) tw_32 rfl d_G_commitTo_17 rfl ?_
    refine kg_staticI hC (kk_G_power (kc_l C) hV a1 (a1 1 2) (a1 k i1) (a1 1 0) (by rw [hv1]; exact hp)) cal_G_power tw_126 tw_125 rfl (by decide) (rest := [.int (nI i1), .ref (kc_ad V k2)]) rfl (Nat.le_of_ble_eq_true rfl) d_G_commitTo_20 ?_ (by decide)
    refine kg_iast hC hb (i := i1) rfl (by omega) d_G_commitTo_23 ?_
    refine kg_iinc hC d_G_commitTo_24 0 rfl (kn_inc1 i1) [(3, .int (nI (i1 + 1))), (0, .ref (kc_ad V 1)), (1, .ref (kc_ad V k)), (2, .ref (kc_ad V k2))] rfl (by decide) ?_
    refine kg_goto hC d_G_commitTo_27 (tgt := 2) rfl ?_
    exact kg_to (P := fun zz => zz 1 = σ 1 → kc_Go C V 4 (0, 0) (kc_E C V none (kq_G_commitTo σ k k2)) zz 2 [(3, .int (nI (i1 + 1))), (0, .ref (kc_ad V 1)), (1, .ref (kc_ad V k)), (2, .ref (kc_ad V k2))] []) (b := (kc_up a1 k2 i1 (kp_G_power (a1 1 2) (a1 k i1) (a1 1 0)))) (a := (kf_G_commitTo_1 k k2) i1 a1) (by rw [kf_G_commitTo_1]) hk1 (by rw [kc_up_ne (by omega)]; exact hv1)
  generalize hg1 : (kc_it (kf_G_commitTo_1 k k2) 4 0 σ) = τ1 at hw1 ⊢
  refine kg_iload_n hC d_G_commitTo_2 0 rfl ?_
  refine kg_iconst hC d_G_commitTo_3 kn_i_4 ?_
  refine kg_icmp_ge hC d_G_commitTo_4 (tgt := 30) rfl (fun _ => ?_) (fun q => absurd (nI_le (by decide) (by decide)) q)
  exact kg_vret hC d_G_commitTo_30 (by rw [kq_G_commitTo, hg1])
def kf_G_elementAt_1 (σ : kc_Sg) (x : Int32) (k : Nat) (i1 : Nat) (a1 : Int32 × Int32) : Int32 × Int32 := ((kp_G_multiply σ (a1.1) (kp_G_power (σ k i1) (a1.2) (σ 1 0))), ((a1.2) * x))
def kp_G_elementAt (σ : kc_Sg) (x : Int32) (k : Nat) : Int32 := ((kc_it (kf_G_elementAt_1 σ x k) 4 0 ((nI 1), (nI 1))).1)
set_option maxHeartbeats 4000000 in
set_option maxRecDepth 100000 in
theorem kk_G_elementAt (l : Launch) {V : kc_V} (hV : kc_G V) (σ : kc_Sg) (x : Int32) (k : Nat) (hp : ¬ σ 1 0 = 0) (ha : kc_ai V k 4) : kc_Met l y_G_elementAt b_G_elementAt 6 (some .int) (kc_rm 2) V [.ref (kc_ad V 1), .int x, .ref (kc_ad V k)] σ (some (.int (kp_G_elementAt σ x k))) σ := by
  refine kc_of (by decide) (Nat.le_of_ble_eq_true rfl) hV.ok (fun C _ hC => ?_)
  show kc_Go C V 6 (0, 0) (kc_E C V (some (.int (kp_G_elementAt σ x k))) σ) σ 0 [(0, .ref (kc_ad V 1)), (1, .int x), (2, .ref (kc_ad V k))] []
  refine kg_iconst hC d_G_elementAt_0 kn_i_1 ?_
  refine kg_istore_n hC d_G_elementAt_1 [(3, .int (nI 1)), (0, .ref (kc_ad V 1)), (1, .int x), (2, .ref (kc_ad V k))] rfl (by decide) ?_
  refine kg_iconst hC d_G_elementAt_2 kn_i_1 ?_
  refine kg_istore hC d_G_elementAt_3 [(4, .int (nI 1)), (3, .int (nI 1)), (0, .ref (kc_ad V 1)), (1, .int x), (2, .ref (kc_ad V k))] rfl (by decide) ?_
  refine kg_iconst hC d_G_elementAt_5 kn_i_0 ?_
  refine kg_istore hC d_G_elementAt_6 [(5, .int (nI 0)), (4, .int (nI 1)), (3, .int (nI 1)), (0, .ref (kc_ad V 1)), (1, .int x), (2, .ref (kc_ad V k))] rfl (by decide) ?_
  refine kg_loc [0, 2, 1, 3, 4, 5] (L' := [(5, .int (nI 0)), (3, .int (nI 1)), (4, .int (nI 1)), (0, .ref (kc_ad V 1)), (1, .int x), (2, .ref (kc_ad V k))]) rfl ?_
  refine kc_loop (fun i1 a1 => kc_Go C V 6 (0, 0) (kc_E C V (some (.int (kp_G_elementAt σ x k))) σ) σ 8 [(5, .int (nI i1)), (3, .int (a1.1)), (4, .int (a1.2)), (0, .ref (kc_ad V 1)), (1, .int x), (2, .ref (kc_ad V k))] []) (kf_G_elementAt_1 σ x k) 0 4 (fun i1 a1 ho1 hi1 hk1 => ?_) 4 0 ((nI 1), (nI 1)) (Nat.le_refl _) rfl ?_
  · refine kg_iload hC d_G_elementAt_8 0 rfl ?_
    refine kg_iconst hC d_G_elementAt_10 kn_i_4 ?_
    refine kg_icmp_ge hC d_G_elementAt_11 (tgt := 45) rfl (fun q => absurd q (nI_ge (by omega) (by decide))) (fun _ => ?_)
    refine kg_aload_n hC d_G_elementAt_14 3 rfl ?_
    refine kg_iload_n hC d_G_elementAt_15 1 rfl ?_
    refine kg_aload_n hC d_G_elementAt_16 5 rfl ?_
    refine kg_iload hC d_G_elementAt_17 0 rfl ?_
    refine kg_iald hC ha (i := i1) rfl (by omega) d_G_elementAt_19 ?_
    refine kg_at (pc' := 20) rfl ?_
    refine kg_iload hC d_G_elementAt_20 2 rfl ?_
    refine kg_aload_n hC d_G_elementAt_22 3 rfl ?_
    refine kg_geti hC (ko_1 hV) rfl ui_G (j := 0) (by decide) tw_32 rfl d_G_elementAt_23 rfl ?_
    refine kg_staticI hC (kk_G_power (kc_l C) hV σ (σ k i1) (a1.2) (σ 1 0) hp) cal_G_power tw_126 tw_125 rfl (by decide) (rest := [.int (a1.1), .ref (kc_ad V 1)]) rfl (Nat.le_of_ble_eq_true rfl) d_G_elementAt_26 ?_ (by decide)
    refine kg_virtualI hC (kk_G_multiply (kc_l C) hV σ (a1.1) (kp_G_power (σ k i1) (a1.2) (σ 1 0)) hp) cal_G_multiply tw_416 tw_417 tw_415 (ko_1 hV) rfl rfl (by decide) (rest := []) rfl (Nat.le_of_ble_eq_true rfl) d_G_elementAt_29 ?_ (by decide)
    refine kg_istore_n hC d_G_elementAt_32 [(3, .int (kp_G_multiply σ (a1.1) (kp_G_power (σ k i1) (a1.2) (σ 1 0)))), (5, .int (nI i1)), (4, .int (a1.2)), (0, .ref (kc_ad V 1)), (1, .int x), (2, .ref (kc_ad V k))] rfl (by decide) ?_
    refine kg_iload hC d_G_elementAt_33 2 rfl ?_
    refine kg_iload_n hC d_G_elementAt_35 4 rfl ?_
    refine kg_at (pc' := 36) rfl ?_
    refine kg_imul hC d_G_elementAt_36 ?_
    refine kg_istore hC d_G_elementAt_37 [(4, .int ((a1.2) * x)), (3, .int (kp_G_multiply σ (a1.1) (kp_G_power (σ k i1) (a1.2) (σ 1 0)))), (5, .int (nI i1)), (0, .ref (kc_ad V 1)), (1, .int x), (2, .ref (kc_ad V k))] rfl (by decide) ?_
    refine kg_iinc hC d_G_elementAt_39 2 rfl (kn_inc1 i1) [(5, .int (nI (i1 + 1))), (4, .int ((a1.2) * x)), (3, .int (kp_G_multiply σ (a1.1) (kp_G_power (σ k i1) (a1.2) (σ 1 0)))), (0, .ref (kc_ad V 1)), (1, .int x), (2, .ref (kc_ad V k))] rfl (by decide) ?_
    refine kg_goto hC d_G_elementAt_42 (tgt := 8) rfl ?_
    refine kg_loc [0, 2, 1, 3, 4, 5] (L' := [(5, .int (nI (i1 + 1))), (3, .int (kp_G_multiply σ (a1.1) (kp_G_power (σ k i1) (a1.2) (σ 1 0)))), (4, .int ((a1.2) * x)), (0, .ref (kc_ad V 1)), (1, .int x), (2, .ref (kc_ad V k))]) rfl ?_
    exact kg_to (P := fun zz => kc_Go C V 6 (0, 0) (kc_E C V (some (.int (kp_G_elementAt σ x k))) σ) σ 8 [(5, .int (nI (i1 + 1))), (3, .int (zz.1)), (4, .int (zz.2)), (0, .ref (kc_ad V 1)), (1, .int x), (2, .ref (kc_ad V k))] []) (b := ((kp_G_multiply σ (a1.1) (kp_G_power (σ k i1) (a1.2) (σ 1 0))), ((a1.2) * x))) (a := (kf_G_elementAt_1 σ x k) i1 a1) (by rw [kf_G_elementAt_1]) hk1
  generalize hg1 : (kc_it (kf_G_elementAt_1 σ x k) 4 0 ((nI 1), (nI 1))) = τ1
  refine kg_iload hC d_G_elementAt_8 0 rfl ?_
  refine kg_iconst hC d_G_elementAt_10 kn_i_4 ?_
  refine kg_icmp_ge hC d_G_elementAt_11 (tgt := 45) rfl (fun _ => ?_) (fun q => absurd (nI_le (by decide) (by decide)) q)
  refine kg_iload_n hC d_G_elementAt_45 1 rfl ?_
  exact kg_iret hC d_G_elementAt_46 (by rw [kp_G_elementAt, hg1]) rfl
def kp_G_agree (σ : kc_Sg) (x : Int32) (k : Nat) (v : Int32) : Int32 := if (kp_G_power (σ 1 2) v (σ 1 0)) = (kp_G_elementAt σ x k) then (nI 1) else (nI 0)
set_option maxHeartbeats 4000000 in
set_option maxRecDepth 100000 in
theorem kk_G_agree (l : Launch) {V : kc_V} (hV : kc_G V) (σ : kc_Sg) (x : Int32) (k : Nat) (v : Int32) (hp : ¬ σ 1 0 = 0) (ha : kc_ai V k 4) : kc_Met l y_G_agree b_G_agree 4 (some .boolean) (kc_rm 3) V [.ref (kc_ad V 1), .int x, .ref (kc_ad V k), .int v] σ (some (.int (kp_G_agree σ x k v))) σ := by
  refine kc_of (by decide) (Nat.le_of_ble_eq_true rfl) hV.ok (fun C _ hC => ?_)
  show kc_Go C V 4 (0, 0) (kc_E C V (some (.int (kp_G_agree σ x k v))) σ) σ 0 [(0, .ref (kc_ad V 1)), (1, .int x), (2, .ref (kc_ad V k)), (3, .int v)] []
  refine kg_aload_n hC d_G_agree_0 0 rfl ?_
  refine kg_geti hC (ko_1 hV) rfl ui_G (j := 2) (by decide) tw_34 rfl d_G_agree_1 rfl ?_
  refine kg_iload_n hC d_G_agree_4 3 rfl ?_
  refine kg_aload_n hC d_G_agree_5 0 rfl ?_
  refine kg_geti hC (ko_1 hV) rfl ui_G (j := 0) (by decide) tw_32 rfl d_G_agree_6 rfl ?_
  refine kg_staticI hC (kk_G_power (kc_l C) hV σ (σ 1 2) v (σ 1 0) hp) cal_G_power tw_126 tw_125 rfl (by decide) (rest := []) rfl (Nat.le_of_ble_eq_true rfl) d_G_agree_9 ?_ (by decide)
  refine kg_aload_n hC d_G_agree_12 0 rfl ?_
  refine kg_iload_n hC d_G_agree_13 1 rfl ?_
  refine kg_at (pc' := 14) rfl ?_
  refine kg_aload_n hC d_G_agree_14 2 rfl ?_
  refine kg_virtualI hC (kk_G_elementAt (kc_l C) hV σ x k hp ha) cal_G_elementAt tw_412 tw_413 tw_411 (ko_1 hV) rfl rfl (by decide) (rest := [.int (kp_G_power (σ 1 2) v (σ 1 0))]) rfl (Nat.le_of_ble_eq_true rfl) d_G_agree_15 ?_ (by decide)
  refine kg_icmp_ne hC d_G_agree_18 (tgt := 25) rfl (fun h18 => ?_) (fun h18 => ?_)
  · refine kg_iconst hC d_G_agree_25 kn_i_0 ?_
    exact kg_zret hC d_G_agree_26 kn_z0 (by rw [kp_G_agree, if_neg h18]) rfl
  · refine kg_iconst hC d_G_agree_21 kn_i_1 ?_
    refine kg_goto hC d_G_agree_22 (tgt := 26) rfl ?_
    exact kg_zret hC d_G_agree_26 kn_z1 (by rw [kp_G_agree, if_pos h18]) rfl
theorem kz_G_agree (σ : kc_Sg) (x : Int32) (k : Nat) (v : Int32) : kp_G_agree σ x k v = nI 0 ∨ kp_G_agree σ x k v = nI 1 := by
  unfold kp_G_agree
  (repeat' split) <;> first | exact Or.inl rfl | exact Or.inr rfl
def kf_G_weight_1 (σ : kc_Sg) (x : Int32) (c : Int32) (s : Int32) (i1 : Nat) (a1 : Int32 × Int32) : Int32 × Int32 := if (nI i1) = s then ((a1.1), (a1.2)) else (if (kp_K_isAmong c (nI i1)) = 0 then ((a1.1), (a1.2)) else ((kp_G_multiplyNumbers σ (a1.1) (kp_JM_floorMod (x - (nI i1)) (σ 1 1))), (kp_G_multiplyNumbers σ (a1.2) (kp_JM_floorMod (s - (nI i1)) (σ 1 1)))))
def kp_G_weight (σ : kc_Sg) (x : Int32) (c : Int32) (s : Int32) : Int32 := (kp_G_multiplyNumbers σ ((kc_it (kf_G_weight_1 σ x c s) 7 1 ((nI 1), (nI 1))).1) (kp_G_power ((kc_it (kf_G_weight_1 σ x c s) 7 1 ((nI 1), (nI 1))).2) ((σ 1 1) - (nI 2)) (σ 1 1)))
set_option maxHeartbeats 4000000 in
set_option maxRecDepth 100000 in
theorem kk_G_weight (l : Launch) {V : kc_V} (hV : kc_G V) (σ : kc_Sg) (x : Int32) (c : Int32) (s : Int32) (hq : ¬ σ 1 1 = 0) : kc_Met l y_G_weight b_G_weight 7 (some .int) (kc_rm 3) V [.ref (kc_ad V 1), .int x, .int c, .int s] σ (some (.int (kp_G_weight σ x c s))) σ := by
  refine kc_of (by decide) (Nat.le_of_ble_eq_true rfl) hV.ok (fun C _ hC => ?_)
  show kc_Go C V 7 (0, 0) (kc_E C V (some (.int (kp_G_weight σ x c s))) σ) σ 0 [(0, .ref (kc_ad V 1)), (1, .int x), (2, .int c), (3, .int s)] []
  refine kg_iconst hC d_G_weight_0 kn_i_1 ?_
  refine kg_istore hC d_G_weight_1 [(4, .int (nI 1)), (0, .ref (kc_ad V 1)), (1, .int x), (2, .int c), (3, .int s)] rfl (by decide) ?_
  refine kg_iconst hC d_G_weight_3 kn_i_1 ?_
  refine kg_istore hC d_G_weight_4 [(5, .int (nI 1)), (4, .int (nI 1)), (0, .ref (kc_ad V 1)), (1, .int x), (2, .int c), (3, .int s)] rfl (by decide) ?_
  refine kg_iconst hC d_G_weight_6 kn_i_1 ?_
  refine kg_istore hC d_G_weight_7 [(6, .int (nI 1)), (5, .int (nI 1)), (4, .int (nI 1)), (0, .ref (kc_ad V 1)), (1, .int x), (2, .int c), (3, .int s)] rfl (by decide) ?_
  refine kg_loc [0, 2, 1, 3, 4, 5, 6] (L' := [(6, .int (nI 1)), (4, .int (nI 1)), (5, .int (nI 1)), (0, .ref (kc_ad V 1)), (1, .int x), (2, .int c), (3, .int s)]) rfl ?_
  refine kc_loop (fun i1 a1 => kc_Go C V 7 (0, 0) (kc_E C V (some (.int (kp_G_weight σ x c s))) σ) σ 9 [(6, .int (nI i1)), (4, .int (a1.1)), (5, .int (a1.2)), (0, .ref (kc_ad V 1)), (1, .int x), (2, .int c), (3, .int s)] []) (kf_G_weight_1 σ x c s) 1 8 (fun i1 a1 ho1 hi1 hk1 => ?_) 7 1 ((nI 1), (nI 1)) (Nat.le_refl _) rfl ?_
  · refine kg_iload hC d_G_weight_9 0 rfl ?_
    refine kg_bipush hC d_G_weight_11 kn_b_7 ?_
    refine kg_icmp_gt hC d_G_weight_13 (tgt := 75) rfl (fun q => absurd q (nI_nlt (by omega) (by decide))) (fun _ => ?_)
    refine kg_iload hC d_G_weight_16 0 rfl ?_
    refine kg_iload_n hC d_G_weight_18 6 rfl ?_
    refine kg_icmp_eq hC d_G_weight_19 (tgt := 69) rfl (fun h19 => ?_) (fun h19 => ?_)
    · refine kg_iinc hC d_G_weight_69 0 rfl (kn_inc1 i1) [(6, .int (nI (i1 + 1))), (4, .int (a1.1)), (5, .int (a1.2)), (0, .ref (kc_ad V 1)), (1, .int x), (2, .int c), (3, .int s)] rfl (by decide) ?_
      refine kg_goto hC d_G_weight_72 (tgt := 9) rfl ?_
      exact kg_to (P := fun zz => kc_Go C V 7 (0, 0) (kc_E C V (some (.int (kp_G_weight σ x c s))) σ) σ 9 [(6, .int (nI (i1 + 1))), (4, .int (zz.1)), (5, .int (zz.2)), (0, .ref (kc_ad V 1)), (1, .int x), (2, .int c), (3, .int s)] []) (b := ((a1.1), (a1.2))) (a := (kf_G_weight_1 σ x c s) i1 a1) (by rw [kf_G_weight_1, if_pos h19]) hk1
    · refine kg_iload_n hC d_G_weight_22 5 rfl ?_
      refine kg_iload hC d_G_weight_23 0 rfl ?_
      refine kg_staticNI hC (kk_K_isAmong (kc_l C) hV σ c (nI i1)) cal_K_isAmong tw_303 kx_G_46 rfl (by decide) (rest := []) rfl (Nat.le_of_ble_eq_true rfl) d_G_weight_25 ?_ (by decide)
      refine kg_if_eq hC d_G_weight_28 (tgt := 69) rfl (fun h28 => ?_) (fun h28 => ?_)
      · refine kg_iinc hC d_G_weight_69 0 rfl (kn_inc1 i1) [(6, .int (nI (i1 + 1))), (4, .int (a1.1)), (5, .int (a1.2)), (0, .ref (kc_ad V 1)), (1, .int x), (2, .int c), (3, .int s)] rfl (by decide) ?_
        refine kg_goto hC d_G_weight_72 (tgt := 9) rfl ?_
        exact kg_to (P := fun zz => kc_Go C V 7 (0, 0) (kc_E C V (some (.int (kp_G_weight σ x c s))) σ) σ 9 [(6, .int (nI (i1 + 1))), (4, .int (zz.1)), (5, .int (zz.2)), (0, .ref (kc_ad V 1)), (1, .int x), (2, .int c), (3, .int s)] []) (b := ((a1.1), (a1.2))) (a := (kf_G_weight_1 σ x c s) i1 a1) (by rw [kf_G_weight_1, if_neg h19, if_pos h28]) hk1
      · refine kg_aload_n hC d_G_weight_31 3 rfl ?_
        refine kg_iload hC d_G_weight_32 1 rfl ?_
        refine kg_iload_n hC d_G_weight_34 4 rfl ?_
        refine kg_iload hC d_G_weight_35 0 rfl ?_
        refine kg_isub hC d_G_weight_37 ?_
        refine kg_aload_n hC d_G_weight_38 3 rfl ?_
        refine kg_geti hC (ko_1 hV) rfl ui_G (j := 1) (by decide) tw_33 rfl d_G_weight_39 rfl ?_
        refine kg_staticI hC (kk_JM_floorMod (kc_l C) hV σ (x - (nI i1)) (σ 1 1) hq) cal_JM_floorMod tw_506 tw_505 rfl (by decide) (rest := [.int (a1.1), .ref (kc_ad V 1)]) rfl (Nat.le_of_ble_eq_true rfl) d_G_weight_42 ?_ (by decide)
        refine kg_at (pc' := 45) rfl ?_
        refine kg_virtualI hC (kk_G_multiplyNumbers (kc_l C) hV σ (a1.1) (kp_JM_floorMod (x - (nI i1)) (σ 1 1)) hq) cal_G_multiplyNumbers tw_261 ts_G_multiplyNumbers tw_259 (ko_1 hV) rfl rfl (by decide) (rest := []) rfl (Nat.le_of_ble_eq_true rfl) d_G_weight_45 ?_ (by decide)
        refine kg_istore hC d_G_weight_48 [(4, .int (kp_G_multiplyNumbers σ (a1.1) (kp_JM_floorMod (x - (nI i1)) (σ 1 1)))), (6, .int (nI i1)), (5, .int (a1.2)), (0, .ref (kc_ad V 1)), (1, .int x), (2, .int c), (3, .int s)] rfl (by decide) ?_
        refine kg_aload_n hC d_G_weight_50 3 rfl ?_
        refine kg_iload hC d_G_weight_51 2 rfl ?_
        refine kg_iload_n hC d_G_weight_53 6 rfl ?_
        refine kg_iload hC d_G_weight_54 1 rfl ?_
        refine kg_isub hC d_G_weight_56 ?_
        refine kg_aload_n hC d_G_weight_57 3 rfl ?_
        refine kg_at (pc' := 58) rfl ?_
        refine kg_geti hC (ko_1 hV) rfl ui_G (j := 1) (by decide) tw_33 rfl d_G_weight_58 rfl ?_
        refine kg_staticI hC (kk_JM_floorMod (kc_l C) hV σ (s - (nI i1)) (σ 1 1) hq) cal_JM_floorMod tw_506 tw_505 rfl (by decide) (rest := [.int (a1.2), .ref (kc_ad V 1)]) rfl (Nat.le_of_ble_eq_true rfl) d_G_weight_61 ?_ (by decide)
        refine kg_virtualI hC (kk_G_multiplyNumbers (kc_l C) hV σ (a1.2) (kp_JM_floorMod (s - (nI i1)) (σ 1 1)) hq) cal_G_multiplyNumbers tw_261 ts_G_multiplyNumbers tw_259 (ko_1 hV) rfl rfl (by decide) (rest := []) rfl (Nat.le_of_ble_eq_true rfl) d_G_weight_64 ?_ (by decide)
        refine kg_istore hC d_G_weight_67 [(5, .int (kp_G_multiplyNumbers σ (a1.2) (kp_JM_floorMod (s - (nI i1)) (σ 1 1)))), (4, .int (kp_G_multiplyNumbers σ (a1.1) (kp_JM_floorMod (x - (nI i1)) (σ 1 1)))), (6, .int (nI i1)), (0, .ref (kc_ad V 1)), (1, .int x), (2, .int c), (3, .int s)] rfl (by decide) ?_
        refine kg_iinc hC d_G_weight_69 2 rfl (kn_inc1 i1) [(6, .int (nI (i1 + 1))), (5, .int (kp_G_multiplyNumbers σ (a1.2) (kp_JM_floorMod (s - (nI i1)) (σ 1 1)))), (4, .int (kp_G_multiplyNumbers σ (a1.1) (kp_JM_floorMod (x - (nI i1)) (σ 1 1)))), (0, .ref (kc_ad V 1)), (1, .int x), (2, .int c), (3, .int s)] rfl (by decide) ?_
        refine kg_goto hC d_G_weight_72 (tgt := 9) rfl ?_
        refine kg_loc [0, 2, 1, 3, 4, 5, 6] (L' := [(6, .int (nI (i1 + 1))), (4, .int (kp_G_multiplyNumbers σ (a1.1) (kp_JM_floorMod (x - (nI i1)) (σ 1 1)))), (5, .int (kp_G_multiplyNumbers σ (a1.2) (kp_JM_floorMod (s - (nI i1)) (σ 1 1)))), (0, .ref (kc_ad V 1)), (1, .int x), (2, .int c), (3, .int s)]) rfl ?_
        exact kg_to (P := fun zz => kc_Go C V 7 (0, 0) (kc_E C V (some (.int (kp_G_weight σ x c s))) σ) σ 9 [(6, .int (nI (i1 + 1))), (4, .int (zz.1)), (5, .int (zz.2)), (0, .ref (kc_ad V 1)), (1, .int x), (2, .int c), (3, .int s)] []) (b := ((kp_G_multiplyNumbers σ (a1.1) (kp_JM_floorMod (x - (nI i1)) (σ 1 1))), (kp_G_multiplyNumbers σ (a1.2) (kp_JM_floorMod (s - (nI i1)) (σ 1 1))))) (a := (kf_G_weight_1 σ x c s) i1 a1) (by rw [kf_G_weight_1, if_neg h19, if_neg h28]) hk1
  generalize hg1 : (kc_it (kf_G_weight_1 σ x c s) 7 1 ((nI 1), (nI 1))) = τ1
  refine kg_iload hC d_G_weight_9 0 rfl ?_
  refine kg_bipush hC d_G_weight_11 kn_b_7 ?_
  refine kg_icmp_gt hC d_G_weight_13 (tgt := 75) rfl (fun _ => ?_) (fun q => absurd (nI_lt (by decide) (by decide)) q)
  refine kg_aload_n hC d_G_weight_75 3 rfl ?_
  refine kg_iload hC d_G_weight_76 1 rfl ?_
  refine kg_iload hC d_G_weight_78 2 rfl ?_
  refine kg_aload_n hC d_G_weight_80 3 rfl ?_
  refine kg_geti hC (ko_1 hV) rfl ui_G (j := 1) (by decide) tw_33 rfl d_G_weight_81 rfl ?_
  refine kg_at (pc' := 84) rfl ?_
  refine kg_iconst hC d_G_weight_84 kn_i_2 ?_
  refine kg_isub hC d_G_weight_85 ?_
  refine kg_aload_n hC d_G_weight_86 3 rfl ?_
  refine kg_geti hC (ko_1 hV) rfl ui_G (j := 1) (by decide) tw_33 rfl d_G_weight_87 rfl ?_
  refine kg_staticI hC (kk_G_power (kc_l C) hV σ (τ1.2) ((σ 1 1) - (nI 2)) (σ 1 1) hq) cal_G_power tw_126 tw_125 rfl (by decide) (rest := [.int (τ1.1), .ref (kc_ad V 1)]) rfl (Nat.le_of_ble_eq_true rfl) d_G_weight_90 ?_ (by decide)
  refine kg_virtualI hC (kk_G_multiplyNumbers (kc_l C) hV σ (τ1.1) (kp_G_power (τ1.2) ((σ 1 1) - (nI 2)) (σ 1 1)) hq) cal_G_multiplyNumbers tw_261 ts_G_multiplyNumbers tw_259 (ko_1 hV) rfl rfl (by decide) (rest := []) rfl (Nat.le_of_ble_eq_true rfl) d_G_weight_93 ?_ (by decide)
  exact kg_iret hC d_G_weight_96 (by rw [kp_G_weight, hg1]) rfl
def kf_G_interpolate_1 (σ : kc_Sg) (x : Int32) (c : Int32) (k : Nat) (i1 : Nat) (a1 : Int32) : Int32 := if (kp_K_isAmong c (nI i1)) = 0 then a1 else (kp_G_addNumbers σ a1 (kp_G_multiplyNumbers σ (σ k i1) (kp_G_weight σ x c (nI i1))))
def kp_G_interpolate (σ : kc_Sg) (x : Int32) (c : Int32) (k : Nat) : Int32 := (kc_it (kf_G_interpolate_1 σ x c k) 7 1 (nI 0))
set_option maxHeartbeats 4000000 in
set_option maxRecDepth 100000 in
theorem kk_G_interpolate (l : Launch) {V : kc_V} (hV : kc_G V) (σ : kc_Sg) (x : Int32) (c : Int32) (k : Nat) (hq : ¬ σ 1 1 = 0) (ha : kc_ai V k 8) : kc_Met l y_G_interpolate b_G_interpolate 6 (some .int) (kc_rm 4) V [.ref (kc_ad V 1), .int x, .int c, .ref (kc_ad V k)] σ (some (.int (kp_G_interpolate σ x c k))) σ := by
  refine kc_of (by decide) (Nat.le_of_ble_eq_true rfl) hV.ok (fun C _ hC => ?_)
  show kc_Go C V 6 (0, 0) (kc_E C V (some (.int (kp_G_interpolate σ x c k))) σ) σ 0 [(0, .ref (kc_ad V 1)), (1, .int x), (2, .int c), (3, .ref (kc_ad V k))] []
  refine kg_iconst hC d_G_interpolate_0 kn_i_0 ?_
  refine kg_istore hC d_G_interpolate_1 [(4, .int (nI 0)), (0, .ref (kc_ad V 1)), (1, .int x), (2, .int c), (3, .ref (kc_ad V k))] rfl (by decide) ?_
  refine kg_iconst hC d_G_interpolate_3 kn_i_1 ?_
  refine kg_istore hC d_G_interpolate_4 [(5, .int (nI 1)), (4, .int (nI 0)), (0, .ref (kc_ad V 1)), (1, .int x), (2, .int c), (3, .ref (kc_ad V k))] rfl (by decide) ?_
  refine kc_loop (fun i1 a1 => kc_Go C V 6 (0, 0) (kc_E C V (some (.int (kp_G_interpolate σ x c k))) σ) σ 6 [(5, .int (nI i1)), (4, .int a1), (0, .ref (kc_ad V 1)), (1, .int x), (2, .int c), (3, .ref (kc_ad V k))] []) (kf_G_interpolate_1 σ x c k) 1 8 (fun i1 a1 ho1 hi1 hk1 => ?_) 7 1 (nI 0) (Nat.le_refl _) rfl ?_
  · refine kg_iload hC d_G_interpolate_6 0 rfl ?_
    refine kg_bipush hC d_G_interpolate_8 kn_b_7 ?_
    refine kg_icmp_gt hC d_G_interpolate_10 (tgt := 52) rfl (fun q => absurd q (nI_nlt (by omega) (by decide))) (fun _ => ?_)
    refine kg_iload_n hC d_G_interpolate_13 4 rfl ?_
    refine kg_iload hC d_G_interpolate_14 0 rfl ?_
    refine kg_staticNI hC (kk_K_isAmong (kc_l C) hV σ c (nI i1)) cal_K_isAmong tw_303 kx_G_46 rfl (by decide) (rest := []) rfl (Nat.le_of_ble_eq_true rfl) d_G_interpolate_16 ?_ (by decide)
    refine kg_if_eq hC d_G_interpolate_19 (tgt := 46) rfl (fun h19 => ?_) (fun h19 => ?_)
    · refine kg_iinc hC d_G_interpolate_46 0 rfl (kn_inc1 i1) [(5, .int (nI (i1 + 1))), (4, .int a1), (0, .ref (kc_ad V 1)), (1, .int x), (2, .int c), (3, .ref (kc_ad V k))] rfl (by decide) ?_
      refine kg_goto hC d_G_interpolate_49 (tgt := 6) rfl ?_
      exact kg_to (P := fun zz => kc_Go C V 6 (0, 0) (kc_E C V (some (.int (kp_G_interpolate σ x c k))) σ) σ 6 [(5, .int (nI (i1 + 1))), (4, .int zz), (0, .ref (kc_ad V 1)), (1, .int x), (2, .int c), (3, .ref (kc_ad V k))] []) (b := a1) (a := (kf_G_interpolate_1 σ x c k) i1 a1) (by rw [kf_G_interpolate_1, if_pos h19]) hk1
    · refine kg_aload_n hC d_G_interpolate_22 2 rfl ?_
      refine kg_iload hC d_G_interpolate_23 1 rfl ?_
      refine kg_aload_n hC d_G_interpolate_25 2 rfl ?_
      refine kg_aload_n hC d_G_interpolate_26 5 rfl ?_
      refine kg_iload hC d_G_interpolate_27 0 rfl ?_
      refine kg_iald hC ha (i := i1) rfl (by omega) d_G_interpolate_29 ?_
      refine kg_aload_n hC d_G_interpolate_30 2 rfl ?_
      refine kg_iload_n hC d_G_interpolate_31 3 rfl ?_
      refine kg_at (pc' := 32) rfl ?_
      refine kg_iload_n hC d_G_interpolate_32 4 rfl ?_
      refine kg_iload hC d_G_interpolate_33 0 rfl ?_
      refine kg_virtualI hC (kk_G_weight (kc_l C) hV σ x c (nI i1) hq) cal_G_weight tw_503 ts_G_weight tw_501 (ko_1 hV) rfl rfl (by decide) (rest := [.int (σ k i1), .ref (kc_ad V 1), .int a1, .ref (kc_ad V 1)]) rfl (Nat.le_of_ble_eq_true rfl) d_G_interpolate_35 ?_ (by decide)
      refine kg_virtualI hC (kk_G_multiplyNumbers (kc_l C) hV σ (σ k i1) (kp_G_weight σ x c (nI i1)) hq) cal_G_multiplyNumbers tw_261 ts_G_multiplyNumbers tw_259 (ko_1 hV) rfl rfl (by decide) (rest := [.int a1, .ref (kc_ad V 1)]) rfl (Nat.le_of_ble_eq_true rfl) d_G_interpolate_38 ?_ (by decide)
      refine kg_virtualI hC (kk_G_addNumbers (kc_l C) hV σ a1 (kp_G_multiplyNumbers σ (σ k i1) (kp_G_weight σ x c (nI i1))) hq) cal_G_addNumbers tw_264 tw_265 tw_263 (ko_1 hV) rfl rfl (by decide) (rest := []) rfl (Nat.le_of_ble_eq_true rfl) d_G_interpolate_41 ?_ (by decide)
      refine kg_istore hC d_G_interpolate_44 [(4, .int (kp_G_addNumbers σ a1 (kp_G_multiplyNumbers σ (σ k i1) (kp_G_weight σ x c (nI i1))))), (5, .int (nI i1)), (0, .ref (kc_ad V 1)), (1, .int x), (2, .int c), (3, .ref (kc_ad V k))] rfl (by decide) ?_
      refine kg_iinc hC d_G_interpolate_46 1 rfl (kn_inc1 i1) [(5, .int (nI (i1 + 1))), (4, .int (kp_G_addNumbers σ a1 (kp_G_multiplyNumbers σ (σ k i1) (kp_G_weight σ x c (nI i1))))), (0, .ref (kc_ad V 1)), (1, .int x), (2, .int c), (3, .ref (kc_ad V k))] rfl (by decide) ?_
      refine kg_goto hC d_G_interpolate_49 (tgt := 6) rfl ?_
      exact kg_to (P := fun zz => kc_Go C V 6 (0, 0) (kc_E C V (some (.int (kp_G_interpolate σ x c k))) σ) σ 6 [(5, .int (nI (i1 + 1))), (4, .int zz), (0, .ref (kc_ad V 1)), (1, .int x), (2, .int c), (3, .ref (kc_ad V k))] []) (b := (kp_G_addNumbers σ a1 (kp_G_multiplyNumbers σ (σ k i1) (kp_G_weight σ x c (nI i1))))) (a := (kf_G_interpolate_1 σ x c k) i1 a1) (by rw [kf_G_interpolate_1, if_neg h19]) hk1
  generalize hg1 : (kc_it (kf_G_interpolate_1 σ x c k) 7 1 (nI 0)) = τ1
  refine kg_iload hC d_G_interpolate_6 0 rfl ?_
  refine kg_bipush hC d_G_interpolate_8 kn_b_7 ?_
  refine kg_icmp_gt hC d_G_interpolate_10 (tgt := 52) rfl (fun _ => ?_) (fun q => absurd (nI_lt (by decide) (by decide)) q)
  refine kg_iload hC d_G_interpolate_52 1 rfl ?_
  exact kg_iret hC d_G_interpolate_54 (by rw [kp_G_interpolate, hg1]) rfl
