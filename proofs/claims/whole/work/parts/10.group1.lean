def kp_K_bit (x : Int32) : Int32 := (kc_shl (nI 1) (x - (nI 1)))
set_option maxHeartbeats 4000000 in
set_option maxRecDepth 100000 in
theorem kk_K_bit (l : Launch) {V : kc_V} (hV : kc_G V) (σ : kc_Sg) (x : Int32) : kc_Met l y_K_bit b_K_bit 1 (some .int) (kc_rm 1) V [.int x] σ (some (.int (kp_K_bit x))) σ := by
  refine kc_of (by decide) (Nat.le_of_ble_eq_true rfl) hV.ok (fun C _ hC => ?_)
  show kc_Go C V 1 (0, 0) (kc_E C V (some (.int (kp_K_bit x))) σ) σ 0 [(0, .int x)] []
  refine kg_iconst hC d_K_bit_0 kn_i_1 ?_
  refine kg_iload_n hC d_K_bit_1 0 rfl ?_
  refine kg_iconst hC d_K_bit_2 kn_i_1 ?_
  refine kg_isub hC d_K_bit_3 ?_
  refine kg_ishl hC d_K_bit_4 ?_
  exact kg_iret hC d_K_bit_5 (by rw [kp_K_bit]) rfl
def kp_K_isAmong (m : Int32) (x : Int32) : Int32 := if (m &&& (kp_K_bit x)) = 0 then (nI 0) else (nI 1)
set_option maxHeartbeats 4000000 in
set_option maxRecDepth 100000 in
theorem kk_K_isAmong (l : Launch) {V : kc_V} (hV : kc_G V) (σ : kc_Sg) (m : Int32) (x : Int32) : kc_Met l y_K_isAmong b_K_isAmong 2 (some .boolean) (kc_rm 2) V [.int m, .int x] σ (some (.int (kp_K_isAmong m x))) σ := by
  refine kc_of (by decide) (Nat.le_of_ble_eq_true rfl) hV.ok (fun C _ hC => ?_)
  show kc_Go C V 2 (0, 0) (kc_E C V (some (.int (kp_K_isAmong m x))) σ) σ 0 [(0, .int m), (1, .int x)] []
  refine kg_iload_n hC d_K_isAmong_0 0 rfl ?_
  refine kg_iload_n hC d_K_isAmong_1 1 rfl ?_
  refine kg_staticI hC (kk_K_bit (kc_l C) hV σ x) cal_K_bit tw_306 tw_305 rfl (by decide) (rest := [.int m]) rfl (Nat.le_of_ble_eq_true rfl) d_K_isAmong_2 ?_ (by decide)
  refine kg_iand hC d_K_isAmong_5 ?_
  refine kg_if_eq hC d_K_isAmong_6 (tgt := 13) rfl (fun h6 => ?_) (fun h6 => ?_)
  · refine kg_iconst hC d_K_isAmong_13 kn_i_0 ?_
    exact kg_zret hC d_K_isAmong_14 kn_z0 (by rw [kp_K_isAmong, if_pos h6]) rfl
  · refine kg_iconst hC d_K_isAmong_9 kn_i_1 ?_
    refine kg_goto hC d_K_isAmong_10 (tgt := 14) rfl ?_
    exact kg_zret hC d_K_isAmong_14 kn_z1 (by rw [kp_K_isAmong, if_neg h6]) rfl
theorem kz_K_isAmong (m : Int32) (x : Int32) : kp_K_isAmong m x = nI 0 ∨ kp_K_isAmong m x = nI 1 := by
  unfold kp_K_isAmong
  (repeat' split) <;> first | exact Or.inl rfl | exact Or.inr rfl
def kq_K_writeRow (σ : kc_Sg) (k : Nat) (a : Int32) (b : Int32) (c : Int32) (d : Int32) : kc_Sg := (kc_up (kc_up (kc_up (kc_up σ k 0 a) k 1 b) k 2 c) k 3 d)
set_option maxHeartbeats 4000000 in
set_option maxRecDepth 100000 in
theorem kk_K_writeRow (l : Launch) {V : kc_V} (hV : kc_G V) (σ : kc_Sg) (k : Nat) (a : Int32) (b : Int32) (c : Int32) (d : Int32) (ha : kc_ai V k 4) : kc_Met l y_K_writeRow b_K_writeRow 5 none (kc_rm 1) V [.ref (kc_ad V k), .int a, .int b, .int c, .int d] σ none (kq_K_writeRow σ k a b c d) := by
  refine kc_of (by decide) (Nat.le_of_ble_eq_true rfl) hV.ok (fun C _ hC => ?_)
  show kc_Go C V 5 (0, 0) (kc_E C V none (kq_K_writeRow σ k a b c d)) σ 0 [(0, .ref (kc_ad V k)), (1, .int a), (2, .int b), (3, .int c), (4, .int d)] []
  refine kg_aload_n hC d_K_writeRow_0 0 rfl ?_
  refine kg_iconst hC d_K_writeRow_1 kn_i_0 ?_
  refine kg_iload_n hC d_K_writeRow_2 1 rfl ?_
  refine kg_iast hC ha (i := 0) rfl (by decide) d_K_writeRow_3 ?_
  refine kg_aload_n hC d_K_writeRow_4 0 rfl ?_
  refine kg_iconst hC d_K_writeRow_5 kn_i_1 ?_
  refine kg_iload_n hC d_K_writeRow_6 2 rfl ?_
  refine kg_iast hC ha (i := 1) rfl (by decide) d_K_writeRow_7 ?_
  refine kg_at (pc' := 8) rfl ?_
  refine kg_aload_n hC d_K_writeRow_8 0 rfl ?_
  refine kg_iconst hC d_K_writeRow_9 kn_i_2 ?_
  refine kg_iload_n hC d_K_writeRow_10 3 rfl ?_
  refine kg_iast hC ha (i := 2) rfl (by decide) d_K_writeRow_11 ?_
  refine kg_aload_n hC d_K_writeRow_12 0 rfl ?_
  refine kg_iconst hC d_K_writeRow_13 kn_i_3 ?_
  refine kg_iload hC d_K_writeRow_14 4 rfl ?_
  refine kg_iast hC ha (i := 3) rfl (by decide) d_K_writeRow_16 ?_
  refine kg_at (pc' := 17) rfl ?_
  exact kg_vret hC d_K_writeRow_17 (by rw [kq_K_writeRow])
def kp_JI_bitCount (x : Int32) : Int32 := ((((((((x - ((kc_ushr x (nI 1)) &&& (1431655765 : Int32))) &&& (858993459 : Int32)) + ((kc_ushr (x - ((kc_ushr x (nI 1)) &&& (1431655765 : Int32))) (nI 2)) &&& (858993459 : Int32))) + (kc_ushr (((x - ((kc_ushr x (nI 1)) &&& (1431655765 : Int32))) &&& (858993459 : Int32)) + ((kc_ushr (x - ((kc_ushr x (nI 1)) &&& (1431655765 : Int32))) (nI 2)) &&& (858993459 : Int32))) (nI 4))) &&& (252645135 : Int32)) + (kc_ushr (((((x - ((kc_ushr x (nI 1)) &&& (1431655765 : Int32))) &&& (858993459 : Int32)) + ((kc_ushr (x - ((kc_ushr x (nI 1)) &&& (1431655765 : Int32))) (nI 2)) &&& (858993459 : Int32))) + (kc_ushr (((x - ((kc_ushr x (nI 1)) &&& (1431655765 : Int32))) &&& (858993459 : Int32)) + ((kc_ushr (x - ((kc_ushr x (nI 1)) &&& (1431655765 : Int32))) (nI 2)) &&& (858993459 : Int32))) (nI 4))) &&& (252645135 : Int32)) (nI 8))) + (kc_ushr ((((((x - ((kc_ushr x (nI 1)) &&& (1431655765 : Int32))) &&& (858993459 : Int32)) + ((kc_ushr (x - ((kc_ushr x (nI 1)) &&& (1431655765 : Int32))) (nI 2)) &&& (858993459 : Int32))) + (kc_ushr (((x - ((kc_ushr x (nI 1)) &&& (1431655765 : Int32))) &&& (858993459 : Int32)) + ((kc_ushr (x - ((kc_ushr x (nI 1)) &&& (1431655765 : Int32))) (nI 2)) &&& (858993459 : Int32))) (nI 4))) &&& (252645135 : Int32)) + (kc_ushr (((((x - ((kc_ushr x (nI 1)) &&& (1431655765 : Int32))) &&& (858993459 : Int32)) + ((kc_ushr (x - ((kc_ushr x (nI 1)) &&& (1431655765 : Int32))) (nI 2)) &&& (858993459 : Int32))) + (kc_ushr (((x - ((kc_ushr x (nI 1)) &&& (1431655765 : Int32))) &&& (858993459 : Int32)) + ((kc_ushr (x - ((kc_ushr x (nI 1)) &&& (1431655765 : Int32))) (nI 2)) &&& (858993459 : Int32))) (nI 4))) &&& (252645135 : Int32)) (nI 8))) (nI 16))) &&& (nI 63))
set_option maxHeartbeats 4000000 in
set_option maxRecDepth 100000 in
theorem kk_JI_bitCount (l : Launch) {V : kc_V} (hV : kc_G V) (σ : kc_Sg) (x : Int32) : kc_Met l y_JI_bitCount b_JI_bitCount 1 (some .int) (kc_rm 1) V [.int x] σ (some (.int (kp_JI_bitCount x))) σ := by
  refine kc_of (by decide) (Nat.le_of_ble_eq_true rfl) hV.ok (fun C _ hC => ?_)
  show kc_Go C V 1 (0, 0) (kc_E C V (some (.int (kp_JI_bitCount x))) σ) σ 0 [(0, .int x)] []
  refine kg_iload_n hC d_JI_bitCount_0 0 rfl ?_
  refine kg_iload_n hC d_JI_bitCount_1 0 rfl ?_
  refine kg_iconst hC d_JI_bitCount_2 kn_i_1 ?_
  refine kg_iushr hC d_JI_bitCount_3 ?_
  refine kg_ldc_w hC d_JI_bitCount_4 tw_320 ?_
  refine kg_iand hC d_JI_bitCount_7 ?_
  refine kg_isub hC d_JI_bitCount_8 ?_
  refine kg_istore_n hC d_JI_bitCount_9 [(0, .int (x - ((kc_ushr x (nI 1)) &&& (1431655765 : Int32))))] rfl (by decide) ?_
  refine kg_at (pc' := 10) rfl ?_
  refine kg_iload_n hC d_JI_bitCount_10 0 rfl ?_
  refine kg_ldc_w hC d_JI_bitCount_11 tw_321 ?_
  refine kg_iand hC d_JI_bitCount_14 ?_
  refine kg_iload_n hC d_JI_bitCount_15 0 rfl ?_
  refine kg_iconst hC d_JI_bitCount_16 kn_i_2 ?_
  refine kg_iushr hC d_JI_bitCount_17 ?_
  refine kg_ldc_w hC d_JI_bitCount_18 tw_321 ?_
  refine kg_iand hC d_JI_bitCount_21 ?_
  refine kg_at (pc' := 22) rfl ?_
  refine kg_iadd hC d_JI_bitCount_22 ?_
  refine kg_istore_n hC d_JI_bitCount_23 [(0, .int (((x - ((kc_ushr x (nI 1)) &&& (1431655765 : Int32))) &&& (858993459 : Int32)) + ((kc_ushr (x - ((kc_ushr x (nI 1)) &&& (1431655765 : Int32))) (nI 2)) &&& (858993459 : Int32))))] rfl (by decide) ?_
  refine kg_iload_n hC d_JI_bitCount_24 0 rfl ?_
  refine kg_iload_n hC d_JI_bitCount_25 0 rfl ?_
  refine kg_iconst hC d_JI_bitCount_26 kn_i_4 ?_
  refine kg_iushr hC d_JI_bitCount_27 ?_
  refine kg_iadd hC d_JI_bitCount_28 ?_
  refine kg_ldc_w hC d_JI_bitCount_29 tw_322 ?_
  refine kg_at (pc' := 32) rfl ?_
  refine kg_iand hC d_JI_bitCount_32 ?_
  refine kg_istore_n hC d_JI_bitCount_33 [(0, .int (((((x - ((kc_ushr x (nI 1)) &&& (1431655765 : Int32))) &&& (858993459 : Int32)) + ((kc_ushr (x - ((kc_ushr x (nI 1)) &&& (1431655765 : Int32))) (nI 2)) &&& (858993459 : Int32))) + (kc_ushr (((x - ((kc_ushr x (nI 1)) &&& (1431655765 : Int32))) &&& (858993459 : Int32)) + ((kc_ushr (x - ((kc_ushr x (nI 1)) &&& (1431655765 : Int32))) (nI 2)) &&& (858993459 : Int32))) (nI 4))) &&& (252645135 : Int32)))] rfl (by decide) ?_
  refine kg_iload_n hC d_JI_bitCount_34 0 rfl ?_
  refine kg_iload_n hC d_JI_bitCount_35 0 rfl ?_
  refine kg_bipush hC d_JI_bitCount_36 kn_b_8 ?_
  refine kg_iushr hC d_JI_bitCount_38 ?_
  refine kg_iadd hC d_JI_bitCount_39 ?_
  refine kg_istore_n hC d_JI_bitCount_40 [(0, .int ((((((x - ((kc_ushr x (nI 1)) &&& (1431655765 : Int32))) &&& (858993459 : Int32)) + ((kc_ushr (x - ((kc_ushr x (nI 1)) &&& (1431655765 : Int32))) (nI 2)) &&& (858993459 : Int32))) + (kc_ushr (((x - ((kc_ushr x (nI 1)) &&& (1431655765 : Int32))) &&& (858993459 : Int32)) + ((kc_ushr (x - ((kc_ushr x (nI 1)) &&& (1431655765 : Int32))) (nI 2)) &&& (858993459 : Int32))) (nI 4))) &&& (252645135 : Int32)) + (kc_ushr (((((x - ((kc_ushr x (nI 1)) &&& (1431655765 : Int32))) &&& (858993459 : Int32)) + ((kc_ushr (x - ((kc_ushr x (nI 1)) &&& (1431655765 : Int32))) (nI 2)) &&& (858993459 : Int32))) + (kc_ushr (((x - ((kc_ushr x (nI 1)) &&& (1431655765 : Int32))) &&& (858993459 : Int32)) + ((kc_ushr (x - ((kc_ushr x (nI 1)) &&& (1431655765 : Int32))) (nI 2)) &&& (858993459 : Int32))) (nI 4))) &&& (252645135 : Int32)) (nI 8))))] rfl (by decide) ?_
  refine kg_at (pc' := 41) rfl ?_
  refine kg_iload_n hC d_JI_bitCount_41 0 rfl ?_
  refine kg_iload_n hC d_JI_bitCount_42 0 rfl ?_
  refine kg_bipush hC d_JI_bitCount_43 kn_b_16 ?_
  refine kg_iushr hC d_JI_bitCount_45 ?_
  refine kg_iadd hC d_JI_bitCount_46 ?_
  refine kg_istore_n hC d_JI_bitCount_47 [(0, .int (((((((x - ((kc_ushr x (nI 1)) &&& (1431655765 : Int32))) &&& (858993459 : Int32)) + ((kc_ushr (x - ((kc_ushr x (nI 1)) &&& (1431655765 : Int32))) (nI 2)) &&& (858993459 : Int32))) + (kc_ushr (((x - ((kc_ushr x (nI 1)) &&& (1431655765 : Int32))) &&& (858993459 : Int32)) + ((kc_ushr (x - ((kc_ushr x (nI 1)) &&& (1431655765 : Int32))) (nI 2)) &&& (858993459 : Int32))) (nI 4))) &&& (252645135 : Int32)) + (kc_ushr (((((x - ((kc_ushr x (nI 1)) &&& (1431655765 : Int32))) &&& (858993459 : Int32)) + ((kc_ushr (x - ((kc_ushr x (nI 1)) &&& (1431655765 : Int32))) (nI 2)) &&& (858993459 : Int32))) + (kc_ushr (((x - ((kc_ushr x (nI 1)) &&& (1431655765 : Int32))) &&& (858993459 : Int32)) + ((kc_ushr (x - ((kc_ushr x (nI 1)) &&& (1431655765 : Int32))) (nI 2)) &&& (858993459 : Int32))) (nI 4))) &&& (252645135 : Int32)) (nI 8))) + (kc_ushr ((((((x - ((kc_ushr x (nI 1)) &&& (1431655765 : Int32))) &&& (858993459 : Int32)) + ((kc_ushr (x - ((kc_ushr x (nI 1)) &&& (1431655765 : Int32))) (nI 2)) &&& (858993459 : Int32))) + (kc_ushr (((x - ((kc_ushr x (nI 1)) &&& (1431655765 : Int32))) &&& (858993459 : Int32)) + ((kc_ushr (x - ((kc_ushr x (nI 1)) &&& (1431655765 : Int32))) (nI 2)) &&& (858993459 : Int32))) (nI 4))) &&& (252645135 : Int32)) + (kc_ushr (((((x - ((kc_ushr x (nI 1)) &&& (1431655765 : Int32))) &&& (858993459 : Int32)) + ((kc_ushr (x - ((kc_ushr x (nI 1)) &&& (1431655765 : Int32))) (nI 2)) &&& (858993459 : Int32))) + (kc_ushr (((x - ((kc_ushr x (nI 1)) &&& (1431655765 : Int32))) &&& (858993459 : Int32)) + ((kc_ushr (x - ((kc_ushr x (nI 1)) &&& (1431655765 : Int32))) (nI 2)) &&& (858993459 : Int32))) (nI 4))) &&& (252645135 : Int32)) (nI 8))) (nI 16))))] rfl (by decide) ?_
  refine kg_iload_n hC d_JI_bitCount_48 0 rfl ?_
  refine kg_bipush hC d_JI_bitCount_49 kn_b_63 ?_
  refine kg_at (pc' := 51) rfl ?_
  refine kg_iand hC d_JI_bitCount_51 ?_
  exact kg_iret hC d_JI_bitCount_52 (by rw [kp_JI_bitCount]) rfl
def kp_JM_floorMod (x : Int32) (y : Int32) : Int32 := if 0 ≤ (x ^^^ y) then (kc_rem x y) else (if (kc_rem x y) = 0 then (kc_rem x y) else ((kc_rem x y) + y))
set_option maxHeartbeats 4000000 in
set_option maxRecDepth 100000 in
theorem kk_JM_floorMod (l : Launch) {V : kc_V} (hV : kc_G V) (σ : kc_Sg) (x : Int32) (y : Int32) (hy : ¬ y = 0) : kc_Met l y_JM_floorMod b_JM_floorMod 3 (some .int) (kc_rm 1) V [.int x, .int y] σ (some (.int (kp_JM_floorMod x y))) σ := by
  refine kc_ofF (by decide +kernel) (Nat.le_of_ble_eq_true rfl) hV.ok (fun C _ hC => ?_)
  show kc_Go C V 3 (0, 0) (kc_E C V (some (.int (kp_JM_floorMod x y))) σ) σ 0 [(0, .int x), (1, .int y)] []
  refine kg_iload_n hC d_JM_floorMod_0 0 rfl ?_
  refine kg_iload_n hC d_JM_floorMod_1 1 rfl ?_
  refine kg_irem hC d_JM_floorMod_2 hy ?_
  refine kg_istore_n hC d_JM_floorMod_3 [(2, .int (kc_rem x y)), (0, .int x), (1, .int y)] rfl (by decide) ?_
  refine kg_iload_n hC d_JM_floorMod_4 1 rfl ?_
  refine kg_iload_n hC d_JM_floorMod_5 2 rfl ?_
  refine kg_ixor hC d_JM_floorMod_6 ?_
  refine kg_if_ge hC d_JM_floorMod_7 (tgt := 18) rfl (fun h7 => ?_) (fun h7 => ?_)
  · refine kg_iload_n hC d_JM_floorMod_18 0 rfl ?_
    exact kg_iret hC d_JM_floorMod_19 (by rw [kp_JM_floorMod, if_pos h7]) rfl
  · refine kg_iload_n hC d_JM_floorMod_10 0 rfl ?_
    refine kg_if_eq hC d_JM_floorMod_11 (tgt := 18) rfl (fun h11 => ?_) (fun h11 => ?_)
    · refine kg_iload_n hC d_JM_floorMod_18 0 rfl ?_
      exact kg_iret hC d_JM_floorMod_19 (by rw [kp_JM_floorMod, if_neg h7, if_pos h11]) rfl
    · refine kg_iload_n hC d_JM_floorMod_14 0 rfl ?_
      refine kg_iload_n hC d_JM_floorMod_15 2 rfl ?_
      refine kg_iadd hC d_JM_floorMod_16 ?_
      exact kg_iret hC d_JM_floorMod_17 (by rw [kp_JM_floorMod, if_neg h7, if_neg h11]) rfl
def kp_pow (m : Int64) : Nat → Int32 → Int64 → Int64 → Int64
  | 0, _, r, _ => r
  | n + 1, k, r, q => if k ≤ 0 then r else kp_pow m n (kc_shr k (nI 1)) (if k &&& nI 1 = 0 then r else kc_lrem (r * q) m) (kc_lrem (q * q) m)
def kp_G_power (b e m : Int32) : Int32 := Int64.toInt32 (kp_pow (Int32.toInt64 m) 32 e (Int32.toInt64 (kc_rem (nI 1) m)) (Int32.toInt64 (kc_rem b m)))
set_option maxHeartbeats 4000000 in
set_option maxRecDepth 100000 in
theorem kk_G_power (l : Launch) {V : kc_V} (hV : kc_G V) (σ : kc_Sg) (b : Int32) (e : Int32) (m : Int32) (hm : ¬ m = 0) : kc_Met l y_G_power b_G_power 8 (some .int) (kc_rm 1) V [.int b, .int e, .int m] σ (some (.int (kp_G_power b e m))) σ := by
  refine kc_of (by decide) (Nat.le_of_ble_eq_true rfl) hV.ok (fun C _ hC => ?_)
  have hl := kn_l0 hm
  have key : ∀ (n : Nat) (k : Int32) (r q : Int64), k.toInt < 2 ^ n → Int64.toInt32 (kp_pow (Int32.toInt64 m) n k r q) = kp_G_power b e m → kc_Go C V 8 (0, 0) (kc_E C V (some (.int (kp_G_power b e m))) σ) σ 14 [(7, .int k), (5, .long q), (3, .long r), (0, .int b), (1, .int e), (2, .int m)] [] := by
    intro n
    induction n with
    | zero =>
      intro k r q hk hr
      refine kg_iload hC d_G_power_14 0 rfl ?_
      refine kg_if_le hC d_G_power_16 (tgt := 53) rfl (fun _ => ?_) (fun q => absurd (kn_le0 hk) q)
      refine kg_lload_n hC d_G_power_53 2 rfl ?_
      refine kg_l2i hC d_G_power_54 ?_
      exact kg_iret hC d_G_power_55 hr rfl
    | succ n ih =>
      intro k r q hk hr
      refine kg_iload hC d_G_power_14 0 rfl ?_
      refine kg_if_le hC d_G_power_16 (tgt := 53) rfl (fun h16 => ?_) (fun h16 => ?_)
      · refine kg_lload_n hC d_G_power_53 2 rfl ?_
        refine kg_l2i hC d_G_power_54 ?_
        exact kg_iret hC d_G_power_55 (by rw [kp_pow, if_pos h16] at hr; exact hr) rfl
      · refine kg_iload hC d_G_power_19 0 rfl ?_
        refine kg_iconst hC d_G_power_21 kn_i_1 ?_
        refine kg_iand hC d_G_power_22 ?_
        refine kg_if_eq hC d_G_power_23 (tgt := 34) rfl (fun h23 => ?_) (fun h23 => ?_)
        · refine kg_lload hC d_G_power_34 1 rfl ?_
          refine kg_lload hC d_G_power_36 1 rfl ?_
          refine kg_lmul hC d_G_power_38 ?_
          refine kg_iload_n hC d_G_power_39 5 rfl ?_
          refine kg_i2l hC d_G_power_40 ?_
          refine kg_lrem hC d_G_power_41 hl ?_
          refine kg_lstore hC d_G_power_42 [(5, .long (kc_lrem (q * q) (Int32.toInt64 m))), (7, .int k), (3, .long r), (0, .int b), (1, .int e), (2, .int m)] rfl (by decide) ?_
          refine kg_iload hC d_G_power_44 1 rfl ?_
          refine kg_at (pc' := 46) rfl ?_
          refine kg_iconst hC d_G_power_46 kn_i_1 ?_
          refine kg_ishr hC d_G_power_47 ?_
          refine kg_istore hC d_G_power_48 [(7, .int (kc_shr k (nI 1))), (5, .long (kc_lrem (q * q) (Int32.toInt64 m))), (3, .long r), (0, .int b), (1, .int e), (2, .int m)] rfl (by decide) ?_
          refine kg_goto hC d_G_power_50 (tgt := 14) rfl ?_
          exact ih _ _ _ (kn_shr1 hk) (by rw [kp_pow, if_neg h16, if_pos h23] at hr; exact hr)
        · refine kg_lload_n hC d_G_power_26 2 rfl ?_
          refine kg_lload hC d_G_power_27 1 rfl ?_
          refine kg_lmul hC d_G_power_29 ?_
          refine kg_iload_n hC d_G_power_30 5 rfl ?_
          refine kg_i2l hC d_G_power_31 ?_
          refine kg_lrem hC d_G_power_32 hl ?_
          refine kg_lstore_n hC d_G_power_33 [(3, .long (kc_lrem (r * q) (Int32.toInt64 m))), (7, .int k), (5, .long q), (0, .int b), (1, .int e), (2, .int m)] rfl (by decide) ?_
          refine kg_lload hC d_G_power_34 2 rfl ?_
          refine kg_at (pc' := 36) rfl ?_
          refine kg_lload hC d_G_power_36 2 rfl ?_
          refine kg_lmul hC d_G_power_38 ?_
          refine kg_iload_n hC d_G_power_39 5 rfl ?_
          refine kg_i2l hC d_G_power_40 ?_
          refine kg_lrem hC d_G_power_41 hl ?_
          refine kg_lstore hC d_G_power_42 [(5, .long (kc_lrem (q * q) (Int32.toInt64 m))), (3, .long (kc_lrem (r * q) (Int32.toInt64 m))), (7, .int k), (0, .int b), (1, .int e), (2, .int m)] rfl (by decide) ?_
          refine kg_iload hC d_G_power_44 2 rfl ?_
          refine kg_iconst hC d_G_power_46 kn_i_1 ?_
          refine kg_at (pc' := 47) rfl ?_
          refine kg_ishr hC d_G_power_47 ?_
          refine kg_istore hC d_G_power_48 [(7, .int (kc_shr k (nI 1))), (5, .long (kc_lrem (q * q) (Int32.toInt64 m))), (3, .long (kc_lrem (r * q) (Int32.toInt64 m))), (0, .int b), (1, .int e), (2, .int m)] rfl (by decide) ?_
          refine kg_goto hC d_G_power_50 (tgt := 14) rfl ?_
          exact ih _ _ _ (kn_shr1 hk) (by rw [kp_pow, if_neg h16, if_neg h23] at hr; exact hr)
  show kc_Go C V 8 (0, 0) (kc_E C V (some (.int (kp_G_power b e m))) σ) σ 0 [(0, .int b), (1, .int e), (2, .int m)] []
  refine kg_iconst hC d_G_power_0 kn_i_1 ?_
  refine kg_iload_n hC d_G_power_1 2 rfl ?_
  refine kg_irem hC d_G_power_2 hm ?_
  refine kg_i2l hC d_G_power_3 ?_
  refine kg_lstore_n hC d_G_power_4 [(3, .long (Int32.toInt64 (kc_rem (nI 1) m))), (0, .int b), (1, .int e), (2, .int m)] rfl (by decide) ?_
  refine kg_iload_n hC d_G_power_5 1 rfl ?_
  refine kg_iload_n hC d_G_power_6 3 rfl ?_
  refine kg_irem hC d_G_power_7 hm ?_
  refine kg_at (pc' := 8) rfl ?_
  refine kg_i2l hC d_G_power_8 ?_
  refine kg_lstore hC d_G_power_9 [(5, .long (Int32.toInt64 (kc_rem b m))), (3, .long (Int32.toInt64 (kc_rem (nI 1) m))), (0, .int b), (1, .int e), (2, .int m)] rfl (by decide) ?_
  refine kg_iload_n hC d_G_power_11 3 rfl ?_
  refine kg_istore hC d_G_power_12 [(7, .int e), (5, .long (Int32.toInt64 (kc_rem b m))), (3, .long (Int32.toInt64 (kc_rem (nI 1) m))), (0, .int b), (1, .int e), (2, .int m)] rfl (by decide) ?_
  exact key 32 _ _ _ kn_top rfl
