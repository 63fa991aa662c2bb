def kp_K_isWiped (σ : kc_Sg) (k : Nat) : Int32 := if (σ 4 k) = (-1) then (nI 1) else (nI 0)
set_option maxHeartbeats 4000000 in
set_option maxRecDepth 100000 in
theorem kk_K_isWiped (l : Launch) {V : kc_V} (hV : kc_G V) (σ : kc_Sg) (k : Nat) (hk : k < 8) : kc_Met l y_K_isWiped b_K_isWiped 2 (some .boolean) (kc_rm 1) V [.ref (kc_ad V 0), .int (nI k)] σ (some (.int (kp_K_isWiped σ k))) σ := by
  refine kc_of (by decide) (Nat.le_of_ble_eq_true rfl) hV.ok (fun C _ hC => ?_)
  show kc_Go C V 2 (0, 0) (kc_E C V (some (.int (kp_K_isWiped σ k))) σ) σ 0 [(0, .ref (kc_ad V 0)), (1, .int (nI k))] []
  refine kg_aload_n hC d_K_isWiped_0 0 rfl ?_
  refine kg_getr hC (ko_0 hV) rfl ui_K (j := 3) (by decide) tw_95 rfl d_K_isWiped_1 rfl ?_
  refine kg_iload_n hC d_K_isWiped_4 1 rfl ?_
  refine kg_iald hC (ka_4 hV) (i := k) rfl hk d_K_isWiped_5 ?_
  refine kg_iconst hC d_K_isWiped_6 kn_i_m1 ?_
  refine kg_icmp_ne hC d_K_isWiped_7 (tgt := 14) rfl (fun h7 => ?_) (fun h7 => ?_)
  · refine kg_iconst hC d_K_isWiped_14 kn_i_0 ?_
    exact kg_zret hC d_K_isWiped_15 kn_z0 (by rw [kp_K_isWiped, if_neg h7]) rfl
  · refine kg_iconst hC d_K_isWiped_10 kn_i_1 ?_
    refine kg_goto hC d_K_isWiped_11 (tgt := 15) rfl ?_
    exact kg_zret hC d_K_isWiped_15 kn_z1 (by rw [kp_K_isWiped, if_pos h7]) rfl
theorem kz_K_isWiped (σ : kc_Sg) (k : Nat) : kp_K_isWiped σ k = nI 0 ∨ kp_K_isWiped σ k = nI 1 := by
  unfold kp_K_isWiped
  (repeat' split) <;> first | exact Or.inl rfl | exact Or.inr rfl
def kp_K_isSound (σ : kc_Sg) (k : Nat) : Int32 := if (kp_K_isWiped σ k) = 0 then (if (kp_G_agree σ (nI k) 5 (σ 4 k)) = 0 then (nI 0) else (nI 1)) else (nI 0)
set_option maxHeartbeats 4000000 in
set_option maxRecDepth 100000 in
theorem kk_K_isSound (l : Launch) {V : kc_V} (hV : kc_G V) (σ : kc_Sg) (k : Nat) (hp : ¬ σ 1 0 = 0) (hk : k < 8) : kc_Met l y_K_isSound b_K_isSound 2 (some .boolean) (kc_rm 4) V [.ref (kc_ad V 0), .int (nI k)] σ (some (.int (kp_K_isSound σ k))) σ := by
  refine kc_of (by decide) (Nat.le_of_ble_eq_true rfl) hV.ok (fun C _ hC => ?_)
  show kc_Go C V 2 (0, 0) (kc_E C V (some (.int (kp_K_isSound σ k))) σ) σ 0 [(0, .ref (kc_ad V 0)), (1, .int (nI k))] []
  refine kg_aload_n hC d_K_isSound_0 0 rfl ?_
  refine kg_iload_n hC d_K_isSound_1 1 rfl ?_
  refine kg_virtualI hC (kk_K_isWiped (kc_l C) hV σ k hk) cal_K_isWiped tw_462 ts_K_isWiped tw_460 (ko_0 hV) rfl rfl (by decide) (rest := []) rfl (Nat.le_of_ble_eq_true rfl) d_K_isSound_2 ?_ (by decide)
  refine kg_if_ne hC d_K_isSound_5 (tgt := 33) rfl (fun h5 => ?_) (fun h5 => ?_)
  · refine kg_iconst hC d_K_isSound_33 kn_i_0 ?_
    exact kg_zret hC d_K_isSound_34 kn_z0 (by rw [kp_K_isSound, if_neg h5]) rfl
  · refine kg_aload_n hC d_K_isSound_8 0 rfl ?_
    refine kg_getr hC (ko_0 hV) rfl ui_K (j := 0) (by decide) tw_92 rfl d_K_isSound_9 rfl ?_
    refine kg_iload_n hC d_K_isSound_12 1 rfl ?_
    refine kg_aload_n hC d_K_isSound_13 0 rfl ?_
    refine kg_getr hC (ko_0 hV) rfl ui_K (j := 4) (by decide) tw_96 rfl d_K_isSound_14 rfl ?_
    refine kg_aload_n hC d_K_isSound_17 0 rfl ?_
    refine kg_getr hC (ko_0 hV) rfl ui_K (j := 3) (by decide) tw_95 rfl d_K_isSound_18 rfl ?_
    refine kg_iload_n hC d_K_isSound_21 1 rfl ?_
    refine kg_at (pc' := 22) rfl ?_
    refine kg_iald hC (ka_4 hV) (i := k) rfl hk d_K_isSound_22 ?_
    refine kg_virtualI hC (kk_G_agree (kc_l C) hV σ (nI k) 5 (σ 4 k) hp (ka_5 hV)) cal_G_agree tw_408 tw_409 tw_492 (ko_1 hV) rfl rfl (by decide) (rest := []) rfl (Nat.le_of_ble_eq_true rfl) d_K_isSound_23 ?_ (by decide)
    refine kg_if_eq hC d_K_isSound_26 (tgt := 33) rfl (fun h26 => ?_) (fun h26 => ?_)
    · refine kg_iconst hC d_K_isSound_33 kn_i_0 ?_
      exact kg_zret hC d_K_isSound_34 kn_z0 (by rw [kp_K_isSound, if_pos h5, if_pos h26]) rfl
    · refine kg_iconst hC d_K_isSound_29 kn_i_1 ?_
      refine kg_goto hC d_K_isSound_30 (tgt := 34) rfl ?_
      exact kg_zret hC d_K_isSound_34 kn_z1 (by rw [kp_K_isSound, if_pos h5, if_neg h26]) rfl
theorem kz_K_isSound (σ : kc_Sg) (k : Nat) : kp_K_isSound σ k = nI 0 ∨ kp_K_isSound σ k = nI 1 := by
  unfold kp_K_isSound
  (repeat' split) <;> first | exact Or.inl rfl | exact Or.inr rfl
def kf_K_wiped_1 (σ : kc_Sg) (i1 : Nat) (a1 : Int32) : Int32 := if (kp_K_isWiped σ i1) = 0 then a1 else (a1 ||| (kp_K_bit (nI i1)))
def kp_K_wiped (σ : kc_Sg) : Int32 := (kc_it (kf_K_wiped_1 σ) 7 1 (nI 0))
set_option maxHeartbeats 4000000 in
set_option maxRecDepth 100000 in
theorem kk_K_wiped (l : Launch) {V : kc_V} (hV : kc_G V) (σ : kc_Sg) : kc_Met l y_K_wiped b_K_wiped 3 (some .int) (kc_rm 2) V [.ref (kc_ad V 0)] σ (some (.int (kp_K_wiped σ))) σ := by
  refine kc_of (by decide) (Nat.le_of_ble_eq_true rfl) hV.ok (fun C _ hC => ?_)
  show kc_Go C V 3 (0, 0) (kc_E C V (some (.int (kp_K_wiped σ))) σ) σ 0 [(0, .ref (kc_ad V 0))] []
  refine kg_iconst hC d_K_wiped_0 kn_i_0 ?_
  refine kg_istore_n hC d_K_wiped_1 [(1, .int (nI 0)), (0, .ref (kc_ad V 0))] rfl (by decide) ?_
  refine kg_iconst hC d_K_wiped_2 kn_i_1 ?_
  refine kg_istore_n hC d_K_wiped_3 [(2, .int (nI 1)), (1, .int (nI 0)), (0, .ref (kc_ad V 0))] rfl (by decide) ?_
  refine kc_loop (fun i1 a1 => kc_Go C V 3 (0, 0) (kc_E C V (some (.int (kp_K_wiped σ))) σ) σ 4 [(2, .int (nI i1)), (1, .int a1), (0, .ref (kc_ad V 0))] []) (kf_K_wiped_1 σ) 1 8 (fun i1 a1 ho1 hi1 hk1 => ?_) 7 1 (nI 0) (Nat.le_refl _) rfl ?_
  · refine kg_iload_n hC d_K_wiped_4 0 rfl ?_
    refine kg_bipush hC d_K_wiped_5 kn_b_7 ?_
    refine kg_icmp_gt hC d_K_wiped_7 (tgt := 31) rfl (fun q => absurd q (nI_nlt (by omega) (by decide))) (fun _ => ?_)
    refine kg_aload_n hC d_K_wiped_10 2 rfl ?_
    refine kg_iload_n hC d_K_wiped_11 0 rfl ?_
    refine kg_virtualI hC (kk_K_isWiped (kc_l C) hV σ i1 (by omega)) cal_K_isWiped tw_462 ts_K_isWiped tw_460 (ko_0 hV) rfl rfl (by decide) (rest := []) rfl (Nat.le_of_ble_eq_true rfl) d_K_wiped_12 ?_ (by decide)
    refine kg_if_eq hC d_K_wiped_15 (tgt := 25) rfl (fun h15 => ?_) (fun h15 => ?_)
    · refine kg_iinc hC d_K_wiped_25 0 rfl (kn_inc1 i1) [(2, .int (nI (i1 + 1))), (1, .int a1), (0, .ref (kc_ad V 0))] rfl (by decide) ?_
      refine kg_goto hC d_K_wiped_28 (tgt := 4) rfl ?_
      exact kg_to (P := fun zz => kc_Go C V 3 (0, 0) (kc_E C V (some (.int (kp_K_wiped σ))) σ) σ 4 [(2, .int (nI (i1 + 1))), (1, .int zz), (0, .ref (kc_ad V 0))] []) (b := a1) (a := (kf_K_wiped_1 σ) i1 a1) (by rw [kf_K_wiped_1, if_pos h15]) hk1
    · refine kg_iload_n hC d_K_wiped_18 1 rfl ?_
      refine kg_iload_n hC d_K_wiped_19 0 rfl ?_
      refine kg_staticI hC (kk_K_bit (kc_l C) hV σ (nI i1)) cal_K_bit tw_306 tw_305 rfl (by decide) (rest := [.int a1]) rfl (Nat.le_of_ble_eq_true rfl) d_K_wiped_20 ?_ (by decide)
      refine kg_ior hC d_K_wiped_23 ?_
      refine kg_istore_n hC d_K_wiped_24 [(1, .int (a1 ||| (kp_K_bit (nI i1)))), (2, .int (nI i1)), (0, .ref (kc_ad V 0))] rfl (by decide) ?_
      refine kg_iinc hC d_K_wiped_25 1 rfl (kn_inc1 i1) [(2, .int (nI (i1 + 1))), (1, .int (a1 ||| (kp_K_bit (nI i1)))), (0, .ref (kc_ad V 0))] rfl (by decide) ?_
      refine kg_goto hC d_K_wiped_28 (tgt := 4) rfl ?_
      exact kg_to (P := fun zz => kc_Go C V 3 (0, 0) (kc_E C V (some (.int (kp_K_wiped σ))) σ) σ 4 [(2, .int (nI (i1 + 1))), (1, .int zz), (0, .ref (kc_ad V 0))] []) (b := (a1 ||| (kp_K_bit (nI i1)))) (a := (kf_K_wiped_1 σ) i1 a1) (by rw [kf_K_wiped_1, if_neg h15]) hk1
  generalize hg1 : (kc_it (kf_K_wiped_1 σ) 7 1 (nI 0)) = τ1
  refine kg_iload_n hC d_K_wiped_4 0 rfl ?_
  refine kg_bipush hC d_K_wiped_5 kn_b_7 ?_
  refine kg_icmp_gt hC d_K_wiped_7 (tgt := 31) rfl (fun _ => ?_) (fun q => absurd (nI_lt (by decide) (by decide)) q)
  refine kg_iload_n hC d_K_wiped_31 1 rfl ?_
  exact kg_iret hC d_K_wiped_32 (by rw [kp_K_wiped, hg1]) rfl
def kf_K_sound_1 (σ : kc_Sg) (i1 : Nat) (a1 : Int32) : Int32 := if (kp_K_isSound σ i1) = 0 then a1 else (a1 ||| (kp_K_bit (nI i1)))
def kp_K_sound (σ : kc_Sg) : Int32 := (kc_it (kf_K_sound_1 σ) 7 1 (nI 0))
set_option maxHeartbeats 4000000 in
set_option maxRecDepth 100000 in
theorem kk_K_sound (l : Launch) {V : kc_V} (hV : kc_G V) (σ : kc_Sg) (hp : ¬ σ 1 0 = 0) : kc_Met l y_K_sound b_K_sound 3 (some .int) (kc_rm 5) V [.ref (kc_ad V 0)] σ (some (.int (kp_K_sound σ))) σ := by
  refine kc_of (by decide) (Nat.le_of_ble_eq_true rfl) hV.ok (fun C _ hC => ?_)
  show kc_Go C V 3 (0, 0) (kc_E C V (some (.int (kp_K_sound σ))) σ) σ 0 [(0, .ref (kc_ad V 0))] []
  refine kg_iconst hC d_K_sound_0 kn_i_0 ?_
  refine kg_istore_n hC d_K_sound_1 [(1, .int (nI 0)), (0, .ref (kc_ad V 0))] rfl (by decide) ?_
  refine kg_iconst hC d_K_sound_2 kn_i_1 ?_
  refine kg_istore_n hC d_K_sound_3 [(2, .int (nI 1)), (1, .int (nI 0)), (0, .ref (kc_ad V 0))] rfl (by decide) ?_
  refine kc_loop (fun i1 a1 => kc_Go C V 3 (0, 0) (kc_E C V (some (.int (kp_K_sound σ))) σ) σ 4 [(2, .int (nI i1)), (1, .int a1), (0, .ref (kc_ad V 0))] []) (kf_K_sound_1 σ) 1 8 (fun i1 a1 ho1 hi1 hk1 => ?_) 7 1 (nI 0) (Nat.le_refl _) rfl ?_
  · refine kg_iload_n hC d_K_sound_4 0 rfl ?_
    refine kg_bipush hC d_K_sound_5 kn_b_7 ?_
    refine kg_icmp_gt hC d_K_sound_7 (tgt := 31) rfl (fun q => absurd q (nI_nlt (by omega) (by decide))) (fun _ => ?_)
    refine kg_aload_n hC d_K_sound_10 2 rfl ?_
    refine kg_iload_n hC d_K_sound_11 0 rfl ?_
    refine kg_virtualI hC (kk_K_isSound (kc_l C) hV σ i1 hp (by omega)) cal_K_isSound tw_490 ts_K_isSound tw_488 (ko_0 hV) rfl rfl (by decide) (rest := []) rfl (Nat.le_of_ble_eq_true rfl) d_K_sound_12 ?_ (by decide)
    refine kg_if_eq hC d_K_sound_15 (tgt := 25) rfl (fun h15 => ?_) (fun h15 => ?_)
    · refine kg_iinc hC d_K_sound_25 0 rfl (kn_inc1 i1) [(2, .int (nI (i1 + 1))), (1, .int a1), (0, .ref (kc_ad V 0))] rfl (by decide) ?_
      refine kg_goto hC d_K_sound_28 (tgt := 4) rfl ?_
      exact kg_to (P := fun zz => kc_Go C V 3 (0, 0) (kc_E C V (some (.int (kp_K_sound σ))) σ) σ 4 [(2, .int (nI (i1 + 1))), (1, .int zz), (0, .ref (kc_ad V 0))] []) (b := a1) (a := (kf_K_sound_1 σ) i1 a1) (by rw [kf_K_sound_1, if_pos h15]) hk1
    · refine kg_iload_n hC d_K_sound_18 1 rfl ?_
      refine kg_iload_n hC d_K_sound_19 0 rfl ?_
      refine kg_staticI hC (kk_K_bit (kc_l C) hV σ (nI i1)) cal_K_bit tw_306 tw_305 rfl (by decide) (rest := [.int a1]) rfl (Nat.le_of_ble_eq_true rfl) d_K_sound_20 ?_ (by decide)
      refine kg_ior hC d_K_sound_23 ?_
      refine kg_istore_n hC d_K_sound_24 [(1, .int (a1 ||| (kp_K_bit (nI i1)))), (2, .int (nI i1)), (0, .ref (kc_ad V 0))] rfl (by decide) ?_
      refine kg_iinc hC d_K_sound_25 1 rfl (kn_inc1 i1) [(2, .int (nI (i1 + 1))), (1, .int (a1 ||| (kp_K_bit (nI i1)))), (0, .ref (kc_ad V 0))] rfl (by decide) ?_
      refine kg_goto hC d_K_sound_28 (tgt := 4) rfl ?_
      exact kg_to (P := fun zz => kc_Go C V 3 (0, 0) (kc_E C V (some (.int (kp_K_sound σ))) σ) σ 4 [(2, .int (nI (i1 + 1))), (1, .int zz), (0, .ref (kc_ad V 0))] []) (b := (a1 ||| (kp_K_bit (nI i1)))) (a := (kf_K_sound_1 σ) i1 a1) (by rw [kf_K_sound_1, if_neg h15]) hk1
  generalize hg1 : (kc_it (kf_K_sound_1 σ) 7 1 (nI 0)) = τ1
  refine kg_iload_n hC d_K_sound_4 0 rfl ?_
  refine kg_bipush hC d_K_sound_5 kn_b_7 ?_
  refine kg_icmp_gt hC d_K_sound_7 (tgt := 31) rfl (fun _ => ?_) (fun q => absurd (nI_lt (by decide) (by decide)) q)
  refine kg_iload_n hC d_K_sound_31 1 rfl ?_
  exact kg_iret hC d_K_sound_32 (by rw [kp_K_sound, hg1]) rfl
def kf_K_leastFour_1 (c : Int32) (i1 : Nat) (a1 : Int32) : Int32 := if (kp_K_isAmong c (nI i1)) = 0 then a1 else (if (nI 4) ≤ (kp_JI_bitCount a1) then a1 else (a1 ||| (kp_K_bit (nI i1))))
def kp_K_leastFour (c : Int32) : Int32 := (kc_it (kf_K_leastFour_1 c) 7 1 (nI 0))
set_option maxHeartbeats 4000000 in
set_option maxRecDepth 100000 in
theorem kk_K_leastFour (l : Launch) {V : kc_V} (hV : kc_G V) (σ : kc_Sg) (c : Int32) : kc_Met l y_K_leastFour b_K_leastFour 3 (some .int) (kc_rm 3) V [.int c] σ (some (.int (kp_K_leastFour c))) σ := by
  refine kc_of (by decide) (Nat.le_of_ble_eq_true rfl) hV.ok (fun C _ hC => ?_)
  show kc_Go C V 3 (0, 0) (kc_E C V (some (.int (kp_K_leastFour c))) σ) σ 0 [(0, .int c)] []
  refine kg_iconst hC d_K_leastFour_0 kn_i_0 ?_
  refine kg_istore_n hC d_K_leastFour_1 [(1, .int (nI 0)), (0, .int c)] rfl (by decide) ?_
  refine kg_iconst hC d_K_leastFour_2 kn_i_1 ?_
  refine kg_istore_n hC d_K_leastFour_3 [(2, .int (nI 1)), (1, .int (nI 0)), (0, .int c)] rfl (by decide) ?_
  refine kc_loop (fun i1 a1 => kc_Go C V 3 (0, 0) (kc_E C V (some (.int (kp_K_leastFour c))) σ) σ 4 [(2, .int (nI i1)), (1, .int a1), (0, .int c)] []) (kf_K_leastFour_1 c) 1 8 (fun i1 a1 ho1 hi1 hk1 => ?_) 7 1 (nI 0) (Nat.le_refl _) rfl ?_
  · refine kg_iload_n hC d_K_leastFour_4 0 rfl ?_
    refine kg_bipush hC d_K_leastFour_5 kn_b_7 ?_
    refine kg_icmp_gt hC d_K_leastFour_7 (tgt := 39) rfl (fun q => absurd q (nI_nlt (by omega) (by decide))) (fun _ => ?_)
    refine kg_iload_n hC d_K_leastFour_10 2 rfl ?_
    refine kg_iload_n hC d_K_leastFour_11 0 rfl ?_
    refine kg_staticI hC (kk_K_isAmong (kc_l C) hV σ c (nI i1)) cal_K_isAmong tw_303 tw_420 rfl (by decide) (rest := []) rfl (Nat.le_of_ble_eq_true rfl) d_K_leastFour_12 ?_ (by decide)
    refine kg_if_eq hC d_K_leastFour_15 (tgt := 33) rfl (fun h15 => ?_) (fun h15 => ?_)
    · refine kg_iinc hC d_K_leastFour_33 0 rfl (kn_inc1 i1) [(2, .int (nI (i1 + 1))), (1, .int a1), (0, .int c)] rfl (by decide) ?_
      refine kg_goto hC d_K_leastFour_36 (tgt := 4) rfl ?_
      exact kg_to (P := fun zz => kc_Go C V 3 (0, 0) (kc_E C V (some (.int (kp_K_leastFour c))) σ) σ 4 [(2, .int (nI (i1 + 1))), (1, .int zz), (0, .int c)] []) (b := a1) (a := (kf_K_leastFour_1 c) i1 a1) (by rw [kf_K_leastFour_1, if_pos h15]) hk1
    · refine kg_iload_n hC d_K_leastFour_18 1 rfl ?_
      refine kg_staticI hC (kk_JI_bitCount (kc_l C) hV σ a1) cal_JI_bitCount tw_318 tw_419 rfl (by decide) (rest := []) rfl (Nat.le_of_ble_eq_true rfl) d_K_leastFour_19 ?_ (by decide)
      refine kg_iconst hC d_K_leastFour_22 kn_i_4 ?_
      refine kg_icmp_ge hC d_K_leastFour_23 (tgt := 33) rfl (fun h23 => ?_) (fun h23 => ?_)
      · refine kg_iinc hC d_K_leastFour_33 0 rfl (kn_inc1 i1) [(2, .int (nI (i1 + 1))), (1, .int a1), (0, .int c)] rfl (by decide) ?_
        refine kg_goto hC d_K_leastFour_36 (tgt := 4) rfl ?_
        exact kg_to (P := fun zz => kc_Go C V 3 (0, 0) (kc_E C V (some (.int (kp_K_leastFour c))) σ) σ 4 [(2, .int (nI (i1 + 1))), (1, .int zz), (0, .int c)] []) (b := a1) (a := (kf_K_leastFour_1 c) i1 a1) (by rw [kf_K_leastFour_1, if_neg h15, if_pos h23]) hk1
      · refine kg_iload_n hC d_K_leastFour_26 1 rfl ?_
        refine kg_iload_n hC d_K_leastFour_27 0 rfl ?_
        refine kg_staticI hC (kk_K_bit (kc_l C) hV σ (nI i1)) cal_K_bit tw_306 tw_305 rfl (by decide) (rest := [.int a1]) rfl (Nat.le_of_ble_eq_true rfl) d_K_leastFour_28 ?_ (by decide)
        refine kg_ior hC d_K_leastFour_31 ?_
        refine kg_istore_n hC d_K_leastFour_32 [(1, .int (a1 ||| (kp_K_bit (nI i1)))), (2, .int (nI i1)), (0, .int c)] rfl (by decide) ?_
        refine kg_iinc hC d_K_leastFour_33 1 rfl (kn_inc1 i1) [(2, .int (nI (i1 + 1))), (1, .int (a1 ||| (kp_K_bit (nI i1)))), (0, .int c)] rfl (by decide) ?_
        refine kg_goto hC d_K_leastFour_36 (tgt := 4) rfl ?_
        exact kg_to (P := fun zz => kc_Go C V 3 (0, 0) (kc_E C V (some (.int (kp_K_leastFour c))) σ) σ 4 [(2, .int (nI (i1 + 1))), (1, .int zz), (0, .int c)] []) (b := (a1 ||| (kp_K_bit (nI i1)))) (a := (kf_K_leastFour_1 c) i1 a1) (by rw [kf_K_leastFour_1, if_neg h15, if_neg h23]) hk1
  generalize hg1 : (kc_it (kf_K_leastFour_1 c) 7 1 (nI 0)) = τ1
  refine kg_iload_n hC d_K_leastFour_4 0 rfl ?_
  refine kg_bipush hC d_K_leastFour_5 kn_b_7 ?_
  refine kg_icmp_gt hC d_K_leastFour_7 (tgt := 39) rfl (fun _ => ?_) (fun q => absurd (nI_lt (by decide) (by decide)) q)
  refine kg_iload_n hC d_K_leastFour_39 1 rfl ?_
  exact kg_iret hC d_K_leastFour_40 (by rw [kp_K_leastFour, hg1]) rfl
def kf_K_takeOver_1 (d : Nat) (i1 : Nat) (a1 : kc_Sg) : kc_Sg := if (kp_K_isWiped a1 i1) = 0 then (kc_up a1 4 i1 (kp_G_addNumbers a1 (a1 4 i1) (kp_V_hadFrom a1 d i1))) else a1
def kf_K_takeOver_2 (d : Nat) (i2 : Nat) (a2 : kc_Sg) : kc_Sg := (kc_up a2 5 i2 (kp_G_multiply a2 (a2 5 i2) (a2 (22 + d) i2)))
def kq_K_takeOver (σ : kc_Sg) (d : Nat) : kc_Sg := (kc_it (kf_K_takeOver_2 d) 4 0 (kc_it (kf_K_takeOver_1 d) 7 1 σ))
set_option maxHeartbeats 4000000 in
set_option maxRecDepth 100000 in
theorem kk_K_takeOver (l : Launch) {V : kc_V} (hV : kc_G V) (σ : kc_Sg) (d : Nat) (hp : ¬ σ 1 0 = 0) (hq : ¬ σ 1 1 = 0) (hd : d < 8) : kc_Met l y_K_takeOver b_K_takeOver 4 none (kc_rm 2) V [.ref (kc_ad V 0), .int (nI d)] σ none (kq_K_takeOver σ d) := by
  refine kc_of (by decide) (Nat.le_of_ble_eq_true rfl) hV.ok (fun C _ hC => ?_)
  show kc_Go C V 4 (0, 0) (kc_E C V none (kq_K_takeOver σ d)) σ 0 [(0, .ref (kc_ad V 0)), (1, .int (nI d))] []
  refine kg_iconst hC d_K_takeOver_0 kn_i_1 ?_
  refine kg_istore_n hC d_K_takeOver_1 [(2, .int (nI 1)), (0, .ref (kc_ad V 0)), (1, .int (nI d))] rfl (by decide) ?_
  refine kc_loop (fun i1 a1 => a1 1 = σ 1 → kc_Go C V 4 (0, 0) (kc_E C V none (kq_K_takeOver σ d)) a1 2 [(2, .int (nI i1)), (0, .ref (kc_ad V 0)), (1, .int (nI d))] []) (kf_K_takeOver_1 d) 1 8 (fun i1 a1 ho1 hi1 hk1 hv1 => ?_) 7 1 σ (Nat.le_refl _) rfl (fun hw1 => ?_) rfl
  · refine kg_iload_n hC d_K_takeOver_2 0 rfl ?_
    refine kg_bipush hC d_K_takeOver_3 kn_b_7 ?_
    refine kg_icmp_gt hC d_K_takeOver_5 (tgt := 50) rfl (fun q => absurd q (nI_nlt (by omega) (by decide))) (fun _ => ?_)
    refine kg_aload_n hC d_K_takeOver_8 1 rfl ?_
    refine kg_iload_n hC d_K_takeOver_9 0 rfl ?_
    refine kg_virtualI hC (kk_K_isWiped (kc_l C) hV a1 i1 (by omega)) cal_K_isWiped tw_462 ts_K_isWiped tw_460 (ko_0 hV) rfl rfl (by decide) (rest := []) rfl (Nat.le_of_ble_eq_true rfl) d_K_takeOver_10 ?_ (by decide)
    refine kg_if_ne hC d_K_takeOver_13 (tgt := 44) rfl (fun h13 => ?_) (fun h13 => ?_)
    · refine kg_iinc hC d_K_takeOver_44 0 rfl (kn_inc1 i1) [(2, .int (nI (i1 + 1))), (0, .ref (kc_ad V 0)), (1, .int (nI d))] rfl (by decide) ?_
      refine kg_goto hC d_K_takeOver_47 (tgt := 2) rfl ?_
      exact kg_to (P := fun zz => zz 1 = σ 1 → kc_Go C V 4 (0, 0) (kc_E C V none (kq_K_takeOver σ d)) zz 2 [(2, .int (nI (i1 + 1))), (0, .ref (kc_ad V 0)), (1, .int (nI d))] []) (b := a1) (a := (kf_K_takeOver_1 d) i1 a1) (by rw [kf_K_takeOver_1, if_neg h13]) hk1 hv1
    · refine kg_aload_n hC d_K_takeOver_16 1 rfl ?_
      refine kg_getr hC (ko_0 hV) rfl ui_K (j := 3) (by decide) tw_95 rfl d_K_takeOver_17 rfl ?_
      refine kg_iload_n hC d_K_takeOver_20 0 rfl ?_
      refine kg_aload_n hC d_K_takeOver_21 1 rfl ?_
      refine kg_getr hC (ko_0 hV) rfl ui_K (j := 0) (by decide) tw_92 rfl d_K_takeOver_22 rfl ?_
      refine kg_aload_n hC d_K_takeOver_25 1 rfl ?_
      refine kg_getr hC (ko_0 hV) rfl ui_K (j := 3) (by decide) tw_95 rfl d_K_takeOver_26 rfl ?_
      refine kg_iload_n hC d_K_takeOver_29 0 rfl ?_
      refine kg_at (pc' := 30) rfl ?_
      refine kg_iald hC (ka_4 hV) (i := i1) rfl (by omega) d_K_takeOver_30 ?_
      refine kg_aload_n hC d_K_takeOver_31 1 rfl ?_
      refine kg_getr hC (ko_0 hV) rfl ui_K (j := 2) (by decide) tw_94 rfl d_K_takeOver_32 rfl ?_
      refine kg_iload_n hC d_K_takeOver_35 2 rfl ?_
      refine kg_iload_n hC d_K_takeOver_36 0 rfl ?_
      refine kg_virtualI hC (kk_V_hadFrom (kc_l C) hV a1 d i1 hd (by omega)) cal_V_hadFrom tw_465 tw_466 tw_464 (ko_3 hV) rfl rfl (by decide) (rest := [.int (a1 4 i1), .ref (kc_ad V 1), .int (nI i1), .ref (kc_ad V 4)]) rfl (Nat.le_of_ble_eq_true rfl) d_K_takeOver_37 ?_ (by decide)
      refine kg_virtualI hC (kk_G_addNumbers (kc_l C) hV a1 (a1 4 i1) (kp_V_hadFrom a1 d i1) (by rw [hv1]; exact hq)) cal_G_addNumbers tw_264 tw_265 tw_468 (ko_1 hV) rfl rfl (by decide) (rest := [.int (nI i1), .ref (kc_ad V 4)]) rfl (Nat.le_of_ble_eq_true rfl) d_K_takeOver_40 ?_ (by decide)
      refine kg_iast hC (ka_4 hV) (i := i1) rfl (by omega) d_K_takeOver_43 ?_
      refine kg_at (pc' := 44) rfl ?_
      refine kg_iinc hC d_K_takeOver_44 0 rfl (kn_inc1 i1) [(2, .int (nI (i1 + 1))), (0, .ref (kc_ad V 0)), (1, .int (nI d))] rfl (by decide) ?_
      refine kg_goto hC d_K_takeOver_47 (tgt := 2) rfl ?_
      exact kg_to (P := fun zz => zz 1 = σ 1 → kc_Go C V 4 (0, 0) (kc_E C V none (kq_K_takeOver σ d)) zz 2 [(2, .int (nI (i1 + 1))), (0, .ref (kc_ad V 0)), (1, .int (nI d))] []) (b := (kc_up a1 4 i1 (kp_G_addNumbers a1 (a1 4 i1) (kp_V_hadFrom a1 d i1)))) (a := (kf_K_takeOver_1 d) i1 a1) (by rw [kf_K_takeOver_1, if_pos h13]) hk1 (by rw [kc_up_ne (by omega)]; exact hv1)
  generalize hg1 : (kc_it (kf_K_takeOver_1 d) 7 1 σ) = τ1 at hw1 ⊢
  refine kg_iload_n hC d_K_takeOver_2 0 rfl ?_
  refine kg_bipush hC d_K_takeOver_3 kn_b_7 ?_
  refine kg_icmp_gt hC d_K_takeOver_5 (tgt := 50) rfl (fun _ => ?_) (fun q => absurd (nI_lt (by decide) (by decide)) q)
  refine kg_aload_n hC d_K_takeOver_50 1 rfl ?_
  refine kg_getr hC (ko_0 hV) rfl ui_K (j := 2) (by decide) tw_94 rfl d_K_takeOver_51 rfl ?_
  refine kg_iload_n hC d_K_takeOver_54 2 rfl ?_
  refine kg_virtualI hC (kk_V_commitmentsOf (kc_l C) hV τ1 d hd) cal_V_commitmentsOf tw_378 tw_379 tw_377 (ko_3 hV) rfl rfl (by decide) (rest := []) rfl (Nat.le_of_ble_eq_true rfl) d_K_takeOver_55 ?_ (by decide)
  refine kg_astore_n hC d_K_takeOver_58 [(2, .ref (kc_ad V (22 + d))), (0, .ref (kc_ad V 0)), (1, .int (nI d))] rfl (by decide) ?_
  refine kg_at (pc' := 59) rfl ?_
  refine kg_iconst hC d_K_takeOver_59 kn_i_0 ?_
  refine kg_istore_n hC d_K_takeOver_60 [(3, .int (nI 0)), (2, .ref (kc_ad V (22 + d))), (0, .ref (kc_ad V 0)), (1, .int (nI d))] rfl (by decide) ?_
  refine kc_loop (fun i2 a2 => a2 1 = σ 1 → kc_Go C V 4 (0, 0) (kc_E C V none (kq_K_takeOver σ d)) a2 61 [(3, .int (nI i2)), (2, .ref (kc_ad V (22 + d))), (0, .ref (kc_ad V 0)), (1, .int (nI d))] []) (kf_K_takeOver_2 d) 0 4 (fun i2 a2 ho2 hi2 hk2 hv2 => ?_) 4 0 τ1 (Nat.le_refl _) rfl (fun hw2 => ?_) hw1
  · refine kg_iload_n hC d_K_takeOver_61 0 rfl ?_
    refine kg_iconst hC d_K_takeOver_62 kn_i_4 ?_
    refine kg_icmp_ge hC d_K_takeOver_63 (tgt := 94) rfl (fun q => absurd q (nI_ge (by omega) (by decide))) (fun _ => ?_)
    refine kg_aload_n hC d_K_takeOver_66 2 rfl ?_
    refine kg_getr hC (ko_0 hV) rfl ui_K (j := 4) (by decide) tw_96 rfl d_K_takeOver_67 rfl ?_
    refine kg_iload_n hC d_K_takeOver_70 0 rfl ?_
    refine kg_aload_n hC d_K_takeOver_71 2 rfl ?_
    refine kg_getr hC (ko_0 hV) rfl ui_K (j := 0) (by decide) tw_92 rfl d_K_takeOver_72 rfl ?_
    refine kg_at (pc' := 75) rfl ?_
    refine kg_aload_n hC d_K_takeOver_75 2 rfl ?_
    refine kg_getr hC (ko_0 hV) rfl ui_K (j := 4) (by decide) tw_96 rfl d_K_takeOver_76 rfl ?_
    refine kg_iload_n hC d_K_takeOver_79 0 rfl ?_
    refine kg_iald hC (ka_5 hV) (i := i2) rfl (by omega) d_K_takeOver_80 ?_
    refine kg_aload_n hC d_K_takeOver_81 1 rfl ?_
    refine kg_iload_n hC d_K_takeOver_82 0 rfl ?_
    refine kg_iald hC (ka_22 hV hd) (i := i2) rfl (by omega) d_K_takeOver_83 ?_
    refine kg_virtualI hC (kk_G_multiply (kc_l C) hV a2 (a2 5 i2) (a2 (22 + d) i2) (by rw [hv2]; exact hp)) cal_G_multiply tw_416 tw_417 tw_469 (ko_1 hV) rfl rfl (by decide) (rest := [.int (nI i2), .ref (kc_ad V 5)]) rfl (Nat.le_of_ble_eq_true rfl) d_K_takeOver_84 ?_ (by decide)
    refine kg_at (pc' := 87) rfl ?_
    refine kg_iast hC (ka_5 hV) (i := i2) rfl (by omega) d_K_takeOver_87 ?_
    refine kg_iinc hC d_K_takeOver_88 0 rfl (kn_inc1 i2) [(3, .int (nI (i2 + 1))), (2, .ref (kc_ad V (22 + d))), (0, .ref (kc_ad V 0)), (1, .int (nI d))] rfl (by decide) ?_
    refine kg_goto hC d_K_takeOver_91 (tgt := 61) rfl ?_
    exact kg_to (P := fun zz => zz 1 = σ 1 → kc_Go C V 4 (0, 0) (kc_E C V none (kq_K_takeOver σ d)) zz 61 [(3, .int (nI (i2 + 1))), (2, .ref (kc_ad V (22 + d))), (0, .ref (kc_ad V 0)), (1, .int (nI d))] []) (b := (kc_up a2 5 i2 (kp_G_multiply a2 (a2 5 i2) (a2 (22 + d) i2)))) (a := (kf_K_takeOver_2 d) i2 a2) (by rw [kf_K_takeOver_2]) hk2 (by rw [kc_up_ne (by omega)]; exact hv2)
  generalize hg2 : (kc_it (kf_K_takeOver_2 d) 4 0 τ1) = τ2 at hw2 ⊢
  refine kg_iload_n hC d_K_takeOver_61 0 rfl ?_
  refine kg_iconst hC d_K_takeOver_62 kn_i_4 ?_
  refine kg_icmp_ge hC d_K_takeOver_63 (tgt := 94) rfl (fun _ => ?_) (fun q => absurd (nI_le (by decide) (by decide)) q)
  exact kg_vret hC d_K_takeOver_94 (by rw [kq_K_takeOver, hg1, hg2])
