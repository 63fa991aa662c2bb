theorem kn_inc1 (i : Nat) : nI i + Int32.ofInt 1 = nI (i + 1) := by
  rw [show Int32.ofInt 1 = (1 : Int32) by decide +kernel, ← nI_succ]
theorem kn_inc6 (i : Nat) : nI i + Int32.ofInt 6 = nI (i + 6) := by
  rw [show Int32.ofInt 6 = nI 6 by decide +kernel, nI_add]
theorem kn_z0 : narrow .boolean (.int (nI 0)) = .int (nI 0) := rfl
theorem kn_z1 : narrow .boolean (.int (nI 1)) = .int (nI 1) := rfl
theorem kn_zb {x : Int32} (h : x = nI 0 ∨ x = nI 1) : narrow .boolean (.int x) = .int x := by
  rcases h with rfl | rfl
  · exact kn_z0
  · exact kn_z1
theorem kn_l_0 : Int64.ofNat ((0 : Fin 2) : Nat) = lN 0 := rfl
theorem kn_l_1 : Int64.ofNat ((1 : Fin 2) : Nat) = lN 1 := rfl
theorem kn_l0 {x : Int32} (h : ¬ x = 0) : ¬ x.toInt64 = 0 := by
  intro q
  apply h
  have h1 := congrArg Int64.toInt q
  rw [Int32.toInt_toInt64] at h1
  exact Int32.toInt_inj.mp h1
theorem kn_ne0 {a : Nat} {x : Int32} (h0 : 0 < a) (ha : a < 2 ^ 31) (h : ¬ x < nI a) : ¬ x = 0 := by
  intro q
  subst q
  apply h
  rw [← nI_0]
  exact nI_lt h0 ha
theorem kn_le0 {x : Int32} (h : x.toInt < 2 ^ 0) : x ≤ 0 := by
  rw [Int32.le_iff_toInt_le, Int32.toInt_zero]
  omega
theorem kn_shr1 {x : Int32} {n : Nat} (h : x.toInt < 2 ^ (n + 1)) : (kc_shr x (nI 1)).toInt < 2 ^ n := by
  unfold kc_shr
  rw [pk_shr x (nI 1 &&& 31) 1 (by decide +kernel), Int.shiftRight_eq_div_pow]
  rw [Int.pow_succ] at h
  omega
theorem kn_top {x : Int32} : x.toInt < 2 ^ 32 := by
  have := Int32.toInt_lt x
  omega
theorem kn_gt0 {p q : Int32} (h : ¬ q < nI 11) (h2 : ¬ p ≤ q) : ¬ p = 0 := by
  intro z
  subst z
  rw [Int32.lt_iff_toInt_lt, nI_toInt (by decide)] at h
  rw [Int32.le_iff_toInt_le, Int32.toInt_zero] at h2
  omega
theorem kn_dec {i : Nat} (h : i < 4) : nI 3 - nI i + Int32.ofInt (-1) = nI 3 - nI (i + 1) := by
  rcases (show i = 0 ∨ i = 1 ∨ i = 2 ∨ i = 3 by omega) with rfl | rfl | rfl | rfl <;> decide +kernel
theorem kn_dn {i : Nat} (h : i < 4) : ¬ (nI 3 - nI i < 0) := by
  rcases (show i = 0 ∨ i = 1 ∨ i = 2 ∨ i = 3 by omega) with rfl | rfl | rfl | rfl <;> decide +kernel
theorem kn_incx (x : Int32) : x + Int32.ofInt 1 = x + nI 1 := by
  rw [show Int32.ofInt 1 = nI 1 by decide +kernel]
theorem kn_b_6 : (Int8.ofInt (6)).toInt32 = nI 6 := by decide +kernel
theorem kn_b_7 : (Int8.ofInt (7)).toInt32 = nI 7 := by decide +kernel
theorem kn_b_8 : (Int8.ofInt (8)).toInt32 = nI 8 := by decide +kernel
theorem kn_b_9 : (Int8.ofInt (9)).toInt32 = nI 9 := by decide +kernel
theorem kn_b_11 : (Int8.ofInt (11)).toInt32 = nI 11 := by decide +kernel
theorem kn_b_16 : (Int8.ofInt (16)).toInt32 = nI 16 := by decide +kernel
theorem kn_b_63 : (Int8.ofInt (63)).toInt32 = nI 63 := by decide +kernel
theorem kn_b_64 : (Int8.ofInt (64)).toInt32 = nI 64 := by decide +kernel
theorem kn_b_127 : (Int8.ofInt (127)).toInt32 = nI 127 := by decide +kernel
theorem kn_i_m1 : Int32.ofInt (-1) = (-1 : Int32) := by decide +kernel
theorem kn_i_0 : Int32.ofInt (0) = nI 0 := by decide +kernel
theorem kn_i_1 : Int32.ofInt (1) = nI 1 := by decide +kernel
theorem kn_i_2 : Int32.ofInt (2) = nI 2 := by decide +kernel
theorem kn_i_3 : Int32.ofInt (3) = nI 3 := by decide +kernel
theorem kn_i_4 : Int32.ofInt (4) = nI 4 := by decide +kernel
theorem kn_i_5 : Int32.ofInt (5) = nI 5 := by decide +kernel
theorem kn_s_250 : (Int16.ofInt (250)).toInt32 = nI 250 := by decide +kernel
theorem kn_s_32749 : (Int16.ofInt (32749)).toInt32 = nI 32749 := by decide +kernel
theorem cal_G_isGroup : kc_cal y_G_isGroup b_G_isGroup 3 ((some FieldType.boolean)) 3 := ⟨tw_124, tw_2, by decide +kernel⟩
theorem cal_G_power : kc_cal y_G_power b_G_power 8 ((some FieldType.int)) 3 := ⟨tw_127, tw_2, by decide +kernel⟩
theorem cal_G_isPrime : kc_cal y_G_isPrime b_G_isPrime 2 ((some FieldType.boolean)) 1 := ⟨tw_130, tw_2, by decide +kernel⟩
theorem cal_G_become : kc_cal y_G_become b_G_become 4 none 3 := ⟨tw_199, tw_2, by decide +kernel⟩
theorem cal_B_empty : kc_cal y_B_empty b_B_empty 1 none 0 := ⟨tw_203, tw_3, by decide +kernel⟩
theorem cal_V_begin : kc_cal y_V_begin b_V_begin 1 none 0 := ⟨tw_207, tw_4, by decide +kernel⟩
theorem cal_JA_fill : kc_cal y_JA_fill b_JA_fill 4 none 2 := ⟨tw_210, tw_10, by decide +kernel⟩
theorem cal_G_stands : kc_cal y_G_stands b_G_stands 1 ((some FieldType.boolean)) 0 := ⟨tw_223, tw_2, by decide +kernel⟩
theorem cal_G_isNumber : kc_cal y_G_isNumber b_G_isNumber 2 ((some FieldType.boolean)) 1 := ⟨tw_242, tw_2, by decide +kernel⟩
theorem cal_G_areNumbers : kc_cal y_G_areNumbers b_G_areNumbers 4 ((some FieldType.boolean)) 3 := ⟨tw_246, tw_2, by decide +kernel⟩
theorem cal_K_writeRow : kc_cal y_K_writeRow b_K_writeRow 5 none 5 := ⟨tw_250, tw_1, by decide +kernel⟩
theorem cal_G_commitTo : kc_cal y_G_commitTo b_G_commitTo 4 none 2 := ⟨tw_254, tw_2, by decide +kernel⟩
theorem cal_G_valueAt : kc_cal y_G_valueAt b_G_valueAt 5 ((some FieldType.int)) 2 := ⟨tw_258, tw_2, by decide +kernel⟩
theorem cal_G_multiplyNumbers : kc_cal y_G_multiplyNumbers b_G_multiplyNumbers 3 ((some FieldType.int)) 2 := ⟨tw_262, tw_2, by decide +kernel⟩
theorem cal_G_addNumbers : kc_cal y_G_addNumbers b_G_addNumbers 3 ((some FieldType.int)) 2 := ⟨tw_266, tw_2, by decide +kernel⟩
theorem cal_V_hasDealt : kc_cal y_V_hasDealt b_V_hasDealt 2 ((some FieldType.boolean)) 1 := ⟨tw_301, tw_4, by decide +kernel⟩
theorem cal_K_isAmong : kc_cal y_K_isAmong b_K_isAmong 2 ((some FieldType.boolean)) 2 := ⟨tw_304, tw_1, by decide +kernel⟩
theorem cal_K_bit : kc_cal y_K_bit b_K_bit 1 ((some FieldType.int)) 1 := ⟨tw_307, tw_1, by decide +kernel⟩
theorem cal_V_isOneTooMany : kc_cal y_V_isOneTooMany b_V_isOneTooMany 3 ((some FieldType.boolean)) 2 := ⟨tw_311, tw_4, by decide +kernel⟩
theorem cal_V_faulty : kc_cal y_V_faulty b_V_faulty 3 ((some FieldType.int)) 0 := ⟨tw_315, tw_4, by decide +kernel⟩
theorem cal_JI_bitCount : kc_cal y_JI_bitCount b_JI_bitCount 1 ((some FieldType.int)) 1 := ⟨tw_319, tw_13, by decide +kernel⟩
theorem cal_V_turn : kc_cal y_V_turn b_V_turn 3 none 2 := ⟨tw_341, tw_4, by decide +kernel⟩
theorem cal_B_room : kc_cal y_B_room b_B_room 1 ((some FieldType.int)) 0 := ⟨tw_352, tw_3, by decide +kernel⟩
theorem cal_V_isSilent : kc_cal y_V_isSilent b_V_isSilent 2 ((some FieldType.boolean)) 1 := ⟨tw_356, tw_4, by decide +kernel⟩
theorem cal_V_passOver : kc_cal y_V_passOver b_V_passOver 2 none 1 := ⟨tw_360, tw_4, by decide +kernel⟩
theorem cal_V_sendOut : kc_cal y_V_sendOut b_V_sendOut 7 none 4 := ⟨tw_364, tw_4, by decide +kernel⟩
theorem cal_V_rightShare : kc_cal y_V_rightShare b_V_rightShare 3 ((some FieldType.int)) 2 := ⟨tw_370, tw_4, by decide +kernel⟩
theorem cal_V_isCheated : kc_cal y_V_isCheated b_V_isCheated 4 ((some FieldType.boolean)) 2 := ⟨tw_375, tw_4, by decide +kernel⟩
theorem cal_V_commitmentsOf : kc_cal y_V_commitmentsOf b_V_commitmentsOf 2 ((some (FieldType.array FieldType.int))) 1 := ⟨tw_380, tw_4, by decide +kernel⟩
theorem cal_B_addDealing : kc_cal y_B_addDealing b_B_addDealing 5 none 3 := ⟨tw_384, tw_3, by decide +kernel⟩
theorem cal_B_add : kc_cal y_B_add b_B_add 8 none 5 := ⟨tw_388, tw_3, by decide +kernel⟩
theorem cal_V_accusedBy : kc_cal y_V_accusedBy b_V_accusedBy 4 ((some FieldType.int)) 1 := ⟨tw_402, tw_4, by decide +kernel⟩
theorem cal_V_objectsTo : kc_cal y_V_objectsTo b_V_objectsTo 3 ((some FieldType.boolean)) 2 := ⟨tw_406, tw_4, by decide +kernel⟩
theorem cal_G_agree : kc_cal y_G_agree b_G_agree 4 ((some FieldType.boolean)) 3 := ⟨tw_410, tw_2, by decide +kernel⟩
theorem cal_G_elementAt : kc_cal y_G_elementAt b_G_elementAt 6 ((some FieldType.int)) 2 := ⟨tw_414, tw_2, by decide +kernel⟩
theorem cal_G_multiply : kc_cal y_G_multiply b_G_multiply 3 ((some FieldType.int)) 2 := ⟨tw_418, tw_2, by decide +kernel⟩
theorem cal_V_complain : kc_cal y_V_complain b_V_complain 3 none 2 := ⟨tw_424, tw_4, by decide +kernel⟩
theorem cal_V_dealers : kc_cal y_V_dealers b_V_dealers 1 ((some FieldType.int)) 0 := ⟨tw_436, tw_4, by decide +kernel⟩
theorem cal_V_shownBy : kc_cal y_V_shownBy b_V_shownBy 5 ((some FieldType.int)) 2 := ⟨tw_440, tw_4, by decide +kernel⟩
theorem cal_V_settle : kc_cal y_V_settle b_V_settle 5 ((some FieldType.boolean)) 3 := ⟨tw_444, tw_4, by decide +kernel⟩
theorem cal_V_accepted : kc_cal y_V_accepted b_V_accepted 3 ((some FieldType.int)) 0 := ⟨tw_455, tw_4, by decide +kernel⟩
theorem cal_K_takeOver : kc_cal y_K_takeOver b_K_takeOver 4 none 1 := ⟨tw_459, tw_1, by decide +kernel⟩
theorem cal_K_isWiped : kc_cal y_K_isWiped b_K_isWiped 2 ((some FieldType.boolean)) 1 := ⟨tw_463, tw_1, by decide +kernel⟩
theorem cal_V_hadFrom : kc_cal y_V_hadFrom b_V_hadFrom 3 ((some FieldType.int)) 2 := ⟨tw_467, tw_4, by decide +kernel⟩
theorem cal_K_sound : kc_cal y_K_sound b_K_sound 3 ((some FieldType.int)) 0 := ⟨tw_487, tw_1, by decide +kernel⟩
theorem cal_K_isSound : kc_cal y_K_isSound b_K_isSound 2 ((some FieldType.boolean)) 1 := ⟨tw_491, tw_1, by decide +kernel⟩
theorem cal_K_leastFour : kc_cal y_K_leastFour b_K_leastFour 3 ((some FieldType.int)) 1 := ⟨tw_495, tw_1, by decide +kernel⟩
theorem cal_G_interpolate : kc_cal y_G_interpolate b_G_interpolate 6 ((some FieldType.int)) 3 := ⟨tw_499, tw_2, by decide +kernel⟩
theorem cal_G_weight : kc_cal y_G_weight b_G_weight 7 ((some FieldType.int)) 3 := ⟨tw_504, tw_2, by decide +kernel⟩
theorem cal_JM_floorMod : kc_cal y_JM_floorMod b_JM_floorMod 3 ((some FieldType.int)) 2 := ⟨tw_507, tw_16, by decide +kernel⟩
theorem cal_K_wiped : kc_cal y_K_wiped b_K_wiped 3 ((some FieldType.int)) 0 := ⟨tw_563, tw_1, by decide +kernel⟩
theorem cal_B_size : kc_cal y_B_size b_B_size 1 ((some FieldType.int)) 0 := ⟨tw_574, tw_3, by decide +kernel⟩
theorem cal_B_read : kc_cal y_B_read b_B_read 3 ((some FieldType.int)) 2 := ⟨tw_578, tw_3, by decide +kernel⟩
theorem cal_V_complaintCount : kc_cal y_V_complaintCount b_V_complaintCount 1 ((some FieldType.int)) 0 := ⟨tw_589, tw_4, by decide +kernel⟩
theorem cal_V_countAll : kc_cal y_V_countAll b_V_countAll 3 ((some FieldType.int)) 1 := ⟨tw_592, tw_4, by decide +kernel⟩
theorem cal_V_settledCount : kc_cal y_V_settledCount b_V_settledCount 1 ((some FieldType.int)) 0 := ⟨tw_596, tw_4, by decide +kernel⟩
theorem cal_M_thrown : kc_cal y_M_thrown b_M_thrown 1 ((some FieldType.int)) 0 := ⟨tw_663, tw_5, by decide +kernel⟩
theorem cal_M_group : kc_cal y_M_group b_M_group 6 none 3 := ⟨tw_667, tw_5, by decide +kernel⟩
theorem cal_M_prime : kc_cal y_M_prime b_M_prime 2 ((some FieldType.boolean)) 1 := ⟨tw_670, tw_5, by decide +kernel⟩
theorem cal_M_power : kc_cal y_M_power b_M_power 8 ((some FieldType.int)) 2 := ⟨tw_675, tw_5, by decide +kernel⟩
theorem cal_M_found : kc_cal y_M_found b_M_found 6 none 4 := ⟨tw_679, tw_5, by decide +kernel⟩
theorem cal_M_noNumber : kc_cal y_M_noNumber b_M_noNumber 2 ((some FieldType.boolean)) 1 := ⟨tw_683, tw_5, by decide +kernel⟩
theorem cal_M_valueAt : kc_cal y_M_valueAt b_M_valueAt 5 ((some FieldType.int)) 2 := ⟨tw_687, tw_5, by decide +kernel⟩
theorem cal_M_newWeek : kc_cal y_M_newWeek b_M_newWeek 2 none 0 := ⟨tw_691, tw_5, by decide +kernel⟩
theorem cal_M_fault : kc_cal y_M_fault b_M_fault 5 none 2 := ⟨tw_695, tw_5, by decide +kernel⟩
theorem cal_M_first : kc_cal y_M_first b_M_first 2 ((some FieldType.int)) 1 := ⟨tw_699, tw_5, by decide +kernel⟩
theorem cal_M_noSeat : kc_cal y_M_noSeat b_M_noSeat 1 ((some FieldType.boolean)) 1 := ⟨tw_702, tw_5, by decide +kernel⟩
theorem cal_M_deal : kc_cal y_M_deal b_M_deal 6 none 4 := ⟨tw_706, tw_5, by decide +kernel⟩
theorem cal_M_put : kc_cal y_M_put b_M_put 6 none 4 := ⟨tw_710, tw_5, by decide +kernel⟩
theorem cal_M_sent : kc_cal y_M_sent b_M_sent 5 ((some FieldType.int)) 2 := ⟨tw_714, tw_5, by decide +kernel⟩
theorem cal_M_complains : kc_cal y_M_complains b_M_complains 3 ((some FieldType.boolean)) 2 := ⟨tw_722, tw_5, by decide +kernel⟩
theorem cal_M_dealer : kc_cal y_M_dealer b_M_dealer 2 ((some FieldType.boolean)) 1 := ⟨tw_726, tw_5, by decide +kernel⟩
theorem cal_M_goodShare : kc_cal y_M_goodShare b_M_goodShare 4 ((some FieldType.boolean)) 3 := ⟨tw_730, tw_5, by decide +kernel⟩
theorem cal_M_timesAt : kc_cal y_M_timesAt b_M_timesAt 8 ((some FieldType.int)) 3 := ⟨tw_734, tw_5, by decide +kernel⟩
theorem cal_M_accepted : kc_cal y_M_accepted b_M_accepted 3 ((some FieldType.boolean)) 1 := ⟨tw_746, tw_5, by decide +kernel⟩
theorem cal_M_wipe : kc_cal y_M_wipe b_M_wipe 2 none 1 := ⟨tw_750, tw_5, by decide +kernel⟩
theorem cal_M_recover : kc_cal y_M_recover b_M_recover 4 ((some FieldType.int)) 1 := ⟨tw_754, tw_5, by decide +kernel⟩
theorem cal_M_fitsSums : kc_cal y_M_fitsSums b_M_fitsSums 2 ((some FieldType.boolean)) 1 := ⟨tw_758, tw_5, by decide +kernel⟩
theorem cal_M_four : kc_cal y_M_four b_M_four 4 ((some FieldType.int)) 1 := ⟨tw_761, tw_5, by decide +kernel⟩
theorem cal_M_interpolate : kc_cal y_M_interpolate b_M_interpolate 7 ((some FieldType.int)) 2 := ⟨tw_765, tw_5, by decide +kernel⟩
theorem cal_M_inverse : kc_cal y_M_inverse b_M_inverse 5 ((some FieldType.int)) 1 := ⟨tw_769, tw_5, by decide +kernel⟩
theorem cal_M_share : kc_cal y_M_share b_M_share 2 ((some FieldType.int)) 1 := ⟨tw_773, tw_5, by decide +kernel⟩
theorem cal_M_fits : kc_cal y_M_fits b_M_fits 2 ((some FieldType.boolean)) 1 := ⟨tw_777, tw_5, by decide +kernel⟩
theorem cal_M_sum : kc_cal y_M_sum b_M_sum 2 ((some FieldType.int)) 1 := ⟨tw_781, tw_5, by decide +kernel⟩
theorem cal_M_element : kc_cal y_M_element b_M_element 2 ((some FieldType.int)) 1 := ⟨tw_785, tw_5, by decide +kernel⟩
theorem cal_M_reconstruct : kc_cal y_M_reconstruct b_M_reconstruct 3 ((some FieldType.int)) 1 := ⟨tw_789, tw_5, by decide +kernel⟩
theorem cal_M_post : kc_cal y_M_post b_M_post 3 ((some FieldType.int)) 2 := ⟨tw_793, tw_5, by decide +kernel⟩
theorem cal_M_about : kc_cal y_M_about b_M_about 5 ((some FieldType.int)) 1 := ⟨tw_797, tw_5, by decide +kernel⟩
