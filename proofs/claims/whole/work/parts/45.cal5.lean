theorem cal_K_init : kc_cal y_K_init b_K_init 1 none 0 := ⟨tw_22, tw_1, by decide +kernel⟩
theorem cal_G_init : kc_cal y_G_init b_G_init 1 none 0 := ⟨tw_30, tw_2, by decide +kernel⟩
theorem cal_B_init : kc_cal y_B_init b_B_init 1 none 0 := ⟨tw_46, tw_3, by decide +kernel⟩
theorem cal_V_init : kc_cal y_V_init b_V_init 2 none 1 := ⟨tw_60, tw_4, by decide +kernel⟩
theorem cal_M_init : kc_cal y_M_init b_M_init 1 none 0 := ⟨tw_602, tw_5, by decide +kernel⟩
theorem kn_b_32 : (Int8.ofInt (32)).toInt32 = nI 32 := by decide +kernel
theorem kn_s_2250 : (Int16.ofInt (2250)).toInt32 = nI 2250 := by decide +kernel
