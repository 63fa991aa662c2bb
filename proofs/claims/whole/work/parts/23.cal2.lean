theorem cal_M_look : kc_cal y_M_look b_M_look 4 ((some FieldType.int)) 1 := ⟨tw_718, tw_5, by decide +kernel⟩
theorem cal_M_answer : kc_cal y_M_answer b_M_answer 5 ((some FieldType.boolean)) 2 := ⟨tw_738, tw_5, by decide +kernel⟩
theorem cal_M_close : kc_cal y_M_close b_M_close 4 ((some FieldType.int)) 0 := ⟨tw_742, tw_5, by decide +kernel⟩
