theorem cal_K_requireFounded : kc_cal y_K_requireFounded b_K_requireFounded 1 none 0 := ⟨tw_279, tw_1, by decide +kernel⟩
theorem cal_K_requireSeat : kc_cal y_K_requireSeat b_K_requireSeat 1 none 1 := ⟨tw_282, tw_1, by decide +kernel⟩
