def kt_K_requireFounded (σ : kc_Sg) : Nat := if (σ 0 6) = 0 then 1 else 0
set_option maxHeartbeats 4000000 in
set_option maxRecDepth 100000 in
theorem kx_K_requireFounded (l : Launch) (hlt : l.stackTraces = false) {V : kc_V} (hV : kc_G V) (σ : kc_Sg) : kx_Met l y_K_requireFounded b_K_requireFounded 1 none (kx_rm 6) V [.ref (kc_ad V 0)] σ (kt_K_requireFounded σ) none σ := by
  refine kx_of hlt (by decide) (Nat.le_of_ble_eq_true rfl) hV.ok (fun C _ hC hG => ?_)
  show kc_Go C V 1 (0, 0) (kx_E C V (kt_K_requireFounded σ) none σ σ) σ 0 [(0, .ref (kc_ad V 0))] []
  refine kg_aload_n hC d_K_requireFounded_0 0 rfl ?_
  refine kg_geti hC (ko_0 hV) rfl ui_K (j := 6) (by decide) tw_98 rfl d_K_requireFounded_1 rfl ?_
  refine kg_if_ne hC d_K_requireFounded_4 (tgt := 15) rfl (fun h4 => ?_) (fun h4 => ?_)
  · exact kx_vret hC d_K_requireFounded_15 (by rw [kt_K_requireFounded, if_neg h4]) rfl
  · exact kx_thr_1 hC hG (by rw [kt_K_requireFounded, if_pos h4]) (by decide) (Nat.le_of_ble_eq_true rfl) d_K_requireFounded_7 d_K_requireFounded_10 d_K_requireFounded_11 d_K_requireFounded_14
def kt_K_requireSeat (x : Int32) : Nat := if x < (nI 1) then 2 else (if x ≤ (nI 7) then 0 else 2)
set_option maxHeartbeats 4000000 in
set_option maxRecDepth 100000 in
theorem kx_K_requireSeat (l : Launch) (hlt : l.stackTraces = false) {V : kc_V} (hV : kc_G V) (σ : kc_Sg) (x : Int32) : kx_Met l y_K_requireSeat b_K_requireSeat 1 none (kx_rm 6) V [.int x] σ (kt_K_requireSeat x) none σ := by
  refine kx_of hlt (by decide) (Nat.le_of_ble_eq_true rfl) hV.ok (fun C _ hC hG => ?_)
  show kc_Go C V 1 (0, 0) (kx_E C V (kt_K_requireSeat x) none σ σ) σ 0 [(0, .int x)] []
  refine kg_iload_n hC d_K_requireSeat_0 0 rfl ?_
  refine kg_iconst hC d_K_requireSeat_1 kn_i_1 ?_
  refine kg_icmp_lt hC d_K_requireSeat_2 (tgt := 11) rfl (fun h2 => ?_) (fun h2 => ?_)
  · exact kx_thr_2 hC hG (by rw [kt_K_requireSeat, if_pos h2]) (by decide) (Nat.le_of_ble_eq_true rfl) d_K_requireSeat_11 d_K_requireSeat_14 d_K_requireSeat_15 d_K_requireSeat_18
  · refine kg_iload_n hC d_K_requireSeat_5 0 rfl ?_
    refine kg_bipush hC d_K_requireSeat_6 kn_b_7 ?_
    refine kg_icmp_le hC d_K_requireSeat_8 (tgt := 19) rfl (fun h8 => ?_) (fun h8 => ?_)
    · exact kx_vret hC d_K_requireSeat_19 (by rw [kt_K_requireSeat, if_neg h2, if_pos h8]) rfl
    · exact kx_thr_2 hC hG (by rw [kt_K_requireSeat, if_neg h2, if_neg h8]) (by decide) (Nat.le_of_ble_eq_true rfl) d_K_requireSeat_11 d_K_requireSeat_14 d_K_requireSeat_15 d_K_requireSeat_18
set_option maxHeartbeats 4000000 in
set_option maxRecDepth 100000 in
theorem kk_K_requireFounded (l : Launch) {V : kc_V} (hV : kc_G V) (σ : kc_Sg) (hx : kt_K_requireFounded σ = 0) : kc_Met l y_K_requireFounded b_K_requireFounded 1 none (kc_rm 1) V [.ref (kc_ad V 0)] σ none σ := by
  refine kc_of (by decide) (Nat.le_of_ble_eq_true rfl) hV.ok (fun C _ hC => ?_)
  have h9 : ¬ σ 0 6 = 0 := by
    intro q
    unfold kt_K_requireFounded at hx
    rw [if_pos q] at hx
    cases hx
  show kc_Go C V 1 (0, 0) (kc_E C V none σ) σ 0 [(0, .ref (kc_ad V 0))] []
  refine kg_aload_n hC d_K_requireFounded_0 0 rfl ?_
  refine kg_geti hC (ko_0 hV) rfl ui_K (j := 6) (by decide) tw_98 rfl d_K_requireFounded_1 rfl ?_
  refine kg_if_ne hC d_K_requireFounded_4 (tgt := 15) rfl (fun _ => ?_) (fun q => absurd q (h9))
  exact kg_vret hC d_K_requireFounded_15 rfl
set_option maxHeartbeats 4000000 in
set_option maxRecDepth 100000 in
theorem kk_K_requireSeat (l : Launch) {V : kc_V} (hV : kc_G V) (σ : kc_Sg) (x : Int32) (hx : kt_K_requireSeat x = 0) : kc_Met l y_K_requireSeat b_K_requireSeat 1 none (kc_rm 1) V [.int x] σ none σ := by
  refine kc_of (by decide) (Nat.le_of_ble_eq_true rfl) hV.ok (fun C _ hC => ?_)
  have h8 : ¬ x < nI 1 := by
    intro q
    unfold kt_K_requireSeat at hx
    rw [if_pos q] at hx
    cases hx
  have h9 : x ≤ nI 7 := by
    by_cases q : x ≤ nI 7
    · exact q
    · unfold kt_K_requireSeat at hx
      rw [if_neg h8, if_neg q] at hx
      cases hx
  show kc_Go C V 1 (0, 0) (kc_E C V none σ) σ 0 [(0, .int x)] []
  refine kg_iload_n hC d_K_requireSeat_0 0 rfl ?_
  refine kg_iconst hC d_K_requireSeat_1 kn_i_1 ?_
  refine kg_icmp_lt hC d_K_requireSeat_2 (tgt := 11) rfl (fun q => absurd q (h8)) (fun _ => ?_)
  refine kg_iload_n hC d_K_requireSeat_5 0 rfl ?_
  refine kg_bipush hC d_K_requireSeat_6 kn_b_7 ?_
  refine kg_icmp_le hC d_K_requireSeat_8 (tgt := 19) rfl (fun _ => ?_) (fun q => absurd (h9) q)
  exact kg_vret hC d_K_requireSeat_19 rfl
