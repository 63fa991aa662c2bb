def kb (σ : kc_Sg) : Nat := (σ 2 1).toNatClampNeg
def kc_bd (σ : kc_Sg) : Prop := σ 2 1 = nI (kb σ) ∧ kb σ ≤ 250
def kf_JA_fill_1 (k : Nat) (v : Int32) (i1 : Nat) (a1 : kc_Sg) : kc_Sg := (kc_up a1 k i1 v)
def kq_JA_fill (σ : kc_Sg) (k : Nat) (v : Int32) (n : Nat) : kc_Sg := (kc_it (kf_JA_fill_1 k v) n 0 σ)
set_option maxHeartbeats 4000000 in
set_option maxRecDepth 100000 in
theorem kk_JA_fill (l : Launch) {V : kc_V} (hV : kc_G V) (σ : kc_Sg) (k : Nat) (v : Int32) (n : Nat) (ha : kc_ai V k n) : kc_Met l y_JA_fill b_JA_fill 4 none (kc_rm 1) V [.ref (kc_ad V k), .int v] σ none (kq_JA_fill σ k v n) := by
  refine kc_of (by decide) (Nat.le_of_ble_eq_true rfl) hV.ok (fun C _ hC => ?_)
  have hn : n < 2 ^ 31 := by
    obtain ⟨_, _, _, _, _, q⟩ := ha
    exact q
  show kc_Go C V 4 (0, 0) (kc_E C V none (kq_JA_fill σ k v n)) σ 0 [(0, .ref (kc_ad V k)), (1, .int v)] []
  refine kg_iconst hC d_JA_fill_0 kn_i_0 ?_
  refine kg_istore_n hC d_JA_fill_1 [(2, .int (nI 0)), (0, .ref (kc_ad V k)), (1, .int v)] rfl (by decide) ?_
  refine kg_aload_n hC d_JA_fill_2 1 rfl ?_
  refine kg_alen hC ha d_JA_fill_3 ?_
  refine kg_istore_n hC d_JA_fill_4 [(3, .int (nI n)), (2, .int (nI 0)), (0, .ref (kc_ad V k)), (1, .int v)] rfl (by decide) ?_
  refine kg_loc [1, 0, 2, 3] (L' := [(2, .int (nI 0)), (3, .int (nI n)), (0, .ref (kc_ad V k)), (1, .int v)]) rfl ?_
  refine kc_loop (fun i1 a1 => kc_Go C V 4 (0, 0) (kc_E C V none (kq_JA_fill σ k v n)) a1 5 [(2, .int (nI i1)), (3, .int (nI n)), (0, .ref (kc_ad V k)), (1, .int v)] []) (kf_JA_fill_1 k v) 0 n (fun i1 a1 ho1 hi1 hk1 => ?_) n 0 σ (Nat.le_refl _) (Nat.zero_add _) ?_
  · refine kg_iload_n hC d_JA_fill_5 0 rfl ?_
    refine kg_iload_n hC d_JA_fill_6 1 rfl ?_
    refine kg_icmp_ge hC d_JA_fill_7 (tgt := 20) rfl (fun q => absurd q (nI_ge (by omega) hn)) (fun _ => ?_)
    refine kg_aload_n hC d_JA_fill_10 2 rfl ?_
    refine kg_iload_n hC d_JA_fill_11 0 rfl ?_
    refine kg_iload_n hC d_JA_fill_12 3 rfl ?_
    refine kg_iast hC ha (i := i1) rfl (by omega) d_JA_fill_13 ?_
    refine kg_iinc hC d_JA_fill_14 0 rfl (kn_inc1 i1) [(2, .int (nI (i1 + 1))), (3, .int (nI n)), (0, .ref (kc_ad V k)), (1, .int v)] rfl (by decide) ?_
    refine kg_at (pc' := 17) rfl ?_
    refine kg_goto hC d_JA_fill_17 (tgt := 5) rfl ?_
    exact kg_to (P := fun zz => kc_Go C V 4 (0, 0) (kc_E C V none (kq_JA_fill σ k v n)) zz 5 [(2, .int (nI (i1 + 1))), (3, .int (nI n)), (0, .ref (kc_ad V k)), (1, .int v)] []) (b := (kc_up a1 k i1 v)) (a := (kf_JA_fill_1 k v) i1 a1) (by rw [kf_JA_fill_1]) hk1
  generalize hg1 : (kc_it (kf_JA_fill_1 k v) n 0 σ) = τ1
  refine kg_iload_n hC d_JA_fill_5 0 rfl ?_
  refine kg_iload_n hC d_JA_fill_6 1 rfl ?_
  refine kg_icmp_ge hC d_JA_fill_7 (tgt := 20) rfl (fun _ => ?_) (fun q => absurd (nI_le (Nat.le_refl _) hn) q)
  exact kg_vret hC d_JA_fill_20 (by rw [kq_JA_fill, hg1])
def kq_B_empty (σ : kc_Sg) : kc_Sg := (kc_up σ 2 1 (nI 0))
set_option maxHeartbeats 4000000 in
set_option maxRecDepth 100000 in
theorem kk_B_empty (l : Launch) {V : kc_V} (hV : kc_G V) (σ : kc_Sg) : kc_Met l y_B_empty b_B_empty 1 none (kc_rm 1) V [.ref (kc_ad V 2)] σ none (kq_B_empty σ) := by
  refine kc_of (by decide) (Nat.le_of_ble_eq_true rfl) hV.ok (fun C _ hC => ?_)
  show kc_Go C V 1 (0, 0) (kc_E C V none (kq_B_empty σ)) σ 0 [(0, .ref (kc_ad V 2))] []
  refine kg_aload_n hC d_B_empty_0 0 rfl ?_
  refine kg_iconst hC d_B_empty_1 kn_i_0 ?_
  refine kg_puti hC (ko_2 hV) rfl ui_B ok_B nm_B (j := 1) (by decide) tw_49 rfl rfl rfl rfl d_B_empty_2 rfl ?_
  exact kg_vret hC d_B_empty_5 (by rw [kq_B_empty])
def kp_B_size (σ : kc_Sg) : Int32 := (σ 2 1)
set_option maxHeartbeats 4000000 in
set_option maxRecDepth 100000 in
theorem kk_B_size (l : Launch) {V : kc_V} (hV : kc_G V) (σ : kc_Sg) : kc_Met l y_B_size b_B_size 1 (some .int) (kc_rm 1) V [.ref (kc_ad V 2)] σ (some (.int (kp_B_size σ))) σ := by
  refine kc_of (by decide) (Nat.le_of_ble_eq_true rfl) hV.ok (fun C _ hC => ?_)
  show kc_Go C V 1 (0, 0) (kc_E C V (some (.int (kp_B_size σ))) σ) σ 0 [(0, .ref (kc_ad V 2))] []
  refine kg_aload_n hC d_B_size_0 0 rfl ?_
  refine kg_geti hC (ko_2 hV) rfl ui_B (j := 1) (by decide) tw_49 rfl d_B_size_1 rfl ?_
  exact kg_iret hC d_B_size_4 (by rw [kp_B_size]) rfl
def kp_B_room (σ : kc_Sg) : Int32 := ((nI 250) - (σ 2 1))
set_option maxHeartbeats 4000000 in
set_option maxRecDepth 100000 in
theorem kk_B_room (l : Launch) {V : kc_V} (hV : kc_G V) (σ : kc_Sg) : kc_Met l y_B_room b_B_room 1 (some .int) (kc_rm 1) V [.ref (kc_ad V 2)] σ (some (.int (kp_B_room σ))) σ := by
  refine kc_of (by decide) (Nat.le_of_ble_eq_true rfl) hV.ok (fun C _ hC => ?_)
  show kc_Go C V 1 (0, 0) (kc_E C V (some (.int (kp_B_room σ))) σ) σ 0 [(0, .ref (kc_ad V 2))] []
  refine kg_sipush hC d_B_room_0 kn_s_250 ?_
  refine kg_aload_n hC d_B_room_3 0 rfl ?_
  refine kg_geti hC (ko_2 hV) rfl ui_B (j := 1) (by decide) tw_49 rfl d_B_room_4 rfl ?_
  refine kg_isub hC d_B_room_7 ?_
  exact kg_iret hC d_B_room_8 (by rw [kp_B_room]) rfl
def kp_B_read (σ : kc_Sg) (a : Nat) (b : Nat) : Int32 := (σ 7 ((a * 9) + b))
set_option maxHeartbeats 4000000 in
set_option maxRecDepth 100000 in
theorem kk_B_read (l : Launch) {V : kc_V} (hV : kc_G V) (σ : kc_Sg) (a : Nat) (b : Nat) (hi : a * 9 + b < 2250) : kc_Met l y_B_read b_B_read 3 (some .int) (kc_rm 1) V [.ref (kc_ad V 2), .int (nI a), .int (nI b)] σ (some (.int (kp_B_read σ a b))) σ := by
  refine kc_of (by decide) (Nat.le_of_ble_eq_true rfl) hV.ok (fun C _ hC => ?_)
  show kc_Go C V 3 (0, 0) (kc_E C V (some (.int (kp_B_read σ a b))) σ) σ 0 [(0, .ref (kc_ad V 2)), (1, .int (nI a)), (2, .int (nI b))] []
  refine kg_aload_n hC d_B_read_0 0 rfl ?_
  refine kg_getr hC (ko_2 hV) rfl ui_B (j := 0) (by decide) tw_48 rfl d_B_read_1 rfl ?_
  refine kg_iload_n hC d_B_read_4 1 rfl ?_
  refine kg_bipush hC d_B_read_5 kn_b_9 ?_
  refine kg_imul hC d_B_read_7 ?_
  refine kg_top (x' := (nI (a * 9))) (pk_mul _ _) ?_
  refine kg_iload_n hC d_B_read_8 2 rfl ?_
  refine kg_iadd hC d_B_read_9 ?_
  refine kg_top (x' := (nI ((a * 9) + b))) (nI_add _ _) ?_
  refine kg_iald hC (ka_7 hV) (i := ((a * 9) + b)) rfl (by omega) d_B_read_10 ?_
  refine kg_at (pc' := 11) rfl ?_
  exact kg_iret hC d_B_read_11 (by rw [kp_B_read]) rfl
def kf_B_add_1 (σ : kc_Sg) (i1 : Nat) (a1 : kc_Sg) : kc_Sg := (kc_up a1 7 (((kb σ) * 9) + i1) (nI 0))
def kq_B_add (σ : kc_Sg) (t : Int32) (b : Int32) (w : Int32) (v : Int32) (u : Int32) : kc_Sg := if (nI (kb σ)) < (nI 250) then (kc_up (kc_it (kf_B_add_1 σ) 4 5 (kc_up (kc_up (kc_up (kc_up (kc_up σ 7 ((kb σ) * 9) t) 7 (((kb σ) * 9) + 1) b) 7 (((kb σ) * 9) + 2) w) 7 (((kb σ) * 9) + 3) v) 7 (((kb σ) * 9) + 4) u)) 2 1 (((kc_it (kf_B_add_1 σ) 4 5 (kc_up (kc_up (kc_up (kc_up (kc_up σ 7 ((kb σ) * 9) t) 7 (((kb σ) * 9) + 1) b) 7 (((kb σ) * 9) + 2) w) 7 (((kb σ) * 9) + 3) v) 7 (((kb σ) * 9) + 4) u)) 2 1) + (nI 1))) else σ
set_option maxHeartbeats 4000000 in
set_option maxRecDepth 100000 in
theorem kk_B_add (l : Launch) {V : kc_V} (hV : kc_G V) (σ : kc_Sg) (t : Int32) (b : Int32) (w : Int32) (v : Int32) (u : Int32) (hb : kc_bd σ) : kc_Met l y_B_add b_B_add 8 none (kc_rm 1) V [.ref (kc_ad V 2), .int t, .int b, .int w, .int v, .int u] σ none (kq_B_add σ t b w v u) := by
  refine kc_of (by decide) (Nat.le_of_ble_eq_true rfl) hV.ok (fun C _ hC => ?_)
  show kc_Go C V 8 (0, 0) (kc_E C V none (kq_B_add σ t b w v u)) σ 0 [(0, .ref (kc_ad V 2)), (1, .int t), (2, .int b), (3, .int w), (4, .int v), (5, .int u)] []
  refine kg_aload_n hC d_B_add_0 0 rfl ?_
  refine kg_geti hC (ko_2 hV) rfl ui_B (j := 1) (by decide) tw_49 rfl d_B_add_1 rfl ?_
  refine kg_top (x' := (nI (kb σ))) hb.1 ?_
  refine kg_sipush hC d_B_add_4 kn_s_250 ?_
  refine kg_icmp_lt hC d_B_add_7 (tgt := 11) rfl (fun h7 => ?_) (fun h7 => ?_)
  · have hs : kb σ < 250 := (nI_ltI (by have := hb.2; omega) (by decide)).mp h7
    refine kg_aload_n hC d_B_add_11 0 rfl ?_
    refine kg_geti hC (ko_2 hV) rfl ui_B (j := 1) (by decide) tw_49 rfl d_B_add_12 rfl ?_
    refine kg_top (x' := (nI (kb σ))) hb.1 ?_
    refine kg_bipush hC d_B_add_15 kn_b_9 ?_
    refine kg_imul hC d_B_add_17 ?_
    refine kg_top (x' := (nI ((kb σ) * 9))) (pk_mul _ _) ?_
    refine kg_istore hC d_B_add_18 [(6, .int (nI ((kb σ) * 9))), (0, .ref (kc_ad V 2)), (1, .int t), (2, .int b), (3, .int w), (4, .int v), (5, .int u)] rfl (by decide) ?_
    refine kg_aload_n hC d_B_add_20 1 rfl ?_
    refine kg_getr hC (ko_2 hV) rfl ui_B (j := 0) (by decide) tw_48 rfl d_B_add_21 rfl ?_
    refine kg_iload hC d_B_add_24 0 rfl ?_
    refine kg_at (pc' := 26) rfl ?_
    refine kg_iload_n hC d_B_add_26 2 rfl ?_
    refine kg_iast hC (ka_7 hV) (i := ((kb σ) * 9)) rfl (by omega) d_B_add_27 ?_
    refine kg_aload_n hC d_B_add_28 1 rfl ?_
    refine kg_getr hC (ko_2 hV) rfl ui_B (j := 0) (by decide) tw_48 rfl d_B_add_29 rfl ?_
    refine kg_iload hC d_B_add_32 0 rfl ?_
    refine kg_iconst hC d_B_add_34 kn_i_1 ?_
    refine kg_iadd hC d_B_add_35 ?_
    refine kg_top (x' := (nI (((kb σ) * 9) + 1))) (nI_add _ _) ?_
    refine kg_iload_n hC d_B_add_36 3 rfl ?_
    refine kg_at (pc' := 37) rfl ?_
    refine kg_iast hC (ka_7 hV) (i := (((kb σ) * 9) + 1)) rfl (by omega) d_B_add_37 ?_
    refine kg_aload_n hC d_B_add_38 1 rfl ?_
    refine kg_getr hC (ko_2 hV) rfl ui_B (j := 0) (by decide) tw_48 rfl d_B_add_39 rfl ?_
    refine kg_iload hC d_B_add_42 0 rfl ?_
    refine kg_iconst hC d_B_add_44 kn_i_2 ?_
    refine kg_iadd hC d_B_add_45 ?_
    refine kg_top (x' := (nI (((kb σ) * 9) + 2))) (nI_add _ _) ?_
    refine kg_iload_n hC d_B_add_46 4 rfl ?_
    refine kg_iast hC (ka_7 hV) (i := (((kb σ) * 9) + 2)) rfl (by omega) d_B_add_47 ?_
    refine kg_at (pc' := 48) rfl ?_
    refine kg_aload_n hC d_B_add_48 1 rfl ?_
    refine kg_getr hC (ko_2 hV) rfl ui_B (j := 0) (by decide) tw_48 rfl d_B_add_49 rfl ?_
    refine kg_iload hC d_B_add_52 0 rfl ?_
    refine kg_iconst hC d_B_add_54 kn_i_3 ?_
    refine kg_iadd hC d_B_add_55 ?_
    refine kg_top (x' := (nI (((kb σ) * 9) + 3))) (nI_add _ _) ?_
    refine kg_iload hC d_B_add_56 5 rfl ?_
    refine kg_iast hC (ka_7 hV) (i := (((kb σ) * 9) + 3)) rfl (by omega) d_B_add_58 ?_
    refine kg_aload_n hC d_B_add_59 1 rfl ?_
    refine kg_at (pc' := 60) rfl ?_
    refine kg_getr hC (ko_2 hV) rfl ui_B (j := 0) (by decide) tw_48 rfl d_B_add_60 rfl ?_
    refine kg_iload hC d_B_add_63 0 rfl ?_
    refine kg_iconst hC d_B_add_65 kn_i_4 ?_
    refine kg_iadd hC d_B_add_66 ?_
    refine kg_top (x' := (nI (((kb σ) * 9) + 4))) (nI_add _ _) ?_
    refine kg_iload hC d_B_add_67 6 rfl ?_
    refine kg_iast hC (ka_7 hV) (i := (((kb σ) * 9) + 4)) rfl (by omega) d_B_add_69 ?_
    refine kg_iconst hC d_B_add_70 kn_i_5 ?_
    refine kg_istore hC d_B_add_71 [(7, .int (nI 5)), (6, .int (nI ((kb σ) * 9))), (0, .ref (kc_ad V 2)), (1, .int t), (2, .int b), (3, .int w), (4, .int v), (5, .int u)] rfl (by decide) ?_
    refine kc_loop (fun i1 a1 => kc_Go C V 8 (0, 0) (kc_E C V none (kq_B_add σ t b w v u)) a1 73 [(7, .int (nI i1)), (6, .int (nI ((kb σ) * 9))), (0, .ref (kc_ad V 2)), (1, .int t), (2, .int b), (3, .int w), (4, .int v), (5, .int u)] []) (kf_B_add_1 σ) 5 9 (fun i1 a1 ho1 hi1 hk1 => ?_) 4 5 (kc_up (kc_up (kc_up (kc_up (kc_up σ 7 ((kb σ) * 9) t) 7 (((kb σ) * 9) + 1) b) 7 (((kb σ) * 9) + 2) w) 7 (((kb σ) * 9) + 3) v) 7 (((kb σ) * 9) + 4) u) (Nat.le_refl _) rfl ?_
    · refine kg_iload hC d_B_add_73 0 rfl ?_
      refine kg_bipush hC d_B_add_75 kn_b_9 ?_
      refine kg_icmp_ge hC d_B_add_77 (tgt := 97) rfl (fun q => absurd q (nI_ge (by omega) (by decide))) (fun _ => ?_)
      refine kg_aload_n hC d_B_add_80 2 rfl ?_
      refine kg_getr hC (ko_2 hV) rfl ui_B (j := 0) (by decide) tw_48 rfl d_B_add_81 rfl ?_
      refine kg_iload hC d_B_add_84 1 rfl ?_
      refine kg_iload hC d_B_add_86 0 rfl ?_
      refine kg_iadd hC d_B_add_88 ?_
      refine kg_top (x' := (nI (((kb σ) * 9) + i1))) (nI_add _ _) ?_
      refine kg_at (pc' := 89) rfl ?_
      refine kg_iconst hC d_B_add_89 kn_i_0 ?_
      refine kg_iast hC (ka_7 hV) (i := (((kb σ) * 9) + i1)) rfl (by omega) d_B_add_90 ?_
      refine kg_iinc hC d_B_add_91 0 rfl (kn_inc1 i1) [(7, .int (nI (i1 + 1))), (6, .int (nI ((kb σ) * 9))), (0, .ref (kc_ad V 2)), (1, .int t), (2, .int b), (3, .int w), (4, .int v), (5, .int u)] rfl (by decide) ?_
      refine kg_goto hC d_B_add_94 (tgt := 73) rfl ?_
      exact kg_to (P := fun zz => kc_Go C V 8 (0, 0) (kc_E C V none (kq_B_add σ t b w v u)) zz 73 [(7, .int (nI (i1 + 1))), (6, .int (nI ((kb σ) * 9))), (0, .ref (kc_ad V 2)), (1, .int t), (2, .int b), (3, .int w), (4, .int v), (5, .int u)] []) (b := (kc_up a1 7 (((kb σ) * 9) + i1) (nI 0))) (a := (kf_B_add_1 σ) i1 a1) (by rw [kf_B_add_1]) hk1
    generalize hg1 : (kc_it (kf_B_add_1 σ) 4 5 (kc_up (kc_up (kc_up (kc_up (kc_up σ 7 ((kb σ) * 9) t) 7 (((kb σ) * 9) + 1) b) 7 (((kb σ) * 9) + 2) w) 7 (((kb σ) * 9) + 3) v) 7 (((kb σ) * 9) + 4) u)) = τ1
    refine kg_iload hC d_B_add_73 0 rfl ?_
    refine kg_bipush hC d_B_add_75 kn_b_9 ?_
    refine kg_icmp_ge hC d_B_add_77 (tgt := 97) rfl (fun _ => ?_) (fun q => absurd (nI_le (by decide) (by decide)) q)
    refine kg_aload_n hC d_B_add_97 2 rfl ?_
    refine kg_dup hC d_B_add_98 rfl ?_
    refine kg_geti hC (ko_2 hV) rfl ui_B (j := 1) (by decide) tw_49 rfl d_B_add_99 rfl ?_
    refine kg_iconst hC d_B_add_102 kn_i_1 ?_
    refine kg_iadd hC d_B_add_103 ?_
    refine kg_at (pc' := 104) rfl ?_
    refine kg_puti hC (ko_2 hV) rfl ui_B ok_B nm_B (j := 1) (by decide) tw_49 rfl rfl rfl rfl d_B_add_104 rfl ?_
    exact kg_vret hC d_B_add_107 (by rw [kq_B_add, hg1, if_pos h7])
  · exact kg_vret hC d_B_add_10 (by rw [kq_B_add, if_neg h7])
def kq_B_addDealing (σ : kc_Sg) (b : Int32) (u : Int32) (k : Nat) : kc_Sg := if (nI (kb σ)) < (nI 250) then (kc_pu (kq_B_add σ (nI 1) b (nI 0) (nI 0) u) 7 (va_cpy ((kq_B_add σ (nI 1) b (nI 0) (nI 0) u) k) ((kq_B_add σ (nI 1) b (nI 0) (nI 0) u) 7) 0 (((kb σ) * 9) + 5) 4)) else σ
set_option maxHeartbeats 4000000 in
set_option maxRecDepth 100000 in
theorem kk_B_addDealing (l : Launch) {V : kc_V} (hV : kc_G V) (σ : kc_Sg) (b : Int32) (u : Int32) (k : Nat) (hb : kc_bd σ) (ha : kc_ai V k 4) : kc_Met l y_B_addDealing b_B_addDealing 5 none (kc_rm 2) V [.ref (kc_ad V 2), .int b, .int u, .ref (kc_ad V k)] σ none (kq_B_addDealing σ b u k) := by
  refine kc_of (by decide) (Nat.le_of_ble_eq_true rfl) hV.ok (fun C _ hC => ?_)
  show kc_Go C V 5 (0, 0) (kc_E C V none (kq_B_addDealing σ b u k)) σ 0 [(0, .ref (kc_ad V 2)), (1, .int b), (2, .int u), (3, .ref (kc_ad V k))] []
  refine kg_aload_n hC d_B_addDealing_0 0 rfl ?_
  refine kg_geti hC (ko_2 hV) rfl ui_B (j := 1) (by decide) tw_49 rfl d_B_addDealing_1 rfl ?_
  refine kg_top (x' := (nI (kb σ))) hb.1 ?_
  refine kg_sipush hC d_B_addDealing_4 kn_s_250 ?_
  refine kg_icmp_lt hC d_B_addDealing_7 (tgt := 11) rfl (fun h7 => ?_) (fun h7 => ?_)
  · have hs : kb σ < 250 := (nI_ltI (by have := hb.2; omega) (by decide)).mp h7
    refine kg_aload_n hC d_B_addDealing_11 0 rfl ?_
    refine kg_geti hC (ko_2 hV) rfl ui_B (j := 1) (by decide) tw_49 rfl d_B_addDealing_12 rfl ?_
    refine kg_top (x' := (nI (kb σ))) hb.1 ?_
    refine kg_bipush hC d_B_addDealing_15 kn_b_9 ?_
    refine kg_imul hC d_B_addDealing_17 ?_
    refine kg_top (x' := (nI ((kb σ) * 9))) (pk_mul _ _) ?_
    refine kg_iconst hC d_B_addDealing_18 kn_i_5 ?_
    refine kg_iadd hC d_B_addDealing_19 ?_
    refine kg_top (x' := (nI (((kb σ) * 9) + 5))) (nI_add _ _) ?_
    refine kg_istore hC d_B_addDealing_20 [(4, .int (nI (((kb σ) * 9) + 5))), (0, .ref (kc_ad V 2)), (1, .int b), (2, .int u), (3, .ref (kc_ad V k))] rfl (by decide) ?_
    refine kg_aload_n hC d_B_addDealing_22 1 rfl ?_
    refine kg_at (pc' := 23) rfl ?_
    refine kg_iconst hC d_B_addDealing_23 kn_i_1 ?_
    refine kg_iload_n hC d_B_addDealing_24 2 rfl ?_
    refine kg_iconst hC d_B_addDealing_25 kn_i_0 ?_
    refine kg_iconst hC d_B_addDealing_26 kn_i_0 ?_
    refine kg_iload_n hC d_B_addDealing_27 3 rfl ?_
    refine kg_virtualV hC (kk_B_add (kc_l C) hV σ (nI 1) b (nI 0) (nI 0) u hb) cal_B_add tw_386 tw_387 tw_385 (ko_2 hV) rfl rfl (by decide) (rest := []) rfl (Nat.le_of_ble_eq_true rfl) d_B_addDealing_28 ?_ (by decide)
    refine kg_aload_n hC d_B_addDealing_31 4 rfl ?_
    refine kg_iconst hC d_B_addDealing_32 kn_i_0 ?_
    refine kg_at (pc' := 33) rfl ?_
    refine kg_aload_n hC d_B_addDealing_33 1 rfl ?_
    refine kg_getr hC (ko_2 hV) rfl ui_B (j := 0) (by decide) tw_48 rfl d_B_addDealing_34 rfl ?_
    refine kg_iload hC d_B_addDealing_37 0 rfl ?_
    refine kg_iconst hC d_B_addDealing_39 kn_i_4 ?_
    refine kg_copy hC ha (ka_7 hV) (a := 0) (b := (((kb σ) * 9) + 5)) (n := 4) (by omega) (by omega) tw_389 tw_391 tw_390 tw_15 (by decide) (Nat.le_of_ble_eq_true rfl) d_B_addDealing_40 ?_
    exact kg_vret hC d_B_addDealing_43 (by rw [kq_B_addDealing, if_pos h7])
  · exact kg_vret hC d_B_addDealing_10 (by rw [kq_B_addDealing, if_neg h7])
