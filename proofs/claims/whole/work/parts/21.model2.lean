def kc_mbe (σ : kc_Sg) : Prop := σ 38 16 = nI (mb σ) ∧ mb σ ≤ 250
theorem kn_mbd {σ τ : kc_Sg} (e : τ 38 16 = σ 38 16) (h : kc_mbe σ) (hne : ¬ σ 38 16 = nI 250) : kc_mbd τ := by
  have e2 : mb τ = mb σ := by
    unfold mb
    rw [e]
  refine ⟨by rw [e, e2]; exact h.1, ?_⟩
  rw [e2]
  apply Nat.lt_of_le_of_ne h.2
  intro q
  apply hne
  rw [h.1, q]
theorem ke_put1 (σ : kc_Sg) (t : Int32) (d : Nat) (w v : Int32) : kq_M_put σ t d w v 38 1 = σ 38 1 := rfl
theorem ke_put2 (σ : kc_Sg) (t : Int32) (d : Nat) (w v : Int32) : kq_M_put σ t d w v 38 2 = σ 38 2 := rfl
theorem kn_nat {x : Int32} (h : ¬ x < 0) : x = nI x.toNatClampNeg := by
  obtain ⟨j, h1, h2⟩ := nI_of h
  rw [h2, nI_clamp h1]
theorem kn_le {x : Int32} {a : Nat} (h : ¬ x < 0) (ha : a < 2 ^ 31) (h2 : x ≤ nI a) : x.toNatClampNeg ≤ a := by
  obtain ⟨j, h1, h3⟩ := nI_of h
  subst h3
  rw [nI_clamp h1]
  exact (nI_leI h1 ha).mp h2
theorem kn_lt {x : Int32} {a : Nat} (h : ¬ x < 0) (ha : a < 2 ^ 31) (h2 : x < nI a) : x.toNatClampNeg < a := by
  obtain ⟨j, h1, h3⟩ := nI_of h
  subst h3
  rw [nI_clamp h1]
  exact (nI_ltI h1 ha).mp h2
theorem kn_ix9 {x y : Int32} (h : ¬ x < 0) (h2 : ¬ y < 0) : nI 9 * x + y = nI (9 * x.toNatClampNeg + y.toNatClampNeg) := by
  rw [← nI_add, ← pk_mul, ← kn_nat h, ← kn_nat h2]
noncomputable def kq_M_group (σ : kc_Sg) (p : Int32) (q : Int32) (g : Int32) : kc_Sg := if q < (nI 11) then (kc_up σ 38 0 (nI 1)) else (if (nI 32749) < q then (kc_up σ 38 0 (nI 1)) else (if p ≤ q then (kc_up σ 38 0 (nI 1)) else (if (kp_prime q) = 0 then (kc_up σ 38 0 (nI 1)) else (if (kp_prime p) = 0 then (kc_up σ 38 0 (nI 1)) else (if (kc_rem (p - (nI 1)) q) = 0 then (if g < (nI 2) then (kc_up σ 38 0 (nI 1)) else (if p ≤ g then (kc_up σ 38 0 (nI 1)) else (if (kp_M_power (kc_up σ 38 1 p) g q) = (nI 1) then (kc_up (kc_up (kc_up (kc_up (kc_up (kc_up (kc_up σ 38 1 p) 38 0 (nI 0)) 38 2 q) 38 3 g) 38 4 (nI 0)) 38 5 (nI 0)) 38 16 (nI 0)) else (kc_up (kc_up (kc_up σ 38 1 p) 38 1 (σ 38 1)) 38 0 (nI 1))))) else (kc_up σ 38 0 (nI 1)))))))
set_option maxHeartbeats 4000000 in
set_option maxRecDepth 100000 in
theorem kk_M_group (l : Launch) {V : kc_V} (hV : kc_G V) (σ : kc_Sg) (p : Int32) (q : Int32) (g : Int32) : kc_Met l y_M_group b_M_group 6 none (kc_rm 2) V [.ref (kc_ad V 38), .int p, .int q, .int g] σ none (kq_M_group σ p q g) := by
  refine kc_of (by decide) (Nat.le_of_ble_eq_true rfl) hV.ok (fun C _ hC => ?_)
  show kc_Go C V 6 (0, 0) (kc_E C V none (kq_M_group σ p q g)) σ 0 [(0, .ref (kc_ad V 38)), (1, .int p), (2, .int q), (3, .int g)] []
  refine kg_iload_n hC d_M_group_0 2 rfl ?_
  refine kg_bipush hC d_M_group_1 kn_b_11 ?_
  refine kg_icmp_lt hC d_M_group_3 (tgt := 54) rfl (fun h3 => ?_) (fun h3 => ?_)
  · refine kg_iconst hC d_M_group_54 kn_i_0 ?_
    refine kg_istore hC d_M_group_55 [(4, .int (nI 0)), (0, .ref (kc_ad V 38)), (1, .int p), (2, .int q), (3, .int g)] rfl (by decide) ?_
    refine kg_iload hC d_M_group_57 0 rfl ?_
    refine kg_if_eq hC d_M_group_59 (tgt := 101) rfl (fun _ => ?_) (fun q => absurd (by decide) q)
    refine kg_aload_n hC d_M_group_101 1 rfl ?_
    refine kg_iload hC d_M_group_102 0 rfl ?_
    refine kg_if_eq hC d_M_group_104 (tgt := 111) rfl (fun _ => ?_) (fun q => absurd (by decide) q)
    refine kg_iconst hC d_M_group_111 kn_i_1 ?_
    refine kg_at (pc' := 112) rfl ?_
    refine kg_puti hC (ko_38 hV) rfl ui_M ok_M nm_M (j := 0) (by decide) tw_604 rfl rfl rfl rfl d_M_group_112 rfl ?_
    refine kg_iload hC d_M_group_115 0 rfl ?_
    refine kg_if_ne hC d_M_group_117 (tgt := 121) rfl (fun q => absurd q (by decide)) (fun _ => ?_)
    exact kg_vret hC d_M_group_120 (by rw [kq_M_group, if_pos h3])
  · refine kg_iload_n hC d_M_group_6 2 rfl ?_
    refine kg_sipush hC d_M_group_7 kn_s_32749 ?_
    refine kg_icmp_gt hC d_M_group_10 (tgt := 54) rfl (fun h10 => ?_) (fun h10 => ?_)
    · refine kg_iconst hC d_M_group_54 kn_i_0 ?_
      refine kg_istore hC d_M_group_55 [(4, .int (nI 0)), (0, .ref (kc_ad V 38)), (1, .int p), (2, .int q), (3, .int g)] rfl (by decide) ?_
      refine kg_iload hC d_M_group_57 0 rfl ?_
      refine kg_if_eq hC d_M_group_59 (tgt := 101) rfl (fun _ => ?_) (fun q => absurd (by decide) q)
      refine kg_aload_n hC d_M_group_101 1 rfl ?_
      refine kg_iload hC d_M_group_102 0 rfl ?_
      refine kg_if_eq hC d_M_group_104 (tgt := 111) rfl (fun _ => ?_) (fun q => absurd (by decide) q)
      refine kg_iconst hC d_M_group_111 kn_i_1 ?_
      refine kg_at (pc' := 112) rfl ?_
      refine kg_puti hC (ko_38 hV) rfl ui_M ok_M nm_M (j := 0) (by decide) tw_604 rfl rfl rfl rfl d_M_group_112 rfl ?_
      refine kg_iload hC d_M_group_115 0 rfl ?_
      refine kg_if_ne hC d_M_group_117 (tgt := 121) rfl (fun q => absurd q (by decide)) (fun _ => ?_)
      exact kg_vret hC d_M_group_120 (by rw [kq_M_group, if_neg h3, if_pos h10])
    · refine kg_iload_n hC d_M_group_13 1 rfl ?_
      refine kg_iload_n hC d_M_group_14 2 rfl ?_
      refine kg_icmp_le hC d_M_group_15 (tgt := 54) rfl (fun h15 => ?_) (fun h15 => ?_)
      · refine kg_iconst hC d_M_group_54 kn_i_0 ?_
        refine kg_istore hC d_M_group_55 [(4, .int (nI 0)), (0, .ref (kc_ad V 38)), (1, .int p), (2, .int q), (3, .int g)] rfl (by decide) ?_
        refine kg_iload hC d_M_group_57 0 rfl ?_
        refine kg_if_eq hC d_M_group_59 (tgt := 101) rfl (fun _ => ?_) (fun q => absurd (by decide) q)
        refine kg_aload_n hC d_M_group_101 1 rfl ?_
        refine kg_iload hC d_M_group_102 0 rfl ?_
        refine kg_if_eq hC d_M_group_104 (tgt := 111) rfl (fun _ => ?_) (fun q => absurd (by decide) q)
        refine kg_iconst hC d_M_group_111 kn_i_1 ?_
        refine kg_at (pc' := 112) rfl ?_
        refine kg_puti hC (ko_38 hV) rfl ui_M ok_M nm_M (j := 0) (by decide) tw_604 rfl rfl rfl rfl d_M_group_112 rfl ?_
        refine kg_iload hC d_M_group_115 0 rfl ?_
        refine kg_if_ne hC d_M_group_117 (tgt := 121) rfl (fun q => absurd q (by decide)) (fun _ => ?_)
        exact kg_vret hC d_M_group_120 (by rw [kq_M_group, if_neg h3, if_neg h10, if_pos h15])
      · refine kg_iload_n hC d_M_group_18 2 rfl ?_
        refine kg_staticI hC (kk_M_prime (kc_l C) hV σ q) cal_M_prime tw_669 tw_668 rfl (by decide) (rest := []) rfl (Nat.le_of_ble_eq_true rfl) d_M_group_19 ?_ (by decide)
        refine kg_if_eq hC d_M_group_22 (tgt := 54) rfl (fun h22 => ?_) (fun h22 => ?_)
        · refine kg_iconst hC d_M_group_54 kn_i_0 ?_
          refine kg_istore hC d_M_group_55 [(4, .int (nI 0)), (0, .ref (kc_ad V 38)), (1, .int p), (2, .int q), (3, .int g)] rfl (by decide) ?_
          refine kg_iload hC d_M_group_57 0 rfl ?_
          refine kg_if_eq hC d_M_group_59 (tgt := 101) rfl (fun _ => ?_) (fun q => absurd (by decide) q)
          refine kg_aload_n hC d_M_group_101 1 rfl ?_
          refine kg_iload hC d_M_group_102 0 rfl ?_
          refine kg_if_eq hC d_M_group_104 (tgt := 111) rfl (fun _ => ?_) (fun q => absurd (by decide) q)
          refine kg_iconst hC d_M_group_111 kn_i_1 ?_
          refine kg_at (pc' := 112) rfl ?_
          refine kg_puti hC (ko_38 hV) rfl ui_M ok_M nm_M (j := 0) (by decide) tw_604 rfl rfl rfl rfl d_M_group_112 rfl ?_
          refine kg_iload hC d_M_group_115 0 rfl ?_
          refine kg_if_ne hC d_M_group_117 (tgt := 121) rfl (fun q => absurd q (by decide)) (fun _ => ?_)
          exact kg_vret hC d_M_group_120 (by rw [kq_M_group, if_neg h3, if_neg h10, if_neg h15, if_pos h22])
        · refine kg_iload_n hC d_M_group_25 1 rfl ?_
          refine kg_staticI hC (kk_M_prime (kc_l C) hV σ p) cal_M_prime tw_669 tw_668 rfl (by decide) (rest := []) rfl (Nat.le_of_ble_eq_true rfl) d_M_group_26 ?_ (by decide)
          refine kg_if_eq hC d_M_group_29 (tgt := 54) rfl (fun h29 => ?_) (fun h29 => ?_)
          · refine kg_iconst hC d_M_group_54 kn_i_0 ?_
            refine kg_istore hC d_M_group_55 [(4, .int (nI 0)), (0, .ref (kc_ad V 38)), (1, .int p), (2, .int q), (3, .int g)] rfl (by decide) ?_
            refine kg_iload hC d_M_group_57 0 rfl ?_
            refine kg_if_eq hC d_M_group_59 (tgt := 101) rfl (fun _ => ?_) (fun q => absurd (by decide) q)
            refine kg_aload_n hC d_M_group_101 1 rfl ?_
            refine kg_iload hC d_M_group_102 0 rfl ?_
            refine kg_if_eq hC d_M_group_104 (tgt := 111) rfl (fun _ => ?_) (fun q => absurd (by decide) q)
            refine kg_iconst hC d_M_group_111 kn_i_1 ?_
            refine kg_at (pc' := 112) rfl ?_
            refine kg_puti hC (ko_38 hV) rfl ui_M ok_M nm_M (j := 0) (by decide) tw_604 rfl rfl rfl rfl d_M_group_112 rfl ?_
            refine kg_iload hC d_M_group_115 0 rfl ?_
            refine kg_if_ne hC d_M_group_117 (tgt := 121) rfl (fun q => absurd q (by decide)) (fun _ => ?_)
            exact kg_vret hC d_M_group_120 (by rw [kq_M_group, if_neg h3, if_neg h10, if_neg h15, if_neg h22, if_pos h29])
          · refine kg_iload_n hC d_M_group_32 1 rfl ?_
            refine kg_iconst hC d_M_group_33 kn_i_1 ?_
            refine kg_isub hC d_M_group_34 ?_
            refine kg_iload_n hC d_M_group_35 2 rfl ?_
            refine kg_irem hC d_M_group_36 (kn_ne0 (by decide) (by decide) h3) ?_
            refine kg_if_ne hC d_M_group_37 (tgt := 54) rfl (fun h37 => ?_) (fun h37 => ?_)
            · refine kg_iconst hC d_M_group_54 kn_i_0 ?_
              refine kg_istore hC d_M_group_55 [(4, .int (nI 0)), (0, .ref (kc_ad V 38)), (1, .int p), (2, .int q), (3, .int g)] rfl (by decide) ?_
              refine kg_iload hC d_M_group_57 0 rfl ?_
              refine kg_if_eq hC d_M_group_59 (tgt := 101) rfl (fun _ => ?_) (fun q => absurd (by decide) q)
              refine kg_aload_n hC d_M_group_101 1 rfl ?_
              refine kg_iload hC d_M_group_102 0 rfl ?_
              refine kg_if_eq hC d_M_group_104 (tgt := 111) rfl (fun _ => ?_) (fun q => absurd (by decide) q)
              refine kg_iconst hC d_M_group_111 kn_i_1 ?_
              refine kg_at (pc' := 112) rfl ?_
              refine kg_puti hC (ko_38 hV) rfl ui_M ok_M nm_M (j := 0) (by decide) tw_604 rfl rfl rfl rfl d_M_group_112 rfl ?_
              refine kg_iload hC d_M_group_115 0 rfl ?_
              refine kg_if_ne hC d_M_group_117 (tgt := 121) rfl (fun q => absurd q (by decide)) (fun _ => ?_)
              exact kg_vret hC d_M_group_120 (by rw [kq_M_group, if_neg h3, if_neg h10, if_neg h15, if_neg h22, if_neg h29, if_neg h37])
            · refine kg_iload_n hC d_M_group_40 3 rfl ?_
              refine kg_iconst hC d_M_group_41 kn_i_2 ?_
              refine kg_icmp_lt hC d_M_group_42 (tgt := 54) rfl (fun h42 => ?_) (fun h42 => ?_)
              · refine kg_iconst hC d_M_group_54 kn_i_0 ?_
                refine kg_istore hC d_M_group_55 [(4, .int (nI 0)), (0, .ref (kc_ad V 38)), (1, .int p), (2, .int q), (3, .int g)] rfl (by decide) ?_
                refine kg_iload hC d_M_group_57 0 rfl ?_
                refine kg_if_eq hC d_M_group_59 (tgt := 101) rfl (fun _ => ?_) (fun q => absurd (by decide) q)
                refine kg_aload_n hC d_M_group_101 1 rfl ?_
                refine kg_iload hC d_M_group_102 0 rfl ?_
                refine kg_if_eq hC d_M_group_104 (tgt := 111) rfl (fun _ => ?_) (fun q => absurd (by decide) q)
                refine kg_iconst hC d_M_group_111 kn_i_1 ?_
                refine kg_at (pc' := 112) rfl ?_
                refine kg_puti hC (ko_38 hV) rfl ui_M ok_M nm_M (j := 0) (by decide) tw_604 rfl rfl rfl rfl d_M_group_112 rfl ?_
                refine kg_iload hC d_M_group_115 0 rfl ?_
                refine kg_if_ne hC d_M_group_117 (tgt := 121) rfl (fun q => absurd q (by decide)) (fun _ => ?_)
                exact kg_vret hC d_M_group_120 (by rw [kq_M_group, if_neg h3, if_neg h10, if_neg h15, if_neg h22, if_neg h29, if_pos h37, if_pos h42])
              · refine kg_iload_n hC d_M_group_45 3 rfl ?_
                refine kg_iload_n hC d_M_group_46 1 rfl ?_
                refine kg_icmp_ge hC d_M_group_47 (tgt := 54) rfl (fun h47 => ?_) (fun h47 => ?_)
                · refine kg_iconst hC d_M_group_54 kn_i_0 ?_
                  refine kg_istore hC d_M_group_55 [(4, .int (nI 0)), (0, .ref (kc_ad V 38)), (1, .int p), (2, .int q), (3, .int g)] rfl (by decide) ?_
                  refine kg_iload hC d_M_group_57 0 rfl ?_
                  refine kg_if_eq hC d_M_group_59 (tgt := 101) rfl (fun _ => ?_) (fun q => absurd (by decide) q)
                  refine kg_aload_n hC d_M_group_101 1 rfl ?_
                  refine kg_iload hC d_M_group_102 0 rfl ?_
                  refine kg_if_eq hC d_M_group_104 (tgt := 111) rfl (fun _ => ?_) (fun q => absurd (by decide) q)
                  refine kg_iconst hC d_M_group_111 kn_i_1 ?_
                  refine kg_at (pc' := 112) rfl ?_
                  refine kg_puti hC (ko_38 hV) rfl ui_M ok_M nm_M (j := 0) (by decide) tw_604 rfl rfl rfl rfl d_M_group_112 rfl ?_
                  refine kg_iload hC d_M_group_115 0 rfl ?_
                  refine kg_if_ne hC d_M_group_117 (tgt := 121) rfl (fun q => absurd q (by decide)) (fun _ => ?_)
                  exact kg_vret hC d_M_group_120 (by rw [kq_M_group, if_neg h3, if_neg h10, if_neg h15, if_neg h22, if_neg h29, if_pos h37, if_neg h42, if_pos h47])
                · refine kg_iconst hC d_M_group_50 kn_i_1 ?_
                  refine kg_goto hC d_M_group_51 (tgt := 55) rfl ?_
                  refine kg_istore hC d_M_group_55 [(4, .int (nI 1)), (0, .ref (kc_ad V 38)), (1, .int p), (2, .int q), (3, .int g)] rfl (by decide) ?_
                  refine kg_iload hC d_M_group_57 0 rfl ?_
                  refine kg_if_eq hC d_M_group_59 (tgt := 101) rfl (fun q => absurd q (by decide)) (fun _ => ?_)
                  refine kg_aload_n hC d_M_group_62 1 rfl ?_
                  refine kg_geti hC (ko_38 hV) rfl ui_M (j := 1) (by decide) tw_605 rfl d_M_group_63 rfl ?_
                  refine kg_istore hC d_M_group_66 [(5, .int (σ 38 1)), (4, .int (nI 1)), (0, .ref (kc_ad V 38)), (1, .int p), (2, .int q), (3, .int g)] rfl (by decide) ?_
                  refine kg_at (pc' := 68) rfl ?_
                  refine kg_aload_n hC d_M_group_68 2 rfl ?_
                  refine kg_iload_n hC d_M_group_69 3 rfl ?_
                  refine kg_puti hC (ko_38 hV) rfl ui_M ok_M nm_M (j := 1) (by decide) tw_605 rfl rfl rfl rfl d_M_group_70 rfl ?_
                  refine kg_aload_n hC d_M_group_73 2 rfl ?_
                  refine kg_iload_n hC d_M_group_74 5 rfl ?_
                  refine kg_iload_n hC d_M_group_75 4 rfl ?_
                  refine kg_virtualI hC (kk_M_power (kc_l C) hV (kc_up σ 38 1 p) g q (kn_gt0 h3 h15)) cal_M_power tw_674 ts_M_power tw_672 (ko_38 hV) rfl rfl (by decide) (rest := []) rfl (Nat.le_of_ble_eq_true rfl) d_M_group_76 ?_ (by decide)
                  refine kg_iconst hC d_M_group_79 kn_i_1 ?_
                  refine kg_at (pc' := 80) rfl ?_
                  refine kg_icmp_ne hC d_M_group_80 (tgt := 87) rfl (fun h80 => ?_) (fun h80 => ?_)
                  · refine kg_iconst hC d_M_group_87 kn_i_0 ?_
                    refine kg_istore hC d_M_group_88 [(4, .int (nI 0)), (5, .int (σ 38 1)), (0, .ref (kc_ad V 38)), (1, .int p), (2, .int q), (3, .int g)] rfl (by decide) ?_
                    refine kg_iload hC d_M_group_90 0 rfl ?_
                    refine kg_if_ne hC d_M_group_92 (tgt := 101) rfl (fun q => absurd q (by decide)) (fun _ => ?_)
                    refine kg_aload_n hC d_M_group_95 2 rfl ?_
                    refine kg_iload hC d_M_group_96 1 rfl ?_
                    refine kg_puti hC (ko_38 hV) rfl ui_M ok_M nm_M (j := 1) (by decide) tw_605 rfl rfl rfl rfl d_M_group_98 rfl ?_
                    refine kg_aload_n hC d_M_group_101 2 rfl ?_
                    refine kg_at (pc' := 102) rfl ?_
                    refine kg_iload hC d_M_group_102 0 rfl ?_
                    refine kg_if_eq hC d_M_group_104 (tgt := 111) rfl (fun _ => ?_) (fun q => absurd (by decide) q)
                    refine kg_iconst hC d_M_group_111 kn_i_1 ?_
                    refine kg_puti hC (ko_38 hV) rfl ui_M ok_M nm_M (j := 0) (by decide) tw_604 rfl rfl rfl rfl d_M_group_112 rfl ?_
                    refine kg_iload hC d_M_group_115 0 rfl ?_
                    refine kg_if_ne hC d_M_group_117 (tgt := 121) rfl (fun q => absurd q (by decide)) (fun _ => ?_)
                    exact kg_vret hC d_M_group_120 (by rw [kq_M_group, if_neg h3, if_neg h10, if_neg h15, if_neg h22, if_neg h29, if_pos h37, if_neg h42, if_neg h47, if_neg h80])
                  · refine kg_iconst hC d_M_group_83 kn_i_1 ?_
                    refine kg_goto hC d_M_group_84 (tgt := 88) rfl ?_
                    refine kg_istore hC d_M_group_88 [(4, .int (nI 1)), (5, .int (σ 38 1)), (0, .ref (kc_ad V 38)), (1, .int p), (2, .int q), (3, .int g)] rfl (by decide) ?_
                    refine kg_iload hC d_M_group_90 0 rfl ?_
                    refine kg_if_ne hC d_M_group_92 (tgt := 101) rfl (fun _ => ?_) (fun q => absurd q (by decide))
                    refine kg_aload_n hC d_M_group_101 2 rfl ?_
                    refine kg_iload hC d_M_group_102 0 rfl ?_
                    refine kg_if_eq hC d_M_group_104 (tgt := 111) rfl (fun q => absurd q (by decide)) (fun _ => ?_)
                    refine kg_at (pc' := 107) rfl ?_
                    refine kg_iconst hC d_M_group_107 kn_i_0 ?_
                    refine kg_goto hC d_M_group_108 (tgt := 112) rfl ?_
                    refine kg_puti hC (ko_38 hV) rfl ui_M ok_M nm_M (j := 0) (by decide) tw_604 rfl rfl rfl rfl d_M_group_112 rfl ?_
                    refine kg_iload hC d_M_group_115 0 rfl ?_
                    refine kg_if_ne hC d_M_group_117 (tgt := 121) rfl (fun _ => ?_) (fun q => absurd q (by decide))
                    refine kg_aload_n hC d_M_group_121 2 rfl ?_
                    refine kg_iload_n hC d_M_group_122 4 rfl ?_
                    refine kg_puti hC (ko_38 hV) rfl ui_M ok_M nm_M (j := 2) (by decide) tw_606 rfl rfl rfl rfl d_M_group_123 rfl ?_
                    refine kg_at (pc' := 126) rfl ?_
                    refine kg_aload_n hC d_M_group_126 2 rfl ?_
                    refine kg_iload_n hC d_M_group_127 5 rfl ?_
                    refine kg_puti hC (ko_38 hV) rfl ui_M ok_M nm_M (j := 3) (by decide) tw_607 rfl rfl rfl rfl d_M_group_128 rfl ?_
                    refine kg_aload_n hC d_M_group_131 2 rfl ?_
                    refine kg_iconst hC d_M_group_132 kn_i_0 ?_
                    refine kg_puti hC (ko_38 hV) rfl ui_M ok_M nm_M (j := 4) (by decide) tw_608 rfl rfl rfl rfl d_M_group_133 rfl ?_
                    refine kg_aload_n hC d_M_group_136 2 rfl ?_
                    refine kg_iconst hC d_M_group_137 kn_i_0 ?_
                    refine kg_at (pc' := 138) rfl ?_
                    refine kg_puti hC (ko_38 hV) rfl ui_M ok_M nm_M (j := 5) (by decide) tw_609 rfl rfl rfl rfl d_M_group_138 rfl ?_
                    refine kg_aload_n hC d_M_group_141 2 rfl ?_
                    refine kg_iconst hC d_M_group_142 kn_i_0 ?_
                    refine kg_puti hC (ko_38 hV) rfl ui_M ok_M nm_M (j := 16) (by decide) tw_620 rfl rfl rfl rfl d_M_group_143 rfl ?_
                    exact kg_vret hC d_M_group_146 (by rw [kq_M_group, if_neg h3, if_neg h10, if_neg h15, if_neg h22, if_neg h29, if_pos h37, if_neg h42, if_neg h47, if_pos h80])
def kq_M_found_z (σ : kc_Sg) : kc_Sg := (kc_up σ 38 0 (nI 1))
set_option maxHeartbeats 4000000 in
set_option maxRecDepth 100000 in
theorem kk_M_found_z (l : Launch) {V : kc_V} (hV : kc_G V) (σ : kc_Sg) (a : Int32) (b : Int32) (c : Int32) (e : Int32) (hz : σ 38 1 = 0) : kc_Met l y_M_found b_M_found 6 none (kc_rm 1) V [.ref (kc_ad V 38), .int a, .int b, .int c, .int e] σ none (kq_M_found_z σ) := by
  refine kc_of (by decide) (Nat.le_of_ble_eq_true rfl) hV.ok (fun C _ hC => ?_)
  show kc_Go C V 6 (0, 0) (kc_E C V none (kq_M_found_z σ)) σ 0 [(0, .ref (kc_ad V 38)), (1, .int a), (2, .int b), (3, .int c), (4, .int e)] []
  refine kg_aload_n hC d_M_found_0 0 rfl ?_
  refine kg_aload_n hC d_M_found_1 0 rfl ?_
  refine kg_geti hC (ko_38 hV) rfl ui_M (j := 1) (by decide) tw_605 rfl d_M_found_2 rfl ?_
  refine kg_if_ne hC d_M_found_5 (tgt := 12) rfl (fun q => absurd q (fun q9 => q9 hz)) (fun _ => ?_)
  refine kg_iconst hC d_M_found_8 kn_i_1 ?_
  refine kg_goto hC d_M_found_9 (tgt := 50) rfl ?_
  refine kg_puti hC (ko_38 hV) rfl ui_M ok_M nm_M (j := 0) (by decide) tw_604 rfl rfl rfl rfl d_M_found_50 rfl ?_
  refine kg_aload_n hC d_M_found_53 0 rfl ?_
  refine kg_at (pc' := 54) rfl ?_
  refine kg_geti hC (ko_38 hV) rfl ui_M (j := 0) (by decide) tw_604 rfl d_M_found_54 rfl ?_
  refine kg_top (x' := (nI 1)) kc_up_jj ?_
  refine kg_if_eq hC d_M_found_57 (tgt := 61) rfl (fun q => absurd q (by decide)) (fun _ => ?_)
  exact kg_vret hC d_M_found_60 (by rw [kq_M_found_z])
def kf_M_found_1  (i1 : Nat) (a1 : kc_Sg) : kc_Sg := (kc_up a1 41 i1 (kp_M_power a1 (a1 38 3) (a1 44 i1)))
def kf_M_found_2  (i2 : Nat) (a2 : kc_Sg) : kc_Sg := (kc_up (kc_up a2 39 i2 (kp_M_valueAt a2 0 (nI i2))) 40 i2 (nI 0))
def kq_M_found (σ : kc_Sg) (a : Int32) (b : Int32) (c : Int32) (e : Int32) : kc_Sg := if (kp_M_noNumber σ a) = 0 then (if (kp_M_noNumber σ b) = 0 then (if (kp_M_noNumber σ c) = 0 then (if (kp_M_noNumber σ e) = 0 then (kq_M_newWeek (kc_up (kc_up (kc_up (kc_it (kf_M_found_2) 7 1 (kc_it (kf_M_found_1) 4 0 (kc_up (kc_up (kc_up (kc_up (kc_up σ 38 0 (nI 0)) 44 0 a) 44 1 b) 44 2 c) 44 3 e))) 38 4 (nI 1)) 38 16 (nI 0)) 38 5 (nI 0))) else (kc_up σ 38 0 (nI 2))) else (kc_up σ 38 0 (nI 2))) else (kc_up σ 38 0 (nI 2))) else (kc_up σ 38 0 (nI 2))
set_option maxHeartbeats 4000000 in
set_option maxRecDepth 100000 in
theorem kk_M_found (l : Launch) {V : kc_V} (hV : kc_G V) (σ : kc_Sg) (a : Int32) (b : Int32) (c : Int32) (e : Int32) (mp : ¬ σ 38 1 = 0) (mq : ¬ σ 38 2 = 0) : kc_Met l y_M_found b_M_found 6 none (kc_rm 2) V [.ref (kc_ad V 38), .int a, .int b, .int c, .int e] σ none (kq_M_found σ a b c e) := by
  refine kc_of (by decide) (Nat.le_of_ble_eq_true rfl) hV.ok (fun C _ hC => ?_)
  show kc_Go C V 6 (0, 0) (kc_E C V none (kq_M_found σ a b c e)) σ 0 [(0, .ref (kc_ad V 38)), (1, .int a), (2, .int b), (3, .int c), (4, .int e)] []
  refine kg_aload_n hC d_M_found_0 0 rfl ?_
  refine kg_aload_n hC d_M_found_1 0 rfl ?_
  refine kg_geti hC (ko_38 hV) rfl ui_M (j := 1) (by decide) tw_605 rfl d_M_found_2 rfl ?_
  refine kg_if_ne hC d_M_found_5 (tgt := 12) rfl (fun _ => ?_) (fun q => absurd q (mp))
  refine kg_aload_n hC d_M_found_12 0 rfl ?_
  refine kg_iload_n hC d_M_found_13 1 rfl ?_
  refine kg_virtualI hC (kk_M_noNumber (kc_l C) hV σ a) cal_M_noNumber tw_682 ts_M_noNumber tw_680 (ko_38 hV) rfl rfl (by decide) (rest := [.ref (kc_ad V 38)]) rfl (Nat.le_of_ble_eq_true rfl) d_M_found_14 ?_ (by decide)
  refine kg_if_ne hC d_M_found_17 (tgt := 45) rfl (fun h17 => ?_) (fun h17 => ?_)
  · refine kg_iconst hC d_M_found_45 kn_i_2 ?_
    refine kg_goto hC d_M_found_46 (tgt := 50) rfl ?_
    refine kg_puti hC (ko_38 hV) rfl ui_M ok_M nm_M (j := 0) (by decide) tw_604 rfl rfl rfl rfl d_M_found_50 rfl ?_
    refine kg_aload_n hC d_M_found_53 0 rfl ?_
    refine kg_geti hC (ko_38 hV) rfl ui_M (j := 0) (by decide) tw_604 rfl d_M_found_54 rfl ?_
    refine kg_top (x' := (nI 2)) kc_up_jj ?_
    refine kg_if_eq hC d_M_found_57 (tgt := 61) rfl (fun q => absurd q (by decide)) (fun _ => ?_)
    exact kg_vret hC d_M_found_60 (by rw [kq_M_found, if_neg h17])
  · refine kg_aload_n hC d_M_found_20 0 rfl ?_
    refine kg_iload_n hC d_M_found_21 2 rfl ?_
    refine kg_virtualI hC (kk_M_noNumber (kc_l C) hV σ b) cal_M_noNumber tw_682 ts_M_noNumber tw_680 (ko_38 hV) rfl rfl (by decide) (rest := [.ref (kc_ad V 38)]) rfl (Nat.le_of_ble_eq_true rfl) d_M_found_22 ?_ (by decide)
    refine kg_if_ne hC d_M_found_25 (tgt := 45) rfl (fun h25 => ?_) (fun h25 => ?_)
    · refine kg_iconst hC d_M_found_45 kn_i_2 ?_
      refine kg_goto hC d_M_found_46 (tgt := 50) rfl ?_
      refine kg_puti hC (ko_38 hV) rfl ui_M ok_M nm_M (j := 0) (by decide) tw_604 rfl rfl rfl rfl d_M_found_50 rfl ?_
      refine kg_aload_n hC d_M_found_53 0 rfl ?_
      refine kg_geti hC (ko_38 hV) rfl ui_M (j := 0) (by decide) tw_604 rfl d_M_found_54 rfl ?_
      refine kg_top (x' := (nI 2)) kc_up_jj ?_
      refine kg_if_eq hC d_M_found_57 (tgt := 61) rfl (fun q => absurd q (by decide)) (fun _ => ?_)
      exact kg_vret hC d_M_found_60 (by rw [kq_M_found, if_pos h17, if_neg h25])
    · refine kg_aload_n hC d_M_found_28 0 rfl ?_
      refine kg_iload_n hC d_M_found_29 3 rfl ?_
      refine kg_virtualI hC (kk_M_noNumber (kc_l C) hV σ c) cal_M_noNumber tw_682 ts_M_noNumber tw_680 (ko_38 hV) rfl rfl (by decide) (rest := [.ref (kc_ad V 38)]) rfl (Nat.le_of_ble_eq_true rfl) d_M_found_30 ?_ (by decide)
      refine kg_if_ne hC d_M_found_33 (tgt := 45) rfl (fun h33 => ?_) (fun h33 => ?_)
      · refine kg_iconst hC d_M_found_45 kn_i_2 ?_
        refine kg_goto hC d_M_found_46 (tgt := 50) rfl ?_
        refine kg_puti hC (ko_38 hV) rfl ui_M ok_M nm_M (j := 0) (by decide) tw_604 rfl rfl rfl rfl d_M_found_50 rfl ?_
        refine kg_aload_n hC d_M_found_53 0 rfl ?_
        refine kg_geti hC (ko_38 hV) rfl ui_M (j := 0) (by decide) tw_604 rfl d_M_found_54 rfl ?_
        refine kg_top (x' := (nI 2)) kc_up_jj ?_
        refine kg_if_eq hC d_M_found_57 (tgt := 61) rfl (fun q => absurd q (by decide)) (fun _ => ?_)
        exact kg_vret hC d_M_found_60 (by rw [kq_M_found, if_pos h17, if_pos h25, if_neg h33])
      · refine kg_aload_n hC d_M_found_36 0 rfl ?_
        refine kg_iload hC d_M_found_37 4 rfl ?_
        refine kg_virtualI hC (kk_M_noNumber (kc_l C) hV σ e) cal_M_noNumber tw_682 ts_M_noNumber tw_680 (ko_38 hV) rfl rfl (by decide) (rest := [.ref (kc_ad V 38)]) rfl (Nat.le_of_ble_eq_true rfl) d_M_found_39 ?_ (by decide)
        refine kg_if_eq hC d_M_found_42 (tgt := 49) rfl (fun h42 => ?_) (fun h42 => ?_)
        · refine kg_iconst hC d_M_found_49 kn_i_0 ?_
          refine kg_puti hC (ko_38 hV) rfl ui_M ok_M nm_M (j := 0) (by decide) tw_604 rfl rfl rfl rfl d_M_found_50 rfl ?_
          refine kg_aload_n hC d_M_found_53 0 rfl ?_
          refine kg_geti hC (ko_38 hV) rfl ui_M (j := 0) (by decide) tw_604 rfl d_M_found_54 rfl ?_
          refine kg_top (x' := (nI 0)) kc_up_jj ?_
          refine kg_if_eq hC d_M_found_57 (tgt := 61) rfl (fun _ => ?_) (fun q => absurd (by decide) q)
          refine kg_aload_n hC d_M_found_61 0 rfl ?_
          refine kg_getr hC (ko_38 hV) rfl ui_M (j := 11) (by decide) tw_615 rfl d_M_found_62 rfl ?_
          refine kg_iconst hC d_M_found_65 kn_i_0 ?_
          refine kg_at (pc' := 66) rfl ?_
          refine kg_iload_n hC d_M_found_66 1 rfl ?_
          refine kg_iast hC (ka_44 hV) (i := 0) rfl (by decide) d_M_found_67 ?_
          refine kg_aload_n hC d_M_found_68 0 rfl ?_
          refine kg_getr hC (ko_38 hV) rfl ui_M (j := 11) (by decide) tw_615 rfl d_M_found_69 rfl ?_
          refine kg_iconst hC d_M_found_72 kn_i_1 ?_
          refine kg_iload_n hC d_M_found_73 2 rfl ?_
          refine kg_iast hC (ka_44 hV) (i := 1) rfl (by decide) d_M_found_74 ?_
          refine kg_aload_n hC d_M_found_75 0 rfl ?_
          refine kg_at (pc' := 76) rfl ?_
          refine kg_getr hC (ko_38 hV) rfl ui_M (j := 11) (by decide) tw_615 rfl d_M_found_76 rfl ?_
          refine kg_iconst hC d_M_found_79 kn_i_2 ?_
          refine kg_iload_n hC d_M_found_80 3 rfl ?_
          refine kg_iast hC (ka_44 hV) (i := 2) rfl (by decide) d_M_found_81 ?_
          refine kg_aload_n hC d_M_found_82 0 rfl ?_
          refine kg_getr hC (ko_38 hV) rfl ui_M (j := 11) (by decide) tw_615 rfl d_M_found_83 rfl ?_
          refine kg_iconst hC d_M_found_86 kn_i_3 ?_
          refine kg_iload hC d_M_found_87 4 rfl ?_
          refine kg_at (pc' := 89) rfl ?_
          refine kg_iast hC (ka_44 hV) (i := 3) rfl (by decide) d_M_found_89 ?_
          refine kg_iconst hC d_M_found_90 kn_i_0 ?_
          refine kg_istore hC d_M_found_91 [(5, .int (nI 0)), (0, .ref (kc_ad V 38)), (1, .int a), (2, .int b), (3, .int c), (4, .int e)] rfl (by decide) ?_
          refine kc_loop (fun i1 a1 => (a1 38 1 = σ 38 1 ∧ a1 38 2 = σ 38 2 ∧ a1 38 16 = σ 38 16) → kc_Go C V 6 (0, 0) (kc_E C V none (kq_M_found σ a b c e)) a1 93 [(5, .int (nI i1)), (0, .ref (kc_ad V 38)), (1, .int a), (2, .int b), (3, .int c), (4, .int e)] []) (kf_M_found_1) 0 4 (fun i1 a1 ho1 hi1 hk1 hv1 => ?_) 4 0 (kc_up (kc_up (kc_up (kc_up (kc_up σ 38 0 (nI 0)) 44 0 a) 44 1 b) 44 2 c) 44 3 e) (Nat.le_refl _) rfl (fun hw1 => ?_) ⟨rfl, rfl, rfl⟩
          · refine kg_iload hC d_M_found_93 0 rfl ?_
            refine kg_iconst hC d_M_found_95 kn_i_4 ?_
            refine kg_icmp_ge hC d_M_found_96 (tgt := 127) rfl (fun q => absurd q (nI_ge (by omega) (by decide))) (fun _ => ?_)
            refine kg_aload_n hC d_M_found_99 1 rfl ?_
            refine kg_getr hC (ko_38 hV) rfl ui_M (j := 8) (by decide) tw_612 rfl d_M_found_100 rfl ?_
            refine kg_iload hC d_M_found_103 0 rfl ?_
            refine kg_aload_n hC d_M_found_105 1 rfl ?_
            refine kg_aload_n hC d_M_found_106 1 rfl ?_
            refine kg_at (pc' := 107) rfl ?_
            refine kg_geti hC (ko_38 hV) rfl ui_M (j := 3) (by decide) tw_607 rfl d_M_found_107 rfl ?_
            refine kg_aload_n hC d_M_found_110 1 rfl ?_
            refine kg_getr hC (ko_38 hV) rfl ui_M (j := 11) (by decide) tw_615 rfl d_M_found_111 rfl ?_
            refine kg_iload hC d_M_found_114 0 rfl ?_
            refine kg_iald hC (ka_44 hV) (i := i1) rfl (by omega) d_M_found_116 ?_
            refine kg_virtualI hC (kk_M_power (kc_l C) hV a1 (a1 38 3) (a1 44 i1) (by rw [hv1.1]; exact mp)) cal_M_power tw_674 ts_M_power tw_672 (ko_38 hV) rfl rfl (by decide) (rest := [.int (nI i1), .ref (kc_ad V 41)]) rfl (Nat.le_of_ble_eq_true rfl) d_M_found_117 ?_ (by decide)
            refine kg_iast hC (ka_41 hV) (i := i1) rfl (by omega) d_M_found_120 ?_
            refine kg_iinc hC d_M_found_121 0 rfl (kn_inc1 i1) [(5, .int (nI (i1 + 1))), (0, .ref (kc_ad V 38)), (1, .int a), (2, .int b), (3, .int c), (4, .int e)] rfl (by decide) ?_
            refine kg_at (pc' := 124) rfl ?_
            refine kg_goto hC d_M_found_124 (tgt := 93) rfl ?_
            exact kg_to (P := fun zz => (zz 38 1 = σ 38 1 ∧ zz 38 2 = σ 38 2 ∧ zz 38 16 = σ 38 16) → kc_Go C V 6 (0, 0) (kc_E C V none (kq_M_found σ a b c e)) zz 93 [(5, .int (nI (i1 + 1))), (0, .ref (kc_ad V 38)), (1, .int a), (2, .int b), (3, .int c), (4, .int e)] []) (b := (kc_up a1 41 i1 (kp_M_power a1 (a1 38 3) (a1 44 i1)))) (a := (kf_M_found_1) i1 a1) (by rw [kf_M_found_1]) hk1 hv1
          generalize hg1 : (kc_it (kf_M_found_1) 4 0 (kc_up (kc_up (kc_up (kc_up (kc_up σ 38 0 (nI 0)) 44 0 a) 44 1 b) 44 2 c) 44 3 e)) = τ1 at hw1 ⊢
          refine kg_iload hC d_M_found_93 0 rfl ?_
          refine kg_iconst hC d_M_found_95 kn_i_4 ?_
          refine kg_icmp_ge hC d_M_found_96 (tgt := 127) rfl (fun _ => ?_) (fun q => absurd (nI_le (by decide) (by decide)) q)
          refine kg_iconst hC d_M_found_127 kn_i_1 ?_
          refine kg_istore hC d_M_found_128 [(5, .int (nI 1)), (0, .ref (kc_ad V 38)), (1, .int a), (2, .int b), (3, .int c), (4, .int e)] rfl (by decide) ?_
          refine kc_loop (fun i2 a2 => (a2 38 1 = σ 38 1 ∧ a2 38 2 = σ 38 2 ∧ a2 38 16 = σ 38 16) → kc_Go C V 6 (0, 0) (kc_E C V none (kq_M_found σ a b c e)) a2 130 [(5, .int (nI i2)), (0, .ref (kc_ad V 38)), (1, .int a), (2, .int b), (3, .int c), (4, .int e)] []) (kf_M_found_2) 1 8 (fun i2 a2 ho2 hi2 hk2 hv2 => ?_) 7 1 τ1 (Nat.le_refl _) rfl (fun hw2 => ?_) hw1
          · refine kg_iload hC d_M_found_130 0 rfl ?_
            refine kg_bipush hC d_M_found_132 kn_b_8 ?_
            refine kg_icmp_ge hC d_M_found_134 (tgt := 165) rfl (fun q => absurd q (nI_ge (by omega) (by decide))) (fun _ => ?_)
            refine kg_aload_n hC d_M_found_137 1 rfl ?_
            refine kg_getr hC (ko_38 hV) rfl ui_M (j := 6) (by decide) tw_610 rfl d_M_found_138 rfl ?_
            refine kg_iload hC d_M_found_141 0 rfl ?_
            refine kg_aload_n hC d_M_found_143 1 rfl ?_
            refine kg_iconst hC d_M_found_144 kn_i_0 ?_
            refine kg_at (pc' := 145) rfl ?_
            refine kg_iload hC d_M_found_145 0 rfl ?_
            refine kg_virtualI hC (kk_M_valueAt (kc_l C) hV a2 0 (nI i2) (by rw [hv2.2.1]; exact mq) (by decide)) cal_M_valueAt tw_686 ts_M_valueAt tw_684 (ko_38 hV) rfl rfl (by decide) (rest := [.int (nI i2), .ref (kc_ad V 39)]) rfl (Nat.le_of_ble_eq_true rfl) d_M_found_147 ?_ (by decide)
            refine kg_iast hC (ka_39 hV) (i := i2) rfl (by omega) d_M_found_150 ?_
            refine kg_aload_n hC d_M_found_151 1 rfl ?_
            refine kg_getr hC (ko_38 hV) rfl ui_M (j := 7) (by decide) tw_611 rfl d_M_found_152 rfl ?_
            refine kg_iload hC d_M_found_155 0 rfl ?_
            refine kg_iconst hC d_M_found_157 kn_i_0 ?_
            refine kg_zast hC (ka_40 hV) (i := i2) rfl (by omega) (by decide) d_M_found_158 ?_
            refine kg_at (pc' := 159) rfl ?_
            refine kg_iinc hC d_M_found_159 0 rfl (kn_inc1 i2) [(5, .int (nI (i2 + 1))), (0, .ref (kc_ad V 38)), (1, .int a), (2, .int b), (3, .int c), (4, .int e)] rfl (by decide) ?_
            refine kg_goto hC d_M_found_162 (tgt := 130) rfl ?_
            exact kg_to (P := fun zz => (zz 38 1 = σ 38 1 ∧ zz 38 2 = σ 38 2 ∧ zz 38 16 = σ 38 16) → kc_Go C V 6 (0, 0) (kc_E C V none (kq_M_found σ a b c e)) zz 130 [(5, .int (nI (i2 + 1))), (0, .ref (kc_ad V 38)), (1, .int a), (2, .int b), (3, .int c), (4, .int e)] []) (b := (kc_up (kc_up a2 39 i2 (kp_M_valueAt a2 0 (nI i2))) 40 i2 (nI 0))) (a := (kf_M_found_2) i2 a2) (by rw [kf_M_found_2]) hk2 hv2
          generalize hg2 : (kc_it (kf_M_found_2) 7 1 τ1) = τ2 at hw2 ⊢
          refine kg_iload hC d_M_found_130 0 rfl ?_
          refine kg_bipush hC d_M_found_132 kn_b_8 ?_
          refine kg_icmp_ge hC d_M_found_134 (tgt := 165) rfl (fun _ => ?_) (fun q => absurd (nI_le (by decide) (by decide)) q)
          refine kg_aload_n hC d_M_found_165 1 rfl ?_
          refine kg_iconst hC d_M_found_166 kn_i_1 ?_
          refine kg_puti hC (ko_38 hV) rfl ui_M ok_M nm_M (j := 4) (by decide) tw_608 rfl rfl rfl rfl d_M_found_167 rfl ?_
          refine kg_aload_n hC d_M_found_170 1 rfl ?_
          refine kg_iconst hC d_M_found_171 kn_i_0 ?_
          refine kg_at (pc' := 172) rfl ?_
          refine kg_puti hC (ko_38 hV) rfl ui_M ok_M nm_M (j := 16) (by decide) tw_620 rfl rfl rfl rfl d_M_found_172 rfl ?_
          refine kg_aload_n hC d_M_found_175 1 rfl ?_
          refine kg_iconst hC d_M_found_176 kn_i_0 ?_
          refine kg_puti hC (ko_38 hV) rfl ui_M ok_M nm_M (j := 5) (by decide) tw_609 rfl rfl rfl rfl d_M_found_177 rfl ?_
          refine kg_aload_n hC d_M_found_180 1 rfl ?_
          refine kg_virtualV hC (kk_M_newWeek (kc_l C) hV (kc_up (kc_up (kc_up τ2 38 4 (nI 1)) 38 16 (nI 0)) 38 5 (nI 0))) cal_M_newWeek tw_690 ts_M_newWeek tw_688 (ko_38 hV) rfl rfl (by decide) (rest := []) rfl (Nat.le_of_ble_eq_true rfl) d_M_found_181 ?_ (by decide)
          exact kg_vret hC d_M_found_184 (by rw [kq_M_found, hg1, hg2, if_pos h17, if_pos h25, if_pos h33, if_pos h42])
        · refine kg_iconst hC d_M_found_45 kn_i_2 ?_
          refine kg_goto hC d_M_found_46 (tgt := 50) rfl ?_
          refine kg_puti hC (ko_38 hV) rfl ui_M ok_M nm_M (j := 0) (by decide) tw_604 rfl rfl rfl rfl d_M_found_50 rfl ?_
          refine kg_aload_n hC d_M_found_53 0 rfl ?_
          refine kg_geti hC (ko_38 hV) rfl ui_M (j := 0) (by decide) tw_604 rfl d_M_found_54 rfl ?_
          refine kg_top (x' := (nI 2)) kc_up_jj ?_
          refine kg_if_eq hC d_M_found_57 (tgt := 61) rfl (fun q => absurd q (by decide)) (fun _ => ?_)
          exact kg_vret hC d_M_found_60 (by rw [kq_M_found, if_pos h17, if_pos h25, if_pos h33, if_neg h42])
def kq_M_fault_x (σ : kc_Sg) (x : Int32) : kc_Sg := (kc_up σ 38 0 (kp_M_first σ x))
set_option maxHeartbeats 4000000 in
set_option maxRecDepth 100000 in
theorem kk_M_fault_x (l : Launch) {V : kc_V} (hV : kc_G V) (σ : kc_Sg) (x : Int32) (y : Int32) (hf : ¬ kp_M_first σ x = 0) : kc_Met l y_M_fault b_M_fault 5 none (kc_rm 3) V [.ref (kc_ad V 38), .int x, .int y] σ none (kq_M_fault_x σ x) := by
  refine kc_of (by decide) (Nat.le_of_ble_eq_true rfl) hV.ok (fun C _ hC => ?_)
  show kc_Go C V 5 (0, 0) (kc_E C V none (kq_M_fault_x σ x)) σ 0 [(0, .ref (kc_ad V 38)), (1, .int x), (2, .int y)] []
  refine kg_aload_n hC d_M_fault_0 0 rfl ?_
  refine kg_aload_n hC d_M_fault_1 0 rfl ?_
  refine kg_iload_n hC d_M_fault_2 1 rfl ?_
  refine kg_virtualI hC (kk_M_first (kc_l C) hV σ x) cal_M_first tw_698 ts_M_first tw_696 (ko_38 hV) rfl rfl (by decide) (rest := [.ref (kc_ad V 38)]) rfl (Nat.le_of_ble_eq_true rfl) d_M_fault_3 ?_ (by decide)
  refine kg_puti hC (ko_38 hV) rfl ui_M ok_M nm_M (j := 0) (by decide) tw_604 rfl rfl rfl rfl d_M_fault_6 rfl ?_
  refine kg_aload_n hC d_M_fault_9 0 rfl ?_
  refine kg_geti hC (ko_38 hV) rfl ui_M (j := 0) (by decide) tw_604 rfl d_M_fault_10 rfl ?_
  refine kg_top (x' := (kp_M_first σ x)) kc_up_jj ?_
  refine kg_if_ne hC d_M_fault_13 (tgt := 31) rfl (fun _ => ?_) (fun q => absurd q (hf))
  refine kg_at (pc' := 31) rfl ?_
  refine kg_aload_n hC d_M_fault_31 0 rfl ?_
  refine kg_geti hC (ko_38 hV) rfl ui_M (j := 0) (by decide) tw_604 rfl d_M_fault_32 rfl ?_
  refine kg_top (x' := (kp_M_first σ x)) kc_up_jj ?_
  refine kg_if_eq hC d_M_fault_35 (tgt := 39) rfl (fun q => absurd q (hf)) (fun _ => ?_)
  exact kg_vret hC d_M_fault_38 (by rw [kq_M_fault_x])
def kf_M_fault_1 (σ : kc_Sg) (d : Nat) (i1 : Nat) (a1 : Int32) : Int32 := (a1 + (if (nI i1) = (nI d) then (nI 0) else (if (σ 42 i1) ≤ 0 then (nI 0) else (nI 1))))
def kf_M_fault_2 (σ : kc_Sg) (d : Nat) (i2 : Nat) (a2 : Int32) : Int32 := (a2 + (if (nI i2) = (nI d) then (nI 0) else (if (σ 42 i2) ≤ 0 then (nI 0) else (nI 1))))
def kq_M_fault (σ : kc_Sg) (d : Nat) (y : Int32) : kc_Sg := if y < 0 then (kc_up (kc_up σ 38 0 (nI 0)) 38 0 (nI 3)) else (if y ≤ (nI 6) then (if y ≤ 0 then (if (σ 43 d) = 0 then (if y ≤ 0 then (kc_up (kc_up σ 38 0 (nI 0)) 42 d y) else (if (kc_it (kf_M_fault_1 σ d) 7 1 (nI 0)) ≤ (nI 3) then (kc_up (kc_up σ 38 0 (nI 0)) 42 d y) else (kc_up (kc_up σ 38 0 (nI 0)) 38 0 (nI 4)))) else (kc_up (kc_up σ 38 0 (nI 0)) 38 0 (nI 4))) else (if (σ 43 d) = 0 then (if y ≤ 0 then (kc_up (kc_up σ 38 0 (nI 0)) 42 d y) else (if (kc_it (kf_M_fault_2 σ d) 7 1 (nI 1)) ≤ (nI 3) then (kc_up (kc_up σ 38 0 (nI 0)) 42 d y) else (kc_up (kc_up σ 38 0 (nI 0)) 38 0 (nI 4)))) else (kc_up (kc_up σ 38 0 (nI 0)) 38 0 (nI 4)))) else (kc_up (kc_up σ 38 0 (nI 0)) 38 0 (nI 3)))
set_option maxHeartbeats 4000000 in
set_option maxRecDepth 100000 in
theorem kk_M_fault (l : Launch) {V : kc_V} (hV : kc_G V) (σ : kc_Sg) (d : Nat) (y : Int32) (hf : kp_M_first σ (nI d) = nI 0) (hd : d < 8) : kc_Met l y_M_fault b_M_fault 5 none (kc_rm 3) V [.ref (kc_ad V 38), .int (nI d), .int y] σ none (kq_M_fault σ d y) := by
  refine kc_of (by decide) (Nat.le_of_ble_eq_true rfl) hV.ok (fun C _ hC => ?_)
  show kc_Go C V 5 (0, 0) (kc_E C V none (kq_M_fault σ d y)) σ 0 [(0, .ref (kc_ad V 38)), (1, .int (nI d)), (2, .int y)] []
  refine kg_aload_n hC d_M_fault_0 0 rfl ?_
  refine kg_aload_n hC d_M_fault_1 0 rfl ?_
  refine kg_iload_n hC d_M_fault_2 1 rfl ?_
  refine kg_virtualI hC (kk_M_first (kc_l C) hV σ (nI d)) cal_M_first tw_698 ts_M_first tw_696 (ko_38 hV) rfl rfl (by decide) (rest := [.ref (kc_ad V 38)]) rfl (Nat.le_of_ble_eq_true rfl) d_M_fault_3 ?_ (by decide)
  refine kg_top (x' := (nI 0)) hf ?_
  refine kg_puti hC (ko_38 hV) rfl ui_M ok_M nm_M (j := 0) (by decide) tw_604 rfl rfl rfl rfl d_M_fault_6 rfl ?_
  refine kg_aload_n hC d_M_fault_9 0 rfl ?_
  refine kg_geti hC (ko_38 hV) rfl ui_M (j := 0) (by decide) tw_604 rfl d_M_fault_10 rfl ?_
  refine kg_top (x' := (nI 0)) kc_up_jj ?_
  refine kg_if_ne hC d_M_fault_13 (tgt := 31) rfl (fun q => absurd q (by decide)) (fun _ => ?_)
  refine kg_at (pc' := 16) rfl ?_
  refine kg_iload_n hC d_M_fault_16 2 rfl ?_
  refine kg_if_lt hC d_M_fault_17 (tgt := 26) rfl (fun h17 => ?_) (fun h17 => ?_)
  · refine kg_aload_n hC d_M_fault_26 0 rfl ?_
    refine kg_iconst hC d_M_fault_27 kn_i_3 ?_
    refine kg_puti hC (ko_38 hV) rfl ui_M ok_M nm_M (j := 0) (by decide) tw_604 rfl rfl rfl rfl d_M_fault_28 rfl ?_
    refine kg_aload_n hC d_M_fault_31 0 rfl ?_
    refine kg_geti hC (ko_38 hV) rfl ui_M (j := 0) (by decide) tw_604 rfl d_M_fault_32 rfl ?_
    refine kg_top (x' := (nI 3)) kc_up_jj ?_
    refine kg_if_eq hC d_M_fault_35 (tgt := 39) rfl (fun q => absurd q (by decide)) (fun _ => ?_)
    exact kg_vret hC d_M_fault_38 (by rw [kq_M_fault, if_pos h17])
  · refine kg_iload_n hC d_M_fault_20 2 rfl ?_
    refine kg_bipush hC d_M_fault_21 kn_b_6 ?_
    refine kg_icmp_le hC d_M_fault_23 (tgt := 31) rfl (fun h23 => ?_) (fun h23 => ?_)
    · refine kg_aload_n hC d_M_fault_31 0 rfl ?_
      refine kg_geti hC (ko_38 hV) rfl ui_M (j := 0) (by decide) tw_604 rfl d_M_fault_32 rfl ?_
      refine kg_top (x' := (nI 0)) kc_up_jj ?_
      refine kg_if_eq hC d_M_fault_35 (tgt := 39) rfl (fun _ => ?_) (fun q => absurd (by decide) q)
      refine kg_iload_n hC d_M_fault_39 2 rfl ?_
      refine kg_if_le hC d_M_fault_40 (tgt := 47) rfl (fun h40 => ?_) (fun h40 => ?_)
      · refine kg_iconst hC d_M_fault_47 kn_i_0 ?_
        refine kg_istore_n hC d_M_fault_48 [(3, .int (nI 0)), (0, .ref (kc_ad V 38)), (1, .int (nI d)), (2, .int y)] rfl (by decide) ?_
        refine kg_iconst hC d_M_fault_49 kn_i_1 ?_
        refine kg_istore hC d_M_fault_50 [(4, .int (nI 1)), (3, .int (nI 0)), (0, .ref (kc_ad V 38)), (1, .int (nI d)), (2, .int y)] rfl (by decide) ?_
        refine kc_loop (fun i1 a1 => kc_Go C V 5 (0, 0) (kc_E C V none (kq_M_fault σ d y)) (kc_up σ 38 0 (nI 0)) 52 [(4, .int (nI i1)), (3, .int a1), (0, .ref (kc_ad V 38)), (1, .int (nI d)), (2, .int y)] []) (kf_M_fault_1 σ d) 1 8 (fun i1 a1 ho1 hi1 hk1 => ?_) 7 1 (nI 0) (Nat.le_refl _) rfl ?_
        · refine kg_iload hC d_M_fault_52 0 rfl ?_
          refine kg_bipush hC d_M_fault_54 kn_b_8 ?_
          refine kg_icmp_ge hC d_M_fault_56 (tgt := 89) rfl (fun q => absurd q (nI_ge (by omega) (by decide))) (fun _ => ?_)
          refine kg_iload_n hC d_M_fault_59 1 rfl ?_
          refine kg_iload hC d_M_fault_60 0 rfl ?_
          refine kg_iload_n hC d_M_fault_62 3 rfl ?_
          have j63 : kc_Go C V 5 (0, 0) (kc_E C V none (kq_M_fault σ d y)) (kc_up σ 38 0 (nI 0)) 81 [(4, .int (nI i1)), (3, .int a1), (0, .ref (kc_ad V 38)), (1, .int (nI d)), (2, .int y)] [.int (if (nI i1) = (nI d) then (nI 0) else (if (σ 42 i1) ≤ 0 then (nI 0) else (nI 1))), .int a1] := by
            refine kg_iadd hC d_M_fault_81 ?_
            refine kg_istore_n hC d_M_fault_82 [(3, .int (a1 + (if (nI i1) = (nI d) then (nI 0) else (if (σ 42 i1) ≤ 0 then (nI 0) else (nI 1))))), (4, .int (nI i1)), (0, .ref (kc_ad V 38)), (1, .int (nI d)), (2, .int y)] rfl (by decide) ?_
            refine kg_iinc hC d_M_fault_83 1 rfl (kn_inc1 i1) [(4, .int (nI (i1 + 1))), (3, .int (a1 + (if (nI i1) = (nI d) then (nI 0) else (if (σ 42 i1) ≤ 0 then (nI 0) else (nI 1))))), (0, .ref (kc_ad V 38)), (1, .int (nI d)), (2, .int y)] rfl (by decide) ?_
            refine kg_goto hC d_M_fault_86 (tgt := 52) rfl ?_
            exact kg_to (P := fun zz => kc_Go C V 5 (0, 0) (kc_E C V none (kq_M_fault σ d y)) (kc_up σ 38 0 (nI 0)) 52 [(4, .int (nI (i1 + 1))), (3, .int zz), (0, .ref (kc_ad V 38)), (1, .int (nI d)), (2, .int y)] []) (b := (a1 + (if (nI i1) = (nI d) then (nI 0) else (if (σ 42 i1) ≤ 0 then (nI 0) else (nI 1))))) (a := (kf_M_fault_1 σ d) i1 a1) (by rw [kf_M_fault_1]) hk1
          refine kg_icmp_eq hC d_M_fault_63 (tgt := 80) rfl (fun h63 => ?_) (fun h63 => ?_)
          · refine kg_iconst hC d_M_fault_80 kn_i_0 ?_
            exact kg_to (P := fun zz => kc_Go C V 5 (0, 0) (kc_E C V none (kq_M_fault σ d y)) (kc_up σ 38 0 (nI 0)) 81 [(4, .int (nI i1)), (3, .int a1), (0, .ref (kc_ad V 38)), (1, .int (nI d)), (2, .int y)] (.int zz :: [.int a1])) (b := (nI 0)) (if_pos h63) j63
          · refine kg_aload_n hC d_M_fault_66 2 rfl ?_
            refine kg_getr hC (ko_38 hV) rfl ui_M (j := 9) (by decide) tw_613 rfl d_M_fault_67 rfl ?_
            refine kg_iload hC d_M_fault_70 0 rfl ?_
            refine kg_iald hC (ka_42 hV) (i := i1) rfl (by omega) d_M_fault_72 ?_
            refine kg_top (x' := (σ 42 i1)) (kc_up_nk (by decide)) ?_
            have j73 : kc_Go C V 5 (0, 0) (kc_E C V none (kq_M_fault σ d y)) (kc_up σ 38 0 (nI 0)) 81 [(4, .int (nI i1)), (3, .int a1), (0, .ref (kc_ad V 38)), (1, .int (nI d)), (2, .int y)] [.int (if (σ 42 i1) ≤ 0 then (nI 0) else (nI 1)), .int a1] := by
              exact kg_to (P := fun zz => kc_Go C V 5 (0, 0) (kc_E C V none (kq_M_fault σ d y)) (kc_up σ 38 0 (nI 0)) 81 [(4, .int (nI i1)), (3, .int a1), (0, .ref (kc_ad V 38)), (1, .int (nI d)), (2, .int y)] (.int zz :: [.int a1])) (b := (if (σ 42 i1) ≤ 0 then (nI 0) else (nI 1))) (if_neg h63) j63
            refine kg_if_le hC d_M_fault_73 (tgt := 80) rfl (fun h73 => ?_) (fun h73 => ?_)
            · refine kg_iconst hC d_M_fault_80 kn_i_0 ?_
              exact kg_to (P := fun zz => kc_Go C V 5 (0, 0) (kc_E C V none (kq_M_fault σ d y)) (kc_up σ 38 0 (nI 0)) 81 [(4, .int (nI i1)), (3, .int a1), (0, .ref (kc_ad V 38)), (1, .int (nI d)), (2, .int y)] (.int zz :: [.int a1])) (b := (nI 0)) (if_pos h73) j73
            · refine kg_iconst hC d_M_fault_76 kn_i_1 ?_
              refine kg_goto hC d_M_fault_77 (tgt := 81) rfl ?_
              exact kg_to (P := fun zz => kc_Go C V 5 (0, 0) (kc_E C V none (kq_M_fault σ d y)) (kc_up σ 38 0 (nI 0)) 81 [(4, .int (nI i1)), (3, .int a1), (0, .ref (kc_ad V 38)), (1, .int (nI d)), (2, .int y)] (.int zz :: [.int a1])) (b := (nI 1)) (if_neg h73) j73
        generalize hg1 : (kc_it (kf_M_fault_1 σ d) 7 1 (nI 0)) = τ1
        refine kg_iload hC d_M_fault_52 0 rfl ?_
        refine kg_bipush hC d_M_fault_54 kn_b_8 ?_
        refine kg_icmp_ge hC d_M_fault_56 (tgt := 89) rfl (fun _ => ?_) (fun q => absurd (nI_le (by decide) (by decide)) q)
        refine kg_aload_n hC d_M_fault_89 2 rfl ?_
        refine kg_getr hC (ko_38 hV) rfl ui_M (j := 10) (by decide) tw_614 rfl d_M_fault_90 rfl ?_
        refine kg_iload_n hC d_M_fault_93 3 rfl ?_
        refine kg_zald hC (ka_43 hV) (i := d) rfl hd d_M_fault_94 ?_
        refine kg_top (x' := (σ 43 d)) (kc_up_nk (by decide)) ?_
        refine kg_if_ne hC d_M_fault_95 (tgt := 107) rfl (fun h95 => ?_) (fun h95 => ?_)
        · refine kg_aload_n hC d_M_fault_107 2 rfl ?_
          refine kg_iconst hC d_M_fault_108 kn_i_4 ?_
          refine kg_puti hC (ko_38 hV) rfl ui_M ok_M nm_M (j := 0) (by decide) tw_604 rfl rfl rfl rfl d_M_fault_109 rfl ?_
          exact kg_vret hC d_M_fault_112 (by rw [kq_M_fault, hg1, if_neg h17, if_pos h23, if_pos h40, if_neg h95])
        · refine kg_iload_n hC d_M_fault_98 4 rfl ?_
          refine kg_if_le hC d_M_fault_99 (tgt := 113) rfl (fun h99 => ?_) (fun h99 => ?_)
          · refine kg_aload_n hC d_M_fault_113 2 rfl ?_
            refine kg_getr hC (ko_38 hV) rfl ui_M (j := 9) (by decide) tw_613 rfl d_M_fault_114 rfl ?_
            refine kg_iload_n hC d_M_fault_117 3 rfl ?_
            refine kg_iload_n hC d_M_fault_118 4 rfl ?_
            refine kg_iast hC (ka_42 hV) (i := d) rfl hd d_M_fault_119 ?_
            exact kg_vret hC d_M_fault_120 (by rw [kq_M_fault, hg1, if_neg h17, if_pos h23, if_pos h40, if_pos h95, if_pos h99])
          · refine kg_iload_n hC d_M_fault_102 1 rfl ?_
            refine kg_iconst hC d_M_fault_103 kn_i_3 ?_
            refine kg_icmp_le hC d_M_fault_104 (tgt := 113) rfl (fun h104 => ?_) (fun h104 => ?_)
            · refine kg_aload_n hC d_M_fault_113 2 rfl ?_
              refine kg_getr hC (ko_38 hV) rfl ui_M (j := 9) (by decide) tw_613 rfl d_M_fault_114 rfl ?_
              refine kg_iload_n hC d_M_fault_117 3 rfl ?_
              refine kg_iload_n hC d_M_fault_118 4 rfl ?_
              refine kg_iast hC (ka_42 hV) (i := d) rfl hd d_M_fault_119 ?_
              exact kg_vret hC d_M_fault_120 (by rw [kq_M_fault, hg1, if_neg h17, if_pos h23, if_pos h40, if_pos h95, if_neg h99, if_pos h104])
            · refine kg_aload_n hC d_M_fault_107 2 rfl ?_
              refine kg_iconst hC d_M_fault_108 kn_i_4 ?_
              refine kg_puti hC (ko_38 hV) rfl ui_M ok_M nm_M (j := 0) (by decide) tw_604 rfl rfl rfl rfl d_M_fault_109 rfl ?_
              exact kg_vret hC d_M_fault_112 (by rw [kq_M_fault, hg1, if_neg h17, if_pos h23, if_pos h40, if_pos h95, if_neg h99, if_neg h104])
      · refine kg_iconst hC d_M_fault_43 kn_i_1 ?_
        refine kg_goto hC d_M_fault_44 (tgt := 48) rfl ?_
        refine kg_istore_n hC d_M_fault_48 [(3, .int (nI 1)), (0, .ref (kc_ad V 38)), (1, .int (nI d)), (2, .int y)] rfl (by decide) ?_
        refine kg_iconst hC d_M_fault_49 kn_i_1 ?_
        refine kg_istore hC d_M_fault_50 [(4, .int (nI 1)), (3, .int (nI 1)), (0, .ref (kc_ad V 38)), (1, .int (nI d)), (2, .int y)] rfl (by decide) ?_
        refine kc_loop (fun i2 a2 => kc_Go C V 5 (0, 0) (kc_E C V none (kq_M_fault σ d y)) (kc_up σ 38 0 (nI 0)) 52 [(4, .int (nI i2)), (3, .int a2), (0, .ref (kc_ad V 38)), (1, .int (nI d)), (2, .int y)] []) (kf_M_fault_2 σ d) 1 8 (fun i2 a2 ho2 hi2 hk2 => ?_) 7 1 (nI 1) (Nat.le_refl _) rfl ?_
        · refine kg_iload hC d_M_fault_52 0 rfl ?_
          refine kg_bipush hC d_M_fault_54 kn_b_8 ?_
          refine kg_icmp_ge hC d_M_fault_56 (tgt := 89) rfl (fun q => absurd q (nI_ge (by omega) (by decide))) (fun _ => ?_)
          refine kg_iload_n hC d_M_fault_59 1 rfl ?_
          refine kg_iload hC d_M_fault_60 0 rfl ?_
          refine kg_iload_n hC d_M_fault_62 3 rfl ?_
          have j63 : kc_Go C V 5 (0, 0) (kc_E C V none (kq_M_fault σ d y)) (kc_up σ 38 0 (nI 0)) 81 [(4, .int (nI i2)), (3, .int a2), (0, .ref (kc_ad V 38)), (1, .int (nI d)), (2, .int y)] [.int (if (nI i2) = (nI d) then (nI 0) else (if (σ 42 i2) ≤ 0 then (nI 0) else (nI 1))), .int a2] := by
            refine kg_iadd hC d_M_fault_81 ?_
            refine kg_istore_n hC d_M_fault_82 [(3, .int (a2 + (if (nI i2) = (nI d) then (nI 0) else (if (σ 42 i2) ≤ 0 then (nI 0) else (nI 1))))), (4, .int (nI i2)), (0, .ref (kc_ad V 38)), (1, .int (nI d)), (2, .int y)] rfl (by decide) ?_
            refine kg_iinc hC d_M_fault_83 1 rfl (kn_inc1 i2) [(4, .int (nI (i2 + 1))), (3, .int (a2 + (if (nI i2) = (nI d) then (nI 0) else (if (σ 42 i2) ≤ 0 then (nI 0) else (nI 1))))), (0, .ref (kc_ad V 38)), (1, .int (nI d)), (2, .int y)] rfl (by decide) ?_
            refine kg_goto hC d_M_fault_86 (tgt := 52) rfl ?_
            exact kg_to (P := fun zz => kc_Go C V 5 (0, 0) (kc_E C V none (kq_M_fault σ d y)) (kc_up σ 38 0 (nI 0)) 52 [(4, .int (nI (i2 + 1))), (3, .int zz), (0, .ref (kc_ad V 38)), (1, .int (nI d)), (2, .int y)] []) (b := (a2 + (if (nI i2) = (nI d) then (nI 0) else (if (σ 42 i2) ≤ 0 then (nI 0) else (nI 1))))) (a := (kf_M_fault_2 σ d) i2 a2) (by rw [kf_M_fault_2]) hk2
          refine kg_icmp_eq hC d_M_fault_63 (tgt := 80) rfl (fun h63_2 => ?_) (fun h63_2 => ?_)
          · refine kg_iconst hC d_M_fault_80 kn_i_0 ?_
            exact kg_to (P := fun zz => kc_Go C V 5 (0, 0) (kc_E C V none (kq_M_fault σ d y)) (kc_up σ 38 0 (nI 0)) 81 [(4, .int (nI i2)), (3, .int a2), (0, .ref (kc_ad V 38)), (1, .int (nI d)), (2, .int y)] (.int zz :: [.int a2])) (b := (nI 0)) (if_pos h63_2) j63
          · refine kg_aload_n hC d_M_fault_66 2 rfl ?_
            refine kg_getr hC (ko_38 hV) rfl ui_M (j := 9) (by decide) tw_613 rfl d_M_fault_67 rfl ?_
            refine kg_iload hC d_M_fault_70 0 rfl ?_
            refine kg_iald hC (ka_42 hV) (i := i2) rfl (by omega) d_M_fault_72 ?_
            refine kg_top (x' := (σ 42 i2)) (kc_up_nk (by decide)) ?_
            have j73 : kc_Go C V 5 (0, 0) (kc_E C V none (kq_M_fault σ d y)) (kc_up σ 38 0 (nI 0)) 81 [(4, .int (nI i2)), (3, .int a2), (0, .ref (kc_ad V 38)), (1, .int (nI d)), (2, .int y)] [.int (if (σ 42 i2) ≤ 0 then (nI 0) else (nI 1)), .int a2] := by
              exact kg_to (P := fun zz => kc_Go C V 5 (0, 0) (kc_E C V none (kq_M_fault σ d y)) (kc_up σ 38 0 (nI 0)) 81 [(4, .int (nI i2)), (3, .int a2), (0, .ref (kc_ad V 38)), (1, .int (nI d)), (2, .int y)] (.int zz :: [.int a2])) (b := (if (σ 42 i2) ≤ 0 then (nI 0) else (nI 1))) (if_neg h63_2) j63
            refine kg_if_le hC d_M_fault_73 (tgt := 80) rfl (fun h73_2 => ?_) (fun h73_2 => ?_)
            · refine kg_iconst hC d_M_fault_80 kn_i_0 ?_
              exact kg_to (P := fun zz => kc_Go C V 5 (0, 0) (kc_E C V none (kq_M_fault σ d y)) (kc_up σ 38 0 (nI 0)) 81 [(4, .int (nI i2)), (3, .int a2), (0, .ref (kc_ad V 38)), (1, .int (nI d)), (2, .int y)] (.int zz :: [.int a2])) (b := (nI 0)) (if_pos h73_2) j73
            · refine kg_iconst hC d_M_fault_76 kn_i_1 ?_
              refine kg_goto hC d_M_fault_77 (tgt := 81) rfl ?_
              exact kg_to (P := fun zz => kc_Go C V 5 (0, 0) (kc_E C V none (kq_M_fault σ d y)) (kc_up σ 38 0 (nI 0)) 81 [(4, .int (nI i2)), (3, .int a2), (0, .ref (kc_ad V 38)), (1, .int (nI d)), (2, .int y)] (.int zz :: [.int a2])) (b := (nI 1)) (if_neg h73_2) j73
        generalize hg2 : (kc_it (kf_M_fault_2 σ d) 7 1 (nI 1)) = τ2
        refine kg_iload hC d_M_fault_52 0 rfl ?_
        refine kg_bipush hC d_M_fault_54 kn_b_8 ?_
        refine kg_icmp_ge hC d_M_fault_56 (tgt := 89) rfl (fun _ => ?_) (fun q => absurd (nI_le (by decide) (by decide)) q)
        refine kg_aload_n hC d_M_fault_89 2 rfl ?_
        refine kg_getr hC (ko_38 hV) rfl ui_M (j := 10) (by decide) tw_614 rfl d_M_fault_90 rfl ?_
        refine kg_iload_n hC d_M_fault_93 3 rfl ?_
        refine kg_zald hC (ka_43 hV) (i := d) rfl hd d_M_fault_94 ?_
        refine kg_top (x' := (σ 43 d)) (kc_up_nk (by decide)) ?_
        refine kg_if_ne hC d_M_fault_95 (tgt := 107) rfl (fun h95 => ?_) (fun h95 => ?_)
        · refine kg_aload_n hC d_M_fault_107 2 rfl ?_
          refine kg_iconst hC d_M_fault_108 kn_i_4 ?_
          refine kg_puti hC (ko_38 hV) rfl ui_M ok_M nm_M (j := 0) (by decide) tw_604 rfl rfl rfl rfl d_M_fault_109 rfl ?_
          exact kg_vret hC d_M_fault_112 (by rw [kq_M_fault, hg2, if_neg h17, if_pos h23, if_neg h40, if_neg h95])
        · refine kg_iload_n hC d_M_fault_98 4 rfl ?_
          refine kg_if_le hC d_M_fault_99 (tgt := 113) rfl (fun h99 => ?_) (fun h99 => ?_)
          · refine kg_aload_n hC d_M_fault_113 2 rfl ?_
            refine kg_getr hC (ko_38 hV) rfl ui_M (j := 9) (by decide) tw_613 rfl d_M_fault_114 rfl ?_
            refine kg_iload_n hC d_M_fault_117 3 rfl ?_
            refine kg_iload_n hC d_M_fault_118 4 rfl ?_
            refine kg_iast hC (ka_42 hV) (i := d) rfl hd d_M_fault_119 ?_
            exact kg_vret hC d_M_fault_120 (by rw [kq_M_fault, hg2, if_neg h17, if_pos h23, if_neg h40, if_pos h95, if_pos h99])
          · refine kg_iload_n hC d_M_fault_102 1 rfl ?_
            refine kg_iconst hC d_M_fault_103 kn_i_3 ?_
            refine kg_icmp_le hC d_M_fault_104 (tgt := 113) rfl (fun h104 => ?_) (fun h104 => ?_)
            · refine kg_aload_n hC d_M_fault_113 2 rfl ?_
              refine kg_getr hC (ko_38 hV) rfl ui_M (j := 9) (by decide) tw_613 rfl d_M_fault_114 rfl ?_
              refine kg_iload_n hC d_M_fault_117 3 rfl ?_
              refine kg_iload_n hC d_M_fault_118 4 rfl ?_
              refine kg_iast hC (ka_42 hV) (i := d) rfl hd d_M_fault_119 ?_
              exact kg_vret hC d_M_fault_120 (by rw [kq_M_fault, hg2, if_neg h17, if_pos h23, if_neg h40, if_pos h95, if_neg h99, if_pos h104])
            · refine kg_aload_n hC d_M_fault_107 2 rfl ?_
              refine kg_iconst hC d_M_fault_108 kn_i_4 ?_
              refine kg_puti hC (ko_38 hV) rfl ui_M ok_M nm_M (j := 0) (by decide) tw_604 rfl rfl rfl rfl d_M_fault_109 rfl ?_
              exact kg_vret hC d_M_fault_112 (by rw [kq_M_fault, hg2, if_neg h17, if_pos h23, if_neg h40, if_pos h95, if_neg h99, if_neg h104])
    · refine kg_aload_n hC d_M_fault_26 0 rfl ?_
      refine kg_iconst hC d_M_fault_27 kn_i_3 ?_
      refine kg_puti hC (ko_38 hV) rfl ui_M ok_M nm_M (j := 0) (by decide) tw_604 rfl rfl rfl rfl d_M_fault_28 rfl ?_
      refine kg_aload_n hC d_M_fault_31 0 rfl ?_
      refine kg_geti hC (ko_38 hV) rfl ui_M (j := 0) (by decide) tw_604 rfl d_M_fault_32 rfl ?_
      refine kg_top (x' := (nI 3)) kc_up_jj ?_
      refine kg_if_eq hC d_M_fault_35 (tgt := 39) rfl (fun q => absurd q (by decide)) (fun _ => ?_)
      exact kg_vret hC d_M_fault_38 (by rw [kq_M_fault, if_neg h17, if_neg h23])
def kq_M_deal_x (σ : kc_Sg) (x : Int32) : kc_Sg := (kc_up σ 38 0 (kp_M_first σ x))
set_option maxHeartbeats 4000000 in
set_option maxRecDepth 100000 in
theorem kk_M_deal_x (l : Launch) {V : kc_V} (hV : kc_G V) (σ : kc_Sg) (x : Int32) (b : Int32) (c : Int32) (e : Int32) (hf : ¬ kp_M_first σ x = 0) : kc_Met l y_M_deal b_M_deal 6 none (kc_rm 3) V [.ref (kc_ad V 38), .int x, .int b, .int c, .int e] σ none (kq_M_deal_x σ x) := by
  refine kc_of (by decide) (Nat.le_of_ble_eq_true rfl) hV.ok (fun C _ hC => ?_)
  show kc_Go C V 6 (0, 0) (kc_E C V none (kq_M_deal_x σ x)) σ 0 [(0, .ref (kc_ad V 38)), (1, .int x), (2, .int b), (3, .int c), (4, .int e)] []
  refine kg_aload_n hC d_M_deal_0 0 rfl ?_
  refine kg_aload_n hC d_M_deal_1 0 rfl ?_
  refine kg_iload_n hC d_M_deal_2 1 rfl ?_
  refine kg_virtualI hC (kk_M_first (kc_l C) hV σ x) cal_M_first tw_698 ts_M_first tw_696 (ko_38 hV) rfl rfl (by decide) (rest := [.ref (kc_ad V 38)]) rfl (Nat.le_of_ble_eq_true rfl) d_M_deal_3 ?_ (by decide)
  refine kg_puti hC (ko_38 hV) rfl ui_M ok_M nm_M (j := 0) (by decide) tw_604 rfl rfl rfl rfl d_M_deal_6 rfl ?_
  refine kg_aload_n hC d_M_deal_9 0 rfl ?_
  refine kg_geti hC (ko_38 hV) rfl ui_M (j := 0) (by decide) tw_604 rfl d_M_deal_10 rfl ?_
  refine kg_top (x' := (kp_M_first σ x)) kc_up_jj ?_
  refine kg_if_ne hC d_M_deal_13 (tgt := 46) rfl (fun _ => ?_) (fun q => absurd q (hf))
  refine kg_at (pc' := 46) rfl ?_
  refine kg_aload_n hC d_M_deal_46 0 rfl ?_
  refine kg_geti hC (ko_38 hV) rfl ui_M (j := 0) (by decide) tw_604 rfl d_M_deal_47 rfl ?_
  refine kg_top (x' := (kp_M_first σ x)) kc_up_jj ?_
  refine kg_if_ne hC d_M_deal_50 (tgt := 77) rfl (fun _ => ?_) (fun q => absurd q (hf))
  refine kg_aload_n hC d_M_deal_77 0 rfl ?_
  refine kg_geti hC (ko_38 hV) rfl ui_M (j := 0) (by decide) tw_604 rfl d_M_deal_78 rfl ?_
  refine kg_top (x' := (kp_M_first σ x)) kc_up_jj ?_
  refine kg_if_eq hC d_M_deal_81 (tgt := 85) rfl (fun q => absurd q (hf)) (fun _ => ?_)
  exact kg_vret hC d_M_deal_84 (by rw [kq_M_deal_x])
def kf_M_deal_1 (d : Nat) (i1 : Nat) (a1 : kc_Sg) : kc_Sg := (kc_up a1 45 ((4 * d) + i1) (kp_M_power a1 (a1 38 3) (a1 44 ((4 * d) + i1))))
def kf_M_deal_2 (d : Nat) (i2 : Nat) (a2 : kc_Sg) : kc_Sg := (kc_up a2 46 ((8 * d) + i2) (kp_M_sent a2 d (nI i2)))
def kq_M_deal (σ : kc_Sg) (d : Nat) (b : Int32) (c : Int32) (e : Int32) : kc_Sg := if (kp_M_noNumber (kc_up σ 38 0 (nI 0)) b) = 0 then (if (kp_M_noNumber (kc_up σ 38 0 (nI 0)) c) = 0 then (if (kp_M_noNumber (kc_up σ 38 0 (nI 0)) e) = 0 then (if (σ 43 d) = 0 then (if (σ 38 16) = (nI 250) then (kc_up (kc_up σ 38 0 (nI 0)) 38 0 (nI 4)) else (if (σ 42 d) = (nI 1) then (kc_up (kc_up σ 38 0 (nI 0)) 43 d (nI 1)) else (kc_it (kf_M_deal_2 d) 7 1 (kq_M_put (kc_it (kf_M_deal_1 d) 4 0 (kc_up (kc_up (kc_up (kc_up (kc_up (kc_up σ 38 0 (nI 0)) 43 d (nI 1)) 44 (4 * d) (if (σ 42 d) = (nI 3) then (nI 1) else (nI 0))) 44 ((4 * d) + 1) b) 44 ((4 * d) + 2) c) 44 ((4 * d) + 3) e)) (nI 1) d (nI 0) (nI 0))))) else (kc_up (kc_up σ 38 0 (nI 0)) 38 0 (nI 4))) else (kc_up (kc_up σ 38 0 (nI 0)) 38 0 (nI 3))) else (kc_up (kc_up σ 38 0 (nI 0)) 38 0 (nI 3))) else (kc_up (kc_up σ 38 0 (nI 0)) 38 0 (nI 3))
set_option maxHeartbeats 4000000 in
set_option maxRecDepth 100000 in
theorem kk_M_deal (l : Launch) {V : kc_V} (hV : kc_G V) (σ : kc_Sg) (d : Nat) (b : Int32) (c : Int32) (e : Int32) (hf : kp_M_first σ (nI d) = nI 0) (mp : ¬ σ 38 1 = 0) (mq : ¬ σ 38 2 = 0) (hb : kc_mbe σ) (hd : d < 8) : kc_Met l y_M_deal b_M_deal 6 none (kc_rm 3) V [.ref (kc_ad V 38), .int (nI d), .int b, .int c, .int e] σ none (kq_M_deal σ d b c e) := by
  refine kc_of (by decide) (Nat.le_of_ble_eq_true rfl) hV.ok (fun C _ hC => ?_)
  show kc_Go C V 6 (0, 0) (kc_E C V none (kq_M_deal σ d b c e)) σ 0 [(0, .ref (kc_ad V 38)), (1, .int (nI d)), (2, .int b), (3, .int c), (4, .int e)] []
  refine kg_aload_n hC d_M_deal_0 0 rfl ?_
  refine kg_aload_n hC d_M_deal_1 0 rfl ?_
  refine kg_iload_n hC d_M_deal_2 1 rfl ?_
  refine kg_virtualI hC (kk_M_first (kc_l C) hV σ (nI d)) cal_M_first tw_698 ts_M_first tw_696 (ko_38 hV) rfl rfl (by decide) (rest := [.ref (kc_ad V 38)]) rfl (Nat.le_of_ble_eq_true rfl) d_M_deal_3 ?_ (by decide)
  refine kg_top (x' := (nI 0)) hf ?_
  refine kg_puti hC (ko_38 hV) rfl ui_M ok_M nm_M (j := 0) (by decide) tw_604 rfl rfl rfl rfl d_M_deal_6 rfl ?_
  refine kg_aload_n hC d_M_deal_9 0 rfl ?_
  refine kg_geti hC (ko_38 hV) rfl ui_M (j := 0) (by decide) tw_604 rfl d_M_deal_10 rfl ?_
  refine kg_top (x' := (nI 0)) kc_up_jj ?_
  refine kg_if_ne hC d_M_deal_13 (tgt := 46) rfl (fun q => absurd q (by decide)) (fun _ => ?_)
  refine kg_at (pc' := 16) rfl ?_
  refine kg_aload_n hC d_M_deal_16 0 rfl ?_
  refine kg_iload_n hC d_M_deal_17 2 rfl ?_
  refine kg_virtualI hC (kk_M_noNumber (kc_l C) hV (kc_up σ 38 0 (nI 0)) b) cal_M_noNumber tw_682 ts_M_noNumber tw_680 (ko_38 hV) rfl rfl (by decide) (rest := []) rfl (Nat.le_of_ble_eq_true rfl) d_M_deal_18 ?_ (by decide)
  refine kg_if_ne hC d_M_deal_21 (tgt := 41) rfl (fun h21 => ?_) (fun h21 => ?_)
  · refine kg_aload_n hC d_M_deal_41 0 rfl ?_
    refine kg_iconst hC d_M_deal_42 kn_i_3 ?_
    refine kg_puti hC (ko_38 hV) rfl ui_M ok_M nm_M (j := 0) (by decide) tw_604 rfl rfl rfl rfl d_M_deal_43 rfl ?_
    refine kg_aload_n hC d_M_deal_46 0 rfl ?_
    refine kg_geti hC (ko_38 hV) rfl ui_M (j := 0) (by decide) tw_604 rfl d_M_deal_47 rfl ?_
    refine kg_top (x' := (nI 3)) kc_up_jj ?_
    refine kg_if_ne hC d_M_deal_50 (tgt := 77) rfl (fun _ => ?_) (fun q => absurd q (by decide))
    refine kg_aload_n hC d_M_deal_77 0 rfl ?_
    refine kg_geti hC (ko_38 hV) rfl ui_M (j := 0) (by decide) tw_604 rfl d_M_deal_78 rfl ?_
    refine kg_top (x' := (nI 3)) kc_up_jj ?_
    refine kg_at (pc' := 81) rfl ?_
    refine kg_if_eq hC d_M_deal_81 (tgt := 85) rfl (fun q => absurd q (by decide)) (fun _ => ?_)
    exact kg_vret hC d_M_deal_84 (by rw [kq_M_deal, if_neg h21])
  · refine kg_aload_n hC d_M_deal_24 0 rfl ?_
    refine kg_iload_n hC d_M_deal_25 3 rfl ?_
    refine kg_virtualI hC (kk_M_noNumber (kc_l C) hV (kc_up σ 38 0 (nI 0)) c) cal_M_noNumber tw_682 ts_M_noNumber tw_680 (ko_38 hV) rfl rfl (by decide) (rest := []) rfl (Nat.le_of_ble_eq_true rfl) d_M_deal_26 ?_ (by decide)
    refine kg_if_ne hC d_M_deal_29 (tgt := 41) rfl (fun h29 => ?_) (fun h29 => ?_)
    · refine kg_aload_n hC d_M_deal_41 0 rfl ?_
      refine kg_iconst hC d_M_deal_42 kn_i_3 ?_
      refine kg_puti hC (ko_38 hV) rfl ui_M ok_M nm_M (j := 0) (by decide) tw_604 rfl rfl rfl rfl d_M_deal_43 rfl ?_
      refine kg_aload_n hC d_M_deal_46 0 rfl ?_
      refine kg_geti hC (ko_38 hV) rfl ui_M (j := 0) (by decide) tw_604 rfl d_M_deal_47 rfl ?_
      refine kg_top (x' := (nI 3)) kc_up_jj ?_
      refine kg_if_ne hC d_M_deal_50 (tgt := 77) rfl (fun _ => ?_) (fun q => absurd q (by decide))
      refine kg_aload_n hC d_M_deal_77 0 rfl ?_
      refine kg_geti hC (ko_38 hV) rfl ui_M (j := 0) (by decide) tw_604 rfl d_M_deal_78 rfl ?_
      refine kg_top (x' := (nI 3)) kc_up_jj ?_
      refine kg_at (pc' := 81) rfl ?_
      refine kg_if_eq hC d_M_deal_81 (tgt := 85) rfl (fun q => absurd q (by decide)) (fun _ => ?_)
      exact kg_vret hC d_M_deal_84 (by rw [kq_M_deal, if_pos h21, if_neg h29])
    · refine kg_aload_n hC d_M_deal_32 0 rfl ?_
      refine kg_iload hC d_M_deal_33 4 rfl ?_
      refine kg_virtualI hC (kk_M_noNumber (kc_l C) hV (kc_up σ 38 0 (nI 0)) e) cal_M_noNumber tw_682 ts_M_noNumber tw_680 (ko_38 hV) rfl rfl (by decide) (rest := []) rfl (Nat.le_of_ble_eq_true rfl) d_M_deal_35 ?_ (by decide)
      refine kg_if_eq hC d_M_deal_38 (tgt := 46) rfl (fun h38 => ?_) (fun h38 => ?_)
      · refine kg_aload_n hC d_M_deal_46 0 rfl ?_
        refine kg_geti hC (ko_38 hV) rfl ui_M (j := 0) (by decide) tw_604 rfl d_M_deal_47 rfl ?_
        refine kg_top (x' := (nI 0)) kc_up_jj ?_
        refine kg_if_ne hC d_M_deal_50 (tgt := 77) rfl (fun q => absurd q (by decide)) (fun _ => ?_)
        refine kg_aload_n hC d_M_deal_53 0 rfl ?_
        refine kg_getr hC (ko_38 hV) rfl ui_M (j := 10) (by decide) tw_614 rfl d_M_deal_54 rfl ?_
        refine kg_iload_n hC d_M_deal_57 1 rfl ?_
        refine kg_zald hC (ka_43 hV) (i := d) rfl hd d_M_deal_58 ?_
        refine kg_top (x' := (σ 43 d)) (kc_up_nk (by decide)) ?_
        refine kg_if_ne hC d_M_deal_59 (tgt := 72) rfl (fun h59 => ?_) (fun h59 => ?_)
        · refine kg_aload_n hC d_M_deal_72 0 rfl ?_
          refine kg_iconst hC d_M_deal_73 kn_i_4 ?_
          refine kg_puti hC (ko_38 hV) rfl ui_M ok_M nm_M (j := 0) (by decide) tw_604 rfl rfl rfl rfl d_M_deal_74 rfl ?_
          refine kg_aload_n hC d_M_deal_77 0 rfl ?_
          refine kg_geti hC (ko_38 hV) rfl ui_M (j := 0) (by decide) tw_604 rfl d_M_deal_78 rfl ?_
          refine kg_top (x' := (nI 4)) kc_up_jj ?_
          refine kg_if_eq hC d_M_deal_81 (tgt := 85) rfl (fun q => absurd q (by decide)) (fun _ => ?_)
          exact kg_vret hC d_M_deal_84 (by rw [kq_M_deal, if_pos h21, if_pos h29, if_pos h38, if_neg h59])
        · refine kg_aload_n hC d_M_deal_62 0 rfl ?_
          refine kg_geti hC (ko_38 hV) rfl ui_M (j := 16) (by decide) tw_620 rfl d_M_deal_63 rfl ?_
          refine kg_top (x' := (σ 38 16)) (kc_up_nj (by decide)) ?_
          refine kg_sipush hC d_M_deal_66 kn_s_250 ?_
          refine kg_icmp_ne hC d_M_deal_69 (tgt := 77) rfl (fun h69 => ?_) (fun h69 => ?_)
          · refine kg_aload_n hC d_M_deal_77 0 rfl ?_
            refine kg_geti hC (ko_38 hV) rfl ui_M (j := 0) (by decide) tw_604 rfl d_M_deal_78 rfl ?_
            refine kg_top (x' := (nI 0)) kc_up_jj ?_
            refine kg_if_eq hC d_M_deal_81 (tgt := 85) rfl (fun _ => ?_) (fun q => absurd (by decide) q)
            refine kg_aload_n hC d_M_deal_85 0 rfl ?_
            refine kg_getr hC (ko_38 hV) rfl ui_M (j := 10) (by decide) tw_614 rfl d_M_deal_86 rfl ?_
            refine kg_iload_n hC d_M_deal_89 1 rfl ?_
            refine kg_iconst hC d_M_deal_90 kn_i_1 ?_
            refine kg_zast hC (ka_43 hV) (i := d) rfl hd (by decide) d_M_deal_91 ?_
            refine kg_at (pc' := 92) rfl ?_
            refine kg_aload_n hC d_M_deal_92 0 rfl ?_
            refine kg_getr hC (ko_38 hV) rfl ui_M (j := 9) (by decide) tw_613 rfl d_M_deal_93 rfl ?_
            refine kg_iload_n hC d_M_deal_96 1 rfl ?_
            refine kg_iald hC (ka_42 hV) (i := d) rfl hd d_M_deal_97 ?_
            refine kg_top (x' := (σ 42 d)) ((kc_up_nk (by decide)).trans (kc_up_nk (by decide))) ?_
            refine kg_iconst hC d_M_deal_98 kn_i_1 ?_
            refine kg_icmp_ne hC d_M_deal_99 (tgt := 103) rfl (fun h99 => ?_) (fun h99 => ?_)
            · refine kg_aload_n hC d_M_deal_103 0 rfl ?_
              refine kg_getr hC (ko_38 hV) rfl ui_M (j := 11) (by decide) tw_615 rfl d_M_deal_104 rfl ?_
              refine kg_iconst hC d_M_deal_107 kn_i_4 ?_
              refine kg_iload_n hC d_M_deal_108 1 rfl ?_
              refine kg_imul hC d_M_deal_109 ?_
              refine kg_top (x' := (nI (4 * d))) (pk_mul _ _) ?_
              refine kg_aload_n hC d_M_deal_110 0 rfl ?_
              refine kg_getr hC (ko_38 hV) rfl ui_M (j := 9) (by decide) tw_613 rfl d_M_deal_111 rfl ?_
              refine kg_iload_n hC d_M_deal_114 1 rfl ?_
              refine kg_at (pc' := 115) rfl ?_
              refine kg_iald hC (ka_42 hV) (i := d) rfl hd d_M_deal_115 ?_
              refine kg_top (x' := (σ 42 d)) ((kc_up_nk (by decide)).trans (kc_up_nk (by decide))) ?_
              refine kg_iconst hC d_M_deal_116 kn_i_3 ?_
              have j117 : kc_Go C V 6 (0, 0) (kc_E C V none (kq_M_deal σ d b c e)) (kc_up (kc_up σ 38 0 (nI 0)) 43 d (nI 1)) 125 [(0, .ref (kc_ad V 38)), (1, .int (nI d)), (2, .int b), (3, .int c), (4, .int e)] [.int (if (σ 42 d) = (nI 3) then (nI 1) else (nI 0)), .int (nI (4 * d)), .ref (kc_ad V 44)] := by
                refine kg_iast hC (ka_44 hV) (i := (4 * d)) rfl (by omega) d_M_deal_125 ?_
                refine kg_aload_n hC d_M_deal_126 0 rfl ?_
                refine kg_getr hC (ko_38 hV) rfl ui_M (j := 11) (by decide) tw_615 rfl d_M_deal_127 rfl ?_
                refine kg_iconst hC d_M_deal_130 kn_i_4 ?_
                refine kg_iload_n hC d_M_deal_131 1 rfl ?_
                refine kg_imul hC d_M_deal_132 ?_
                refine kg_top (x' := (nI (4 * d))) (pk_mul _ _) ?_
                refine kg_iconst hC d_M_deal_133 kn_i_1 ?_
                refine kg_iadd hC d_M_deal_134 ?_
                refine kg_top (x' := (nI ((4 * d) + 1))) (nI_add _ _) ?_
                refine kg_at (pc' := 135) rfl ?_
                refine kg_iload_n hC d_M_deal_135 2 rfl ?_
                refine kg_iast hC (ka_44 hV) (i := ((4 * d) + 1)) rfl (by omega) d_M_deal_136 ?_
                refine kg_aload_n hC d_M_deal_137 0 rfl ?_
                refine kg_getr hC (ko_38 hV) rfl ui_M (j := 11) (by decide) tw_615 rfl d_M_deal_138 rfl ?_
                refine kg_iconst hC d_M_deal_141 kn_i_4 ?_
                refine kg_iload_n hC d_M_deal_142 1 rfl ?_
                refine kg_imul hC d_M_deal_143 ?_
                refine kg_top (x' := (nI (4 * d))) (pk_mul _ _) ?_
                refine kg_iconst hC d_M_deal_144 kn_i_2 ?_
                refine kg_at (pc' := 145) rfl ?_
                refine kg_iadd hC d_M_deal_145 ?_
                refine kg_top (x' := (nI ((4 * d) + 2))) (nI_add _ _) ?_
                refine kg_iload_n hC d_M_deal_146 3 rfl ?_
                refine kg_iast hC (ka_44 hV) (i := ((4 * d) + 2)) rfl (by omega) d_M_deal_147 ?_
                refine kg_aload_n hC d_M_deal_148 0 rfl ?_
                refine kg_getr hC (ko_38 hV) rfl ui_M (j := 11) (by decide) tw_615 rfl d_M_deal_149 rfl ?_
                refine kg_iconst hC d_M_deal_152 kn_i_4 ?_
                refine kg_iload_n hC d_M_deal_153 1 rfl ?_
                refine kg_imul hC d_M_deal_154 ?_
                refine kg_top (x' := (nI (4 * d))) (pk_mul _ _) ?_
                refine kg_at (pc' := 155) rfl ?_
                refine kg_iconst hC d_M_deal_155 kn_i_3 ?_
                refine kg_iadd hC d_M_deal_156 ?_
                refine kg_top (x' := (nI ((4 * d) + 3))) (nI_add _ _) ?_
                refine kg_iload hC d_M_deal_157 4 rfl ?_
                refine kg_iast hC (ka_44 hV) (i := ((4 * d) + 3)) rfl (by omega) d_M_deal_159 ?_
                refine kg_iconst hC d_M_deal_160 kn_i_0 ?_
                refine kg_istore hC d_M_deal_161 [(5, .int (nI 0)), (0, .ref (kc_ad V 38)), (1, .int (nI d)), (2, .int b), (3, .int c), (4, .int e)] rfl (by decide) ?_
                refine kc_loop (fun i1 a1 => (a1 38 1 = σ 38 1 ∧ a1 38 2 = σ 38 2 ∧ a1 38 16 = σ 38 16) → kc_Go C V 6 (0, 0) (kc_E C V none (kq_M_deal σ d b c e)) a1 163 [(5, .int (nI i1)), (0, .ref (kc_ad V 38)), (1, .int (nI d)), (2, .int b), (3, .int c), (4, .int e)] []) (kf_M_deal_1 d) 0 4 (fun i1 a1 ho1 hi1 hk1 hv1 => ?_) 4 0 (kc_up (kc_up (kc_up (kc_up (kc_up (kc_up σ 38 0 (nI 0)) 43 d (nI 1)) 44 (4 * d) (if (σ 42 d) = (nI 3) then (nI 1) else (nI 0))) 44 ((4 * d) + 1) b) 44 ((4 * d) + 2) c) 44 ((4 * d) + 3) e) (Nat.le_refl _) rfl (fun hw1 => ?_) ⟨rfl, rfl, rfl⟩
                · refine kg_iload hC d_M_deal_163 0 rfl ?_
                  refine kg_iconst hC d_M_deal_165 kn_i_4 ?_
                  refine kg_icmp_ge hC d_M_deal_166 (tgt := 205) rfl (fun q => absurd q (nI_ge (by omega) (by decide))) (fun _ => ?_)
                  refine kg_aload_n hC d_M_deal_169 1 rfl ?_
                  refine kg_getr hC (ko_38 hV) rfl ui_M (j := 12) (by decide) tw_616 rfl d_M_deal_170 rfl ?_
                  refine kg_iconst hC d_M_deal_173 kn_i_4 ?_
                  refine kg_iload_n hC d_M_deal_174 2 rfl ?_
                  refine kg_imul hC d_M_deal_175 ?_
                  refine kg_top (x' := (nI (4 * d))) (pk_mul _ _) ?_
                  refine kg_at (pc' := 176) rfl ?_
                  refine kg_iload hC d_M_deal_176 0 rfl ?_
                  refine kg_iadd hC d_M_deal_178 ?_
                  refine kg_top (x' := (nI ((4 * d) + i1))) (nI_add _ _) ?_
                  refine kg_aload_n hC d_M_deal_179 1 rfl ?_
                  refine kg_aload_n hC d_M_deal_180 1 rfl ?_
                  refine kg_geti hC (ko_38 hV) rfl ui_M (j := 3) (by decide) tw_607 rfl d_M_deal_181 rfl ?_
                  refine kg_aload_n hC d_M_deal_184 1 rfl ?_
                  refine kg_getr hC (ko_38 hV) rfl ui_M (j := 11) (by decide) tw_615 rfl d_M_deal_185 rfl ?_
                  refine kg_iconst hC d_M_deal_188 kn_i_4 ?_
                  refine kg_at (pc' := 189) rfl ?_
                  refine kg_iload_n hC d_M_deal_189 2 rfl ?_
                  refine kg_imul hC d_M_deal_190 ?_
                  refine kg_top (x' := (nI (4 * d))) (pk_mul _ _) ?_
                  refine kg_iload hC d_M_deal_191 0 rfl ?_
                  refine kg_iadd hC d_M_deal_193 ?_
                  refine kg_top (x' := (nI ((4 * d) + i1))) (nI_add _ _) ?_
                  refine kg_iald hC (ka_44 hV) (i := ((4 * d) + i1)) rfl (by omega) d_M_deal_194 ?_
                  refine kg_virtualI hC (kk_M_power (kc_l C) hV a1 (a1 38 3) (a1 44 ((4 * d) + i1)) (by rw [hv1.1]; exact mp)) cal_M_power tw_674 ts_M_power tw_672 (ko_38 hV) rfl rfl (by decide) (rest := [.int (nI ((4 * d) + i1)), .ref (kc_ad V 45)]) rfl (Nat.le_of_ble_eq_true rfl) d_M_deal_195 ?_ (by decide)
                  refine kg_iast hC (ka_45 hV) (i := ((4 * d) + i1)) rfl (by omega) d_M_deal_198 ?_
                  refine kg_iinc hC d_M_deal_199 0 rfl (kn_inc1 i1) [(5, .int (nI (i1 + 1))), (0, .ref (kc_ad V 38)), (1, .int (nI d)), (2, .int b), (3, .int c), (4, .int e)] rfl (by decide) ?_
                  refine kg_at (pc' := 202) rfl ?_
                  refine kg_goto hC d_M_deal_202 (tgt := 163) rfl ?_
                  exact kg_to (P := fun zz => (zz 38 1 = σ 38 1 ∧ zz 38 2 = σ 38 2 ∧ zz 38 16 = σ 38 16) → kc_Go C V 6 (0, 0) (kc_E C V none (kq_M_deal σ d b c e)) zz 163 [(5, .int (nI (i1 + 1))), (0, .ref (kc_ad V 38)), (1, .int (nI d)), (2, .int b), (3, .int c), (4, .int e)] []) (b := (kc_up a1 45 ((4 * d) + i1) (kp_M_power a1 (a1 38 3) (a1 44 ((4 * d) + i1))))) (a := (kf_M_deal_1 d) i1 a1) (by rw [kf_M_deal_1]) hk1 hv1
                generalize hg1 : (kc_it (kf_M_deal_1 d) 4 0 (kc_up (kc_up (kc_up (kc_up (kc_up (kc_up σ 38 0 (nI 0)) 43 d (nI 1)) 44 (4 * d) (if (σ 42 d) = (nI 3) then (nI 1) else (nI 0))) 44 ((4 * d) + 1) b) 44 ((4 * d) + 2) c) 44 ((4 * d) + 3) e)) = τ1 at hw1 ⊢
                refine kg_iload hC d_M_deal_163 0 rfl ?_
                refine kg_iconst hC d_M_deal_165 kn_i_4 ?_
                refine kg_icmp_ge hC d_M_deal_166 (tgt := 205) rfl (fun _ => ?_) (fun q => absurd (nI_le (by decide) (by decide)) q)
                refine kg_aload_n hC d_M_deal_205 1 rfl ?_
                refine kg_iconst hC d_M_deal_206 kn_i_1 ?_
                refine kg_iload_n hC d_M_deal_207 2 rfl ?_
                refine kg_iconst hC d_M_deal_208 kn_i_0 ?_
                refine kg_iconst hC d_M_deal_209 kn_i_0 ?_
                refine kg_at (pc' := 210) rfl ?_
                refine kg_virtualV hC (kk_M_put (kc_l C) hV τ1 (nI 1) d (nI 0) (nI 0) (kn_mbd hw1.2.2 hb h69) hd) cal_M_put tw_709 ts_M_put tw_707 (ko_38 hV) rfl rfl (by decide) (rest := []) rfl (Nat.le_of_ble_eq_true rfl) d_M_deal_210 ?_ (by decide)
                refine kg_iconst hC d_M_deal_213 kn_i_1 ?_
                refine kg_istore hC d_M_deal_214 [(5, .int (nI 1)), (0, .ref (kc_ad V 38)), (1, .int (nI d)), (2, .int b), (3, .int c), (4, .int e)] rfl (by decide) ?_
                refine kc_loop (fun i2 a2 => (a2 38 1 = σ 38 1 ∧ a2 38 2 = σ 38 2 ∧ True) → kc_Go C V 6 (0, 0) (kc_E C V none (kq_M_deal σ d b c e)) a2 216 [(5, .int (nI i2)), (0, .ref (kc_ad V 38)), (1, .int (nI d)), (2, .int b), (3, .int c), (4, .int e)] []) (kf_M_deal_2 d) 1 8 (fun i2 a2 ho2 hi2 hk2 hv2 => ?_) 7 1 (kq_M_put τ1 (nI 1) d (nI 0) (nI 0)) (Nat.le_refl _) rfl (fun hw2 => ?_) ⟨by rw [ke_put1]; exact hw1.1, by rw [ke_put2]; exact hw1.2.1, trivial⟩
                · refine kg_iload hC d_M_deal_216 0 rfl ?_
                  refine kg_bipush hC d_M_deal_218 kn_b_8 ?_
                  refine kg_icmp_ge hC d_M_deal_220 (tgt := 248) rfl (fun q => absurd q (nI_ge (by omega) (by decide))) (fun _ => ?_)
                  refine kg_aload_n hC d_M_deal_223 1 rfl ?_
                  refine kg_getr hC (ko_38 hV) rfl ui_M (j := 13) (by decide) tw_617 rfl d_M_deal_224 rfl ?_
                  refine kg_bipush hC d_M_deal_227 kn_b_8 ?_
                  refine kg_iload_n hC d_M_deal_229 2 rfl ?_
                  refine kg_imul hC d_M_deal_230 ?_
                  refine kg_top (x' := (nI (8 * d))) (pk_mul _ _) ?_
                  refine kg_at (pc' := 231) rfl ?_
                  refine kg_iload hC d_M_deal_231 0 rfl ?_
                  refine kg_iadd hC d_M_deal_233 ?_
                  refine kg_top (x' := (nI ((8 * d) + i2))) (nI_add _ _) ?_
                  refine kg_aload_n hC d_M_deal_234 1 rfl ?_
                  refine kg_iload_n hC d_M_deal_235 2 rfl ?_
                  refine kg_iload hC d_M_deal_236 0 rfl ?_
                  refine kg_virtualI hC (kk_M_sent (kc_l C) hV a2 d (nI i2) (by rw [hv2.2.1]; exact mq) hd) cal_M_sent tw_713 ts_M_sent tw_711 (ko_38 hV) rfl rfl (by decide) (rest := [.int (nI ((8 * d) + i2)), .ref (kc_ad V 46)]) rfl (Nat.le_of_ble_eq_true rfl) d_M_deal_238 ?_ (by decide)
                  refine kg_iast hC (ka_46 hV) (i := ((8 * d) + i2)) rfl (by omega) d_M_deal_241 ?_
                  refine kg_iinc hC d_M_deal_242 0 rfl (kn_inc1 i2) [(5, .int (nI (i2 + 1))), (0, .ref (kc_ad V 38)), (1, .int (nI d)), (2, .int b), (3, .int c), (4, .int e)] rfl (by decide) ?_
                  refine kg_at (pc' := 245) rfl ?_
                  refine kg_goto hC d_M_deal_245 (tgt := 216) rfl ?_
                  exact kg_to (P := fun zz => (zz 38 1 = σ 38 1 ∧ zz 38 2 = σ 38 2 ∧ True) → kc_Go C V 6 (0, 0) (kc_E C V none (kq_M_deal σ d b c e)) zz 216 [(5, .int (nI (i2 + 1))), (0, .ref (kc_ad V 38)), (1, .int (nI d)), (2, .int b), (3, .int c), (4, .int e)] []) (b := (kc_up a2 46 ((8 * d) + i2) (kp_M_sent a2 d (nI i2)))) (a := (kf_M_deal_2 d) i2 a2) (by rw [kf_M_deal_2]) hk2 hv2
                generalize hg2 : (kc_it (kf_M_deal_2 d) 7 1 (kq_M_put τ1 (nI 1) d (nI 0) (nI 0))) = τ2 at hw2 ⊢
                refine kg_iload hC d_M_deal_216 0 rfl ?_
                refine kg_bipush hC d_M_deal_218 kn_b_8 ?_
                refine kg_icmp_ge hC d_M_deal_220 (tgt := 248) rfl (fun _ => ?_) (fun q => absurd (nI_le (by decide) (by decide)) q)
                exact kg_vret hC d_M_deal_248 (by rw [kq_M_deal, hg1, hg2, if_pos h21, if_pos h29, if_pos h38, if_pos h59, if_neg h69, if_neg h99])
              refine kg_icmp_ne hC d_M_deal_117 (tgt := 124) rfl (fun h117 => ?_) (fun h117 => ?_)
              · refine kg_iconst hC d_M_deal_124 kn_i_0 ?_
                exact kg_to (P := fun zz => kc_Go C V 6 (0, 0) (kc_E C V none (kq_M_deal σ d b c e)) (kc_up (kc_up σ 38 0 (nI 0)) 43 d (nI 1)) 125 [(0, .ref (kc_ad V 38)), (1, .int (nI d)), (2, .int b), (3, .int c), (4, .int e)] (.int zz :: [.int (nI (4 * d)), .ref (kc_ad V 44)])) (b := (nI 0)) (if_neg h117) j117
              · refine kg_iconst hC d_M_deal_120 kn_i_1 ?_
                refine kg_goto hC d_M_deal_121 (tgt := 125) rfl ?_
                exact kg_to (P := fun zz => kc_Go C V 6 (0, 0) (kc_E C V none (kq_M_deal σ d b c e)) (kc_up (kc_up σ 38 0 (nI 0)) 43 d (nI 1)) 125 [(0, .ref (kc_ad V 38)), (1, .int (nI d)), (2, .int b), (3, .int c), (4, .int e)] (.int zz :: [.int (nI (4 * d)), .ref (kc_ad V 44)])) (b := (nI 1)) (if_pos h117) j117
            · exact kg_vret hC d_M_deal_102 (by rw [kq_M_deal, if_pos h21, if_pos h29, if_pos h38, if_pos h59, if_neg h69, if_pos h99])
          · refine kg_aload_n hC d_M_deal_72 0 rfl ?_
            refine kg_iconst hC d_M_deal_73 kn_i_4 ?_
            refine kg_puti hC (ko_38 hV) rfl ui_M ok_M nm_M (j := 0) (by decide) tw_604 rfl rfl rfl rfl d_M_deal_74 rfl ?_
            refine kg_aload_n hC d_M_deal_77 0 rfl ?_
            refine kg_geti hC (ko_38 hV) rfl ui_M (j := 0) (by decide) tw_604 rfl d_M_deal_78 rfl ?_
            refine kg_top (x' := (nI 4)) kc_up_jj ?_
            refine kg_if_eq hC d_M_deal_81 (tgt := 85) rfl (fun q => absurd q (by decide)) (fun _ => ?_)
            exact kg_vret hC d_M_deal_84 (by rw [kq_M_deal, if_pos h21, if_pos h29, if_pos h38, if_pos h59, if_pos h69])
      · refine kg_aload_n hC d_M_deal_41 0 rfl ?_
        refine kg_iconst hC d_M_deal_42 kn_i_3 ?_
        refine kg_puti hC (ko_38 hV) rfl ui_M ok_M nm_M (j := 0) (by decide) tw_604 rfl rfl rfl rfl d_M_deal_43 rfl ?_
        refine kg_aload_n hC d_M_deal_46 0 rfl ?_
        refine kg_geti hC (ko_38 hV) rfl ui_M (j := 0) (by decide) tw_604 rfl d_M_deal_47 rfl ?_
        refine kg_top (x' := (nI 3)) kc_up_jj ?_
        refine kg_if_ne hC d_M_deal_50 (tgt := 77) rfl (fun _ => ?_) (fun q => absurd q (by decide))
        refine kg_aload_n hC d_M_deal_77 0 rfl ?_
        refine kg_geti hC (ko_38 hV) rfl ui_M (j := 0) (by decide) tw_604 rfl d_M_deal_78 rfl ?_
        refine kg_top (x' := (nI 3)) kc_up_jj ?_
        refine kg_at (pc' := 81) rfl ?_
        refine kg_if_eq hC d_M_deal_81 (tgt := 85) rfl (fun q => absurd q (by decide)) (fun _ => ?_)
        exact kg_vret hC d_M_deal_84 (by rw [kq_M_deal, if_pos h21, if_pos h29, if_neg h38])
def kq_M_wipe_x (σ : kc_Sg) (x : Int32) : kc_Sg := (kc_up σ 38 0 (kp_M_first σ x))
set_option maxHeartbeats 4000000 in
set_option maxRecDepth 100000 in
theorem kk_M_wipe_x (l : Launch) {V : kc_V} (hV : kc_G V) (σ : kc_Sg) (x : Int32) (hf : ¬ kp_M_first σ x = 0) : kc_Met l y_M_wipe b_M_wipe 2 none (kc_rm 3) V [.ref (kc_ad V 38), .int x] σ none (kq_M_wipe_x σ x) := by
  refine kc_of (by decide) (Nat.le_of_ble_eq_true rfl) hV.ok (fun C _ hC => ?_)
  show kc_Go C V 2 (0, 0) (kc_E C V none (kq_M_wipe_x σ x)) σ 0 [(0, .ref (kc_ad V 38)), (1, .int x)] []
  refine kg_aload_n hC d_M_wipe_0 0 rfl ?_
  refine kg_aload_n hC d_M_wipe_1 0 rfl ?_
  refine kg_iload_n hC d_M_wipe_2 1 rfl ?_
  refine kg_virtualI hC (kk_M_first (kc_l C) hV σ x) cal_M_first tw_698 ts_M_first tw_696 (ko_38 hV) rfl rfl (by decide) (rest := [.ref (kc_ad V 38)]) rfl (Nat.le_of_ble_eq_true rfl) d_M_wipe_3 ?_ (by decide)
  refine kg_puti hC (ko_38 hV) rfl ui_M ok_M nm_M (j := 0) (by decide) tw_604 rfl rfl rfl rfl d_M_wipe_6 rfl ?_
  refine kg_aload_n hC d_M_wipe_9 0 rfl ?_
  refine kg_geti hC (ko_38 hV) rfl ui_M (j := 0) (by decide) tw_604 rfl d_M_wipe_10 rfl ?_
  refine kg_top (x' := (kp_M_first σ x)) kc_up_jj ?_
  refine kg_if_ne hC d_M_wipe_13 (tgt := 30) rfl (fun _ => ?_) (fun q => absurd q (hf))
  refine kg_at (pc' := 30) rfl ?_
  refine kg_aload_n hC d_M_wipe_30 0 rfl ?_
  refine kg_geti hC (ko_38 hV) rfl ui_M (j := 0) (by decide) tw_604 rfl d_M_wipe_31 rfl ?_
  refine kg_top (x' := (kp_M_first σ x)) kc_up_jj ?_
  refine kg_if_ne hC d_M_wipe_34 (tgt := 44) rfl (fun _ => ?_) (fun q => absurd q (hf))
  exact kg_vret hC d_M_wipe_44 (by rw [kq_M_wipe_x])
def kq_M_wipe (σ : kc_Sg) (d : Nat) : kc_Sg := if (σ 40 d) = 0 then (kc_up (kc_up σ 38 0 (nI 0)) 40 d (nI 1)) else (kc_up (kc_up σ 38 0 (nI 0)) 38 0 (nI 3))
set_option maxHeartbeats 4000000 in
set_option maxRecDepth 100000 in
theorem kk_M_wipe (l : Launch) {V : kc_V} (hV : kc_G V) (σ : kc_Sg) (d : Nat) (hf : kp_M_first σ (nI d) = nI 0) (hd : d < 8) : kc_Met l y_M_wipe b_M_wipe 2 none (kc_rm 3) V [.ref (kc_ad V 38), .int (nI d)] σ none (kq_M_wipe σ d) := by
  refine kc_of (by decide) (Nat.le_of_ble_eq_true rfl) hV.ok (fun C _ hC => ?_)
  show kc_Go C V 2 (0, 0) (kc_E C V none (kq_M_wipe σ d)) σ 0 [(0, .ref (kc_ad V 38)), (1, .int (nI d))] []
  refine kg_aload_n hC d_M_wipe_0 0 rfl ?_
  refine kg_aload_n hC d_M_wipe_1 0 rfl ?_
  refine kg_iload_n hC d_M_wipe_2 1 rfl ?_
  refine kg_virtualI hC (kk_M_first (kc_l C) hV σ (nI d)) cal_M_first tw_698 ts_M_first tw_696 (ko_38 hV) rfl rfl (by decide) (rest := [.ref (kc_ad V 38)]) rfl (Nat.le_of_ble_eq_true rfl) d_M_wipe_3 ?_ (by decide)
  refine kg_top (x' := (nI 0)) hf ?_
  refine kg_puti hC (ko_38 hV) rfl ui_M ok_M nm_M (j := 0) (by decide) tw_604 rfl rfl rfl rfl d_M_wipe_6 rfl ?_
  refine kg_aload_n hC d_M_wipe_9 0 rfl ?_
  refine kg_geti hC (ko_38 hV) rfl ui_M (j := 0) (by decide) tw_604 rfl d_M_wipe_10 rfl ?_
  refine kg_top (x' := (nI 0)) kc_up_jj ?_
  refine kg_if_ne hC d_M_wipe_13 (tgt := 30) rfl (fun q => absurd q (by decide)) (fun _ => ?_)
  refine kg_at (pc' := 16) rfl ?_
  refine kg_aload_n hC d_M_wipe_16 0 rfl ?_
  refine kg_getr hC (ko_38 hV) rfl ui_M (j := 7) (by decide) tw_611 rfl d_M_wipe_17 rfl ?_
  refine kg_iload_n hC d_M_wipe_20 1 rfl ?_
  refine kg_zald hC (ka_40 hV) (i := d) rfl hd d_M_wipe_21 ?_
  refine kg_top (x' := (σ 40 d)) (kc_up_nk (by decide)) ?_
  refine kg_if_eq hC d_M_wipe_22 (tgt := 30) rfl (fun h22 => ?_) (fun h22 => ?_)
  · refine kg_aload_n hC d_M_wipe_30 0 rfl ?_
    refine kg_geti hC (ko_38 hV) rfl ui_M (j := 0) (by decide) tw_604 rfl d_M_wipe_31 rfl ?_
    refine kg_top (x' := (nI 0)) kc_up_jj ?_
    refine kg_if_ne hC d_M_wipe_34 (tgt := 44) rfl (fun q => absurd q (by decide)) (fun _ => ?_)
    refine kg_aload_n hC d_M_wipe_37 0 rfl ?_
    refine kg_getr hC (ko_38 hV) rfl ui_M (j := 7) (by decide) tw_611 rfl d_M_wipe_38 rfl ?_
    refine kg_iload_n hC d_M_wipe_41 1 rfl ?_
    refine kg_iconst hC d_M_wipe_42 kn_i_1 ?_
    refine kg_zast hC (ka_40 hV) (i := d) rfl hd (by decide) d_M_wipe_43 ?_
    refine kg_at (pc' := 44) rfl ?_
    exact kg_vret hC d_M_wipe_44 (by rw [kq_M_wipe, if_pos h22])
  · refine kg_aload_n hC d_M_wipe_25 0 rfl ?_
    refine kg_iconst hC d_M_wipe_26 kn_i_3 ?_
    refine kg_puti hC (ko_38 hV) rfl ui_M ok_M nm_M (j := 0) (by decide) tw_604 rfl rfl rfl rfl d_M_wipe_27 rfl ?_
    refine kg_aload_n hC d_M_wipe_30 0 rfl ?_
    refine kg_geti hC (ko_38 hV) rfl ui_M (j := 0) (by decide) tw_604 rfl d_M_wipe_31 rfl ?_
    refine kg_top (x' := (nI 3)) kc_up_jj ?_
    refine kg_if_ne hC d_M_wipe_34 (tgt := 44) rfl (fun _ => ?_) (fun q => absurd q (by decide))
    exact kg_vret hC d_M_wipe_44 (by rw [kq_M_wipe, if_neg h22])
def kp_M_recover_x : Int32 := (nI 0)
def kq_M_recover_x (σ : kc_Sg) (x : Int32) : kc_Sg := (kc_up σ 38 0 (kp_M_first σ x))
set_option maxHeartbeats 4000000 in
set_option maxRecDepth 100000 in
theorem kk_M_recover_x (l : Launch) {V : kc_V} (hV : kc_G V) (σ : kc_Sg) (x : Int32) (hf : ¬ kp_M_first σ x = 0) : kc_Met l y_M_recover b_M_recover 4 (some .int) (kc_rm 3) V [.ref (kc_ad V 38), .int x] σ (some (.int kp_M_recover_x)) (kq_M_recover_x σ x) := by
  refine kc_of (by decide) (Nat.le_of_ble_eq_true rfl) hV.ok (fun C _ hC => ?_)
  show kc_Go C V 4 (0, 0) (kc_E C V (some (.int kp_M_recover_x)) (kq_M_recover_x σ x)) σ 0 [(0, .ref (kc_ad V 38)), (1, .int x)] []
  refine kg_aload_n hC d_M_recover_0 0 rfl ?_
  refine kg_aload_n hC d_M_recover_1 0 rfl ?_
  refine kg_iload_n hC d_M_recover_2 1 rfl ?_
  refine kg_virtualI hC (kk_M_first (kc_l C) hV σ x) cal_M_first tw_698 ts_M_first tw_696 (ko_38 hV) rfl rfl (by decide) (rest := [.ref (kc_ad V 38)]) rfl (Nat.le_of_ble_eq_true rfl) d_M_recover_3 ?_ (by decide)
  refine kg_puti hC (ko_38 hV) rfl ui_M ok_M nm_M (j := 0) (by decide) tw_604 rfl rfl rfl rfl d_M_recover_6 rfl ?_
  refine kg_aload_n hC d_M_recover_9 0 rfl ?_
  refine kg_geti hC (ko_38 hV) rfl ui_M (j := 0) (by decide) tw_604 rfl d_M_recover_10 rfl ?_
  refine kg_top (x' := (kp_M_first σ x)) kc_up_jj ?_
  refine kg_if_eq hC d_M_recover_13 (tgt := 18) rfl (fun q => absurd q (hf)) (fun _ => ?_)
  refine kg_at (pc' := 16) rfl ?_
  refine kg_iconst hC d_M_recover_16 kn_i_0 ?_
  exact kg_iret hC d_M_recover_17 (by rw [kp_M_recover_x]) (by rw [kq_M_recover_x])
def kf_M_recover_1 (σ : kc_Sg) (d : Nat) (i1 : Nat) (a1 : Int32) : Int32 := if (nI i1) = (nI d) then a1 else (if (kp_M_fitsSums (kc_up σ 38 0 (nI 0)) i1) = 0 then a1 else (a1 ||| (kc_shl (nI 1) ((nI i1) - (nI 1)))))
def kp_M_recover (σ : kc_Sg) (d : Nat) : Int32 := if (σ 40 d) = 0 then (nI 0) else (if (kp_M_four (kc_it (kf_M_recover_1 σ d) 7 1 (nI 0))) = 0 then (nI 0) else (kp_M_four (kc_it (kf_M_recover_1 σ d) 7 1 (nI 0))))
def kq_M_recover (σ : kc_Sg) (d : Nat) : kc_Sg := if (σ 40 d) = 0 then (kc_up (kc_up σ 38 0 (nI 0)) 38 0 (nI 3)) else (if (kp_M_four (kc_it (kf_M_recover_1 σ d) 7 1 (nI 0))) = 0 then (kc_up (kc_up σ 38 0 (nI 0)) 38 0 (nI 3)) else (kc_up (kc_up (kc_up σ 38 0 (nI 0)) 39 d (kp_M_interpolate (kc_up σ 38 0 (nI 0)) (kp_M_four (kc_it (kf_M_recover_1 σ d) 7 1 (nI 0))) (nI d))) 40 d (nI 0)))
set_option maxHeartbeats 4000000 in
set_option maxRecDepth 100000 in
theorem kk_M_recover (l : Launch) {V : kc_V} (hV : kc_G V) (σ : kc_Sg) (d : Nat) (hf : kp_M_first σ (nI d) = nI 0) (mp : ¬ σ 38 1 = 0) (mq : ¬ σ 38 2 = 0) (hd : d < 8) : kc_Met l y_M_recover b_M_recover 4 (some .int) (kc_rm 4) V [.ref (kc_ad V 38), .int (nI d)] σ (some (.int (kp_M_recover σ d))) (kq_M_recover σ d) := by
  refine kc_of (by decide) (Nat.le_of_ble_eq_true rfl) hV.ok (fun C _ hC => ?_)
  show kc_Go C V 4 (0, 0) (kc_E C V (some (.int (kp_M_recover σ d))) (kq_M_recover σ d)) σ 0 [(0, .ref (kc_ad V 38)), (1, .int (nI d))] []
  refine kg_aload_n hC d_M_recover_0 0 rfl ?_
  refine kg_aload_n hC d_M_recover_1 0 rfl ?_
  refine kg_iload_n hC d_M_recover_2 1 rfl ?_
  refine kg_virtualI hC (kk_M_first (kc_l C) hV σ (nI d)) cal_M_first tw_698 ts_M_first tw_696 (ko_38 hV) rfl rfl (by decide) (rest := [.ref (kc_ad V 38)]) rfl (Nat.le_of_ble_eq_true rfl) d_M_recover_3 ?_ (by decide)
  refine kg_top (x' := (nI 0)) hf ?_
  refine kg_puti hC (ko_38 hV) rfl ui_M ok_M nm_M (j := 0) (by decide) tw_604 rfl rfl rfl rfl d_M_recover_6 rfl ?_
  refine kg_aload_n hC d_M_recover_9 0 rfl ?_
  refine kg_geti hC (ko_38 hV) rfl ui_M (j := 0) (by decide) tw_604 rfl d_M_recover_10 rfl ?_
  refine kg_top (x' := (nI 0)) kc_up_jj ?_
  refine kg_if_eq hC d_M_recover_13 (tgt := 18) rfl (fun _ => ?_) (fun q => absurd (by decide) q)
  refine kg_at (pc' := 18) rfl ?_
  refine kg_iconst hC d_M_recover_18 kn_i_0 ?_
  refine kg_istore_n hC d_M_recover_19 [(2, .int (nI 0)), (0, .ref (kc_ad V 38)), (1, .int (nI d))] rfl (by decide) ?_
  refine kg_iconst hC d_M_recover_20 kn_i_1 ?_
  refine kg_istore_n hC d_M_recover_21 [(3, .int (nI 1)), (2, .int (nI 0)), (0, .ref (kc_ad V 38)), (1, .int (nI d))] rfl (by decide) ?_
  refine kc_loop (fun i1 a1 => kc_Go C V 4 (0, 0) (kc_E C V (some (.int (kp_M_recover σ d))) (kq_M_recover σ d)) (kc_up σ 38 0 (nI 0)) 22 [(3, .int (nI i1)), (2, .int a1), (0, .ref (kc_ad V 38)), (1, .int (nI d))] []) (kf_M_recover_1 σ d) 1 8 (fun i1 a1 ho1 hi1 hk1 => ?_) 7 1 (nI 0) (Nat.le_refl _) rfl ?_
  · refine kg_iload_n hC d_M_recover_22 0 rfl ?_
    refine kg_bipush hC d_M_recover_23 kn_b_8 ?_
    refine kg_icmp_ge hC d_M_recover_25 (tgt := 55) rfl (fun q => absurd q (nI_ge (by omega) (by decide))) (fun _ => ?_)
    refine kg_iload_n hC d_M_recover_28 0 rfl ?_
    refine kg_iload_n hC d_M_recover_29 3 rfl ?_
    refine kg_icmp_eq hC d_M_recover_30 (tgt := 49) rfl (fun h30 => ?_) (fun h30 => ?_)
    · refine kg_iinc hC d_M_recover_49 0 rfl (kn_inc1 i1) [(3, .int (nI (i1 + 1))), (2, .int a1), (0, .ref (kc_ad V 38)), (1, .int (nI d))] rfl (by decide) ?_
      refine kg_goto hC d_M_recover_52 (tgt := 22) rfl ?_
      exact kg_to (P := fun zz => kc_Go C V 4 (0, 0) (kc_E C V (some (.int (kp_M_recover σ d))) (kq_M_recover σ d)) (kc_up σ 38 0 (nI 0)) 22 [(3, .int (nI (i1 + 1))), (2, .int zz), (0, .ref (kc_ad V 38)), (1, .int (nI d))] []) (b := a1) (a := (kf_M_recover_1 σ d) i1 a1) (by rw [kf_M_recover_1, if_pos h30]) hk1
    · refine kg_aload_n hC d_M_recover_33 2 rfl ?_
      refine kg_iload_n hC d_M_recover_34 0 rfl ?_
      refine kg_virtualI hC (kk_M_fitsSums (kc_l C) hV (kc_up σ 38 0 (nI 0)) i1 mp (by omega)) cal_M_fitsSums tw_757 ts_M_fitsSums tw_755 (ko_38 hV) rfl rfl (by decide) (rest := []) rfl (Nat.le_of_ble_eq_true rfl) d_M_recover_35 ?_ (by decide)
      refine kg_if_eq hC d_M_recover_38 (tgt := 49) rfl (fun h38 => ?_) (fun h38 => ?_)
      · refine kg_iinc hC d_M_recover_49 0 rfl (kn_inc1 i1) [(3, .int (nI (i1 + 1))), (2, .int a1), (0, .ref (kc_ad V 38)), (1, .int (nI d))] rfl (by decide) ?_
        refine kg_goto hC d_M_recover_52 (tgt := 22) rfl ?_
        exact kg_to (P := fun zz => kc_Go C V 4 (0, 0) (kc_E C V (some (.int (kp_M_recover σ d))) (kq_M_recover σ d)) (kc_up σ 38 0 (nI 0)) 22 [(3, .int (nI (i1 + 1))), (2, .int zz), (0, .ref (kc_ad V 38)), (1, .int (nI d))] []) (b := a1) (a := (kf_M_recover_1 σ d) i1 a1) (by rw [kf_M_recover_1, if_neg h30, if_pos h38]) hk1
      · refine kg_iload_n hC d_M_recover_41 1 rfl ?_
        refine kg_iconst hC d_M_recover_42 kn_i_1 ?_
        refine kg_iload_n hC d_M_recover_43 0 rfl ?_
        refine kg_iconst hC d_M_recover_44 kn_i_1 ?_
        refine kg_isub hC d_M_recover_45 ?_
        refine kg_ishl hC d_M_recover_46 ?_
        refine kg_ior hC d_M_recover_47 ?_
        refine kg_istore_n hC d_M_recover_48 [(2, .int (a1 ||| (kc_shl (nI 1) ((nI i1) - (nI 1))))), (3, .int (nI i1)), (0, .ref (kc_ad V 38)), (1, .int (nI d))] rfl (by decide) ?_
        refine kg_at (pc' := 49) rfl ?_
        refine kg_iinc hC d_M_recover_49 1 rfl (kn_inc1 i1) [(3, .int (nI (i1 + 1))), (2, .int (a1 ||| (kc_shl (nI 1) ((nI i1) - (nI 1))))), (0, .ref (kc_ad V 38)), (1, .int (nI d))] rfl (by decide) ?_
        refine kg_goto hC d_M_recover_52 (tgt := 22) rfl ?_
        exact kg_to (P := fun zz => kc_Go C V 4 (0, 0) (kc_E C V (some (.int (kp_M_recover σ d))) (kq_M_recover σ d)) (kc_up σ 38 0 (nI 0)) 22 [(3, .int (nI (i1 + 1))), (2, .int zz), (0, .ref (kc_ad V 38)), (1, .int (nI d))] []) (b := (a1 ||| (kc_shl (nI 1) ((nI i1) - (nI 1))))) (a := (kf_M_recover_1 σ d) i1 a1) (by rw [kf_M_recover_1, if_neg h30, if_neg h38]) hk1
  generalize hg1 : (kc_it (kf_M_recover_1 σ d) 7 1 (nI 0)) = τ1
  refine kg_iload_n hC d_M_recover_22 0 rfl ?_
  refine kg_bipush hC d_M_recover_23 kn_b_8 ?_
  refine kg_icmp_ge hC d_M_recover_25 (tgt := 55) rfl (fun _ => ?_) (fun q => absurd (nI_le (by decide) (by decide)) q)
  refine kg_iload_n hC d_M_recover_55 1 rfl ?_
  refine kg_staticI hC (kk_M_four (kc_l C) hV (kc_up σ 38 0 (nI 0)) τ1) cal_M_four tw_760 tw_759 rfl (by decide) (rest := []) rfl (Nat.le_of_ble_eq_true rfl) d_M_recover_56 ?_ (by decide)
  refine kg_istore_n hC d_M_recover_59 [(3, .int (kp_M_four τ1)), (2, .int τ1), (0, .ref (kc_ad V 38)), (1, .int (nI d))] rfl (by decide) ?_
  refine kg_aload_n hC d_M_recover_60 2 rfl ?_
  refine kg_getr hC (ko_38 hV) rfl ui_M (j := 7) (by decide) tw_611 rfl d_M_recover_61 rfl ?_
  refine kg_at (pc' := 64) rfl ?_
  refine kg_iload_n hC d_M_recover_64 3 rfl ?_
  refine kg_zald hC (ka_40 hV) (i := d) rfl hd d_M_recover_65 ?_
  refine kg_top (x' := (σ 40 d)) (kc_up_nk (by decide)) ?_
  refine kg_if_eq hC d_M_recover_66 (tgt := 73) rfl (fun h66 => ?_) (fun h66 => ?_)
  · refine kg_aload_n hC d_M_recover_73 2 rfl ?_
    refine kg_iconst hC d_M_recover_74 kn_i_3 ?_
    refine kg_puti hC (ko_38 hV) rfl ui_M ok_M nm_M (j := 0) (by decide) tw_604 rfl rfl rfl rfl d_M_recover_75 rfl ?_
    refine kg_iconst hC d_M_recover_78 kn_i_0 ?_
    exact kg_iret hC d_M_recover_79 (by rw [kp_M_recover, hg1, if_pos h66]) (by rw [kq_M_recover, hg1, if_pos h66])
  · refine kg_iload_n hC d_M_recover_69 0 rfl ?_
    refine kg_if_ne hC d_M_recover_70 (tgt := 80) rfl (fun h70 => ?_) (fun h70 => ?_)
    · refine kg_aload_n hC d_M_recover_80 2 rfl ?_
      refine kg_getr hC (ko_38 hV) rfl ui_M (j := 6) (by decide) tw_610 rfl d_M_recover_81 rfl ?_
      refine kg_iload_n hC d_M_recover_84 3 rfl ?_
      refine kg_aload_n hC d_M_recover_85 2 rfl ?_
      refine kg_iload_n hC d_M_recover_86 0 rfl ?_
      refine kg_iload_n hC d_M_recover_87 3 rfl ?_
      refine kg_virtualI hC (kk_M_interpolate (kc_l C) hV (kc_up σ 38 0 (nI 0)) (kp_M_four τ1) (nI d) mq) cal_M_interpolate tw_764 ts_M_interpolate tw_762 (ko_38 hV) rfl rfl (by decide) (rest := [.int (nI d), .ref (kc_ad V 39)]) rfl (Nat.le_of_ble_eq_true rfl) d_M_recover_88 ?_ (by decide)
      refine kg_iast hC (ka_39 hV) (i := d) rfl hd d_M_recover_91 ?_
      refine kg_at (pc' := 92) rfl ?_
      refine kg_aload_n hC d_M_recover_92 2 rfl ?_
      refine kg_getr hC (ko_38 hV) rfl ui_M (j := 7) (by decide) tw_611 rfl d_M_recover_93 rfl ?_
      refine kg_iload_n hC d_M_recover_96 3 rfl ?_
      refine kg_iconst hC d_M_recover_97 kn_i_0 ?_
      refine kg_zast hC (ka_40 hV) (i := d) rfl hd (by decide) d_M_recover_98 ?_
      refine kg_iload_n hC d_M_recover_99 0 rfl ?_
      exact kg_iret hC d_M_recover_100 (by rw [kp_M_recover, hg1, if_neg h66, if_neg h70]) (by rw [kq_M_recover, hg1, if_neg h66, if_neg h70])
    · refine kg_aload_n hC d_M_recover_73 2 rfl ?_
      refine kg_iconst hC d_M_recover_74 kn_i_3 ?_
      refine kg_puti hC (ko_38 hV) rfl ui_M ok_M nm_M (j := 0) (by decide) tw_604 rfl rfl rfl rfl d_M_recover_75 rfl ?_
      refine kg_iconst hC d_M_recover_78 kn_i_0 ?_
      exact kg_iret hC d_M_recover_79 (by rw [kp_M_recover, hg1, if_neg h66, if_pos h70]) (by rw [kq_M_recover, hg1, if_neg h66, if_pos h70])
def kp_M_share_x : Int32 := (nI 0)
def kq_M_share_x (σ : kc_Sg) (x : Int32) : kc_Sg := (kc_up σ 38 0 (kp_M_first σ x))
set_option maxHeartbeats 4000000 in
set_option maxRecDepth 100000 in
theorem kk_M_share_x (l : Launch) {V : kc_V} (hV : kc_G V) (σ : kc_Sg) (x : Int32) (hf : ¬ kp_M_first σ x = 0) : kc_Met l y_M_share b_M_share 2 (some .int) (kc_rm 3) V [.ref (kc_ad V 38), .int x] σ (some (.int kp_M_share_x)) (kq_M_share_x σ x) := by
  refine kc_of (by decide) (Nat.le_of_ble_eq_true rfl) hV.ok (fun C _ hC => ?_)
  show kc_Go C V 2 (0, 0) (kc_E C V (some (.int kp_M_share_x)) (kq_M_share_x σ x)) σ 0 [(0, .ref (kc_ad V 38)), (1, .int x)] []
  refine kg_aload_n hC d_M_share_0 0 rfl ?_
  refine kg_aload_n hC d_M_share_1 0 rfl ?_
  refine kg_iload_n hC d_M_share_2 1 rfl ?_
  refine kg_virtualI hC (kk_M_first (kc_l C) hV σ x) cal_M_first tw_698 ts_M_first tw_696 (ko_38 hV) rfl rfl (by decide) (rest := [.ref (kc_ad V 38)]) rfl (Nat.le_of_ble_eq_true rfl) d_M_share_3 ?_ (by decide)
  refine kg_puti hC (ko_38 hV) rfl ui_M ok_M nm_M (j := 0) (by decide) tw_604 rfl rfl rfl rfl d_M_share_6 rfl ?_
  refine kg_aload_n hC d_M_share_9 0 rfl ?_
  refine kg_geti hC (ko_38 hV) rfl ui_M (j := 0) (by decide) tw_604 rfl d_M_share_10 rfl ?_
  refine kg_top (x' := (kp_M_first σ x)) kc_up_jj ?_
  refine kg_if_eq hC d_M_share_13 (tgt := 20) rfl (fun q => absurd q (hf)) (fun _ => ?_)
  refine kg_at (pc' := 16) rfl ?_
  refine kg_iconst hC d_M_share_16 kn_i_0 ?_
  refine kg_goto hC d_M_share_17 (tgt := 39) rfl ?_
  exact kg_iret hC d_M_share_39 (by rw [kp_M_share_x]) (by rw [kq_M_share_x])
def kp_M_share (σ : kc_Sg) (d : Nat) : Int32 := if (σ 40 d) = 0 then (σ 39 d) else (-1)
def kq_M_share (σ : kc_Sg) (d : Nat) : kc_Sg := if (σ 40 d) = 0 then (kc_up σ 38 0 (nI 0)) else (kc_up σ 38 0 (nI 0))
set_option maxHeartbeats 4000000 in
set_option maxRecDepth 100000 in
theorem kk_M_share (l : Launch) {V : kc_V} (hV : kc_G V) (σ : kc_Sg) (d : Nat) (hf : kp_M_first σ (nI d) = nI 0) (hd : d < 8) : kc_Met l y_M_share b_M_share 2 (some .int) (kc_rm 3) V [.ref (kc_ad V 38), .int (nI d)] σ (some (.int (kp_M_share σ d))) (kq_M_share σ d) := by
  refine kc_of (by decide) (Nat.le_of_ble_eq_true rfl) hV.ok (fun C _ hC => ?_)
  show kc_Go C V 2 (0, 0) (kc_E C V (some (.int (kp_M_share σ d))) (kq_M_share σ d)) σ 0 [(0, .ref (kc_ad V 38)), (1, .int (nI d))] []
  refine kg_aload_n hC d_M_share_0 0 rfl ?_
  refine kg_aload_n hC d_M_share_1 0 rfl ?_
  refine kg_iload_n hC d_M_share_2 1 rfl ?_
  refine kg_virtualI hC (kk_M_first (kc_l C) hV σ (nI d)) cal_M_first tw_698 ts_M_first tw_696 (ko_38 hV) rfl rfl (by decide) (rest := [.ref (kc_ad V 38)]) rfl (Nat.le_of_ble_eq_true rfl) d_M_share_3 ?_ (by decide)
  refine kg_top (x' := (nI 0)) hf ?_
  refine kg_puti hC (ko_38 hV) rfl ui_M ok_M nm_M (j := 0) (by decide) tw_604 rfl rfl rfl rfl d_M_share_6 rfl ?_
  refine kg_aload_n hC d_M_share_9 0 rfl ?_
  refine kg_geti hC (ko_38 hV) rfl ui_M (j := 0) (by decide) tw_604 rfl d_M_share_10 rfl ?_
  refine kg_top (x' := (nI 0)) kc_up_jj ?_
  refine kg_if_eq hC d_M_share_13 (tgt := 20) rfl (fun _ => ?_) (fun q => absurd (by decide) q)
  refine kg_at (pc' := 20) rfl ?_
  refine kg_aload_n hC d_M_share_20 0 rfl ?_
  refine kg_getr hC (ko_38 hV) rfl ui_M (j := 7) (by decide) tw_611 rfl d_M_share_21 rfl ?_
  refine kg_iload_n hC d_M_share_24 1 rfl ?_
  refine kg_zald hC (ka_40 hV) (i := d) rfl hd d_M_share_25 ?_
  refine kg_top (x' := (σ 40 d)) (kc_up_nk (by decide)) ?_
  refine kg_if_eq hC d_M_share_26 (tgt := 33) rfl (fun h26 => ?_) (fun h26 => ?_)
  · refine kg_aload_n hC d_M_share_33 0 rfl ?_
    refine kg_getr hC (ko_38 hV) rfl ui_M (j := 6) (by decide) tw_610 rfl d_M_share_34 rfl ?_
    refine kg_iload_n hC d_M_share_37 1 rfl ?_
    refine kg_iald hC (ka_39 hV) (i := d) rfl hd d_M_share_38 ?_
    refine kg_top (x' := (σ 39 d)) (kc_up_nk (by decide)) ?_
    exact kg_iret hC d_M_share_39 (by rw [kp_M_share, if_pos h26]) (by rw [kq_M_share, if_pos h26])
  · refine kg_iconst hC d_M_share_29 kn_i_m1 ?_
    refine kg_goto hC d_M_share_30 (tgt := 39) rfl ?_
    exact kg_iret hC d_M_share_39 (by rw [kp_M_share, if_neg h26]) (by rw [kq_M_share, if_neg h26])
def kp_M_fits_x : Int32 := (nI 0)
def kq_M_fits_x (σ : kc_Sg) (x : Int32) : kc_Sg := (kc_up σ 38 0 (kp_M_first σ x))
set_option maxHeartbeats 4000000 in
set_option maxRecDepth 100000 in
theorem kk_M_fits_x (l : Launch) {V : kc_V} (hV : kc_G V) (σ : kc_Sg) (x : Int32) (hf : ¬ kp_M_first σ x = 0) : kc_Met l y_M_fits b_M_fits 2 (some .boolean) (kc_rm 3) V [.ref (kc_ad V 38), .int x] σ (some (.int kp_M_fits_x)) (kq_M_fits_x σ x) := by
  refine kc_of (by decide) (Nat.le_of_ble_eq_true rfl) hV.ok (fun C _ hC => ?_)
  show kc_Go C V 2 (0, 0) (kc_E C V (some (.int kp_M_fits_x)) (kq_M_fits_x σ x)) σ 0 [(0, .ref (kc_ad V 38)), (1, .int x)] []
  refine kg_aload_n hC d_M_fits_0 0 rfl ?_
  refine kg_aload_n hC d_M_fits_1 0 rfl ?_
  refine kg_iload_n hC d_M_fits_2 1 rfl ?_
  refine kg_virtualI hC (kk_M_first (kc_l C) hV σ x) cal_M_first tw_698 ts_M_first tw_696 (ko_38 hV) rfl rfl (by decide) (rest := [.ref (kc_ad V 38)]) rfl (Nat.le_of_ble_eq_true rfl) d_M_fits_3 ?_ (by decide)
  refine kg_puti hC (ko_38 hV) rfl ui_M ok_M nm_M (j := 0) (by decide) tw_604 rfl rfl rfl rfl d_M_fits_6 rfl ?_
  refine kg_aload_n hC d_M_fits_9 0 rfl ?_
  refine kg_geti hC (ko_38 hV) rfl ui_M (j := 0) (by decide) tw_604 rfl d_M_fits_10 rfl ?_
  refine kg_top (x' := (kp_M_first σ x)) kc_up_jj ?_
  refine kg_if_ne hC d_M_fits_13 (tgt := 28) rfl (fun _ => ?_) (fun q => absurd q (hf))
  refine kg_at (pc' := 28) rfl ?_
  refine kg_iconst hC d_M_fits_28 kn_i_0 ?_
  exact kg_zret hC d_M_fits_29 kn_z0 (by rw [kp_M_fits_x]) (by rw [kq_M_fits_x])
theorem kz_M_fits_x : kp_M_fits_x = nI 0 ∨ kp_M_fits_x = nI 1 := by
  unfold kp_M_fits_x
  (repeat' split) <;> first | exact Or.inl rfl | exact Or.inr rfl
def kp_M_fits (σ : kc_Sg) (d : Nat) : Int32 := if (kp_M_fitsSums (kc_up σ 38 0 (nI 0)) d) = 0 then (nI 0) else (nI 1)
def kq_M_fits (σ : kc_Sg) (d : Nat) : kc_Sg := if (kp_M_fitsSums (kc_up σ 38 0 (nI 0)) d) = 0 then (kc_up σ 38 0 (nI 0)) else (kc_up σ 38 0 (nI 0))
set_option maxHeartbeats 4000000 in
set_option maxRecDepth 100000 in
theorem kk_M_fits (l : Launch) {V : kc_V} (hV : kc_G V) (σ : kc_Sg) (d : Nat) (hf : kp_M_first σ (nI d) = nI 0) (mp : ¬ σ 38 1 = 0) (hd : d < 8) : kc_Met l y_M_fits b_M_fits 2 (some .boolean) (kc_rm 4) V [.ref (kc_ad V 38), .int (nI d)] σ (some (.int (kp_M_fits σ d))) (kq_M_fits σ d) := by
  refine kc_of (by decide) (Nat.le_of_ble_eq_true rfl) hV.ok (fun C _ hC => ?_)
  show kc_Go C V 2 (0, 0) (kc_E C V (some (.int (kp_M_fits σ d))) (kq_M_fits σ d)) σ 0 [(0, .ref (kc_ad V 38)), (1, .int (nI d))] []
  refine kg_aload_n hC d_M_fits_0 0 rfl ?_
  refine kg_aload_n hC d_M_fits_1 0 rfl ?_
  refine kg_iload_n hC d_M_fits_2 1 rfl ?_
  refine kg_virtualI hC (kk_M_first (kc_l C) hV σ (nI d)) cal_M_first tw_698 ts_M_first tw_696 (ko_38 hV) rfl rfl (by decide) (rest := [.ref (kc_ad V 38)]) rfl (Nat.le_of_ble_eq_true rfl) d_M_fits_3 ?_ (by decide)
  refine kg_top (x' := (nI 0)) hf ?_
  refine kg_puti hC (ko_38 hV) rfl ui_M ok_M nm_M (j := 0) (by decide) tw_604 rfl rfl rfl rfl d_M_fits_6 rfl ?_
  refine kg_aload_n hC d_M_fits_9 0 rfl ?_
  refine kg_geti hC (ko_38 hV) rfl ui_M (j := 0) (by decide) tw_604 rfl d_M_fits_10 rfl ?_
  refine kg_top (x' := (nI 0)) kc_up_jj ?_
  refine kg_if_ne hC d_M_fits_13 (tgt := 28) rfl (fun q => absurd q (by decide)) (fun _ => ?_)
  refine kg_at (pc' := 16) rfl ?_
  refine kg_aload_n hC d_M_fits_16 0 rfl ?_
  refine kg_iload_n hC d_M_fits_17 1 rfl ?_
  refine kg_virtualI hC (kk_M_fitsSums (kc_l C) hV (kc_up σ 38 0 (nI 0)) d mp hd) cal_M_fitsSums tw_757 ts_M_fitsSums tw_755 (ko_38 hV) rfl rfl (by decide) (rest := []) rfl (Nat.le_of_ble_eq_true rfl) d_M_fits_18 ?_ (by decide)
  refine kg_if_eq hC d_M_fits_21 (tgt := 28) rfl (fun h21 => ?_) (fun h21 => ?_)
  · refine kg_iconst hC d_M_fits_28 kn_i_0 ?_
    exact kg_zret hC d_M_fits_29 kn_z0 (by rw [kp_M_fits, if_pos h21]) (by rw [kq_M_fits, if_pos h21])
  · refine kg_iconst hC d_M_fits_24 kn_i_1 ?_
    refine kg_goto hC d_M_fits_25 (tgt := 29) rfl ?_
    exact kg_zret hC d_M_fits_29 kn_z1 (by rw [kp_M_fits, if_neg h21]) (by rw [kq_M_fits, if_neg h21])
theorem kz_M_fits (σ : kc_Sg) (d : Nat) : kp_M_fits σ d = nI 0 ∨ kp_M_fits σ d = nI 1 := by
  unfold kp_M_fits
  (repeat' split) <;> first | exact Or.inl rfl | exact Or.inr rfl
def kp_M_sum (σ : kc_Sg) (j : Int32) : Int32 := if (σ 38 4) = 0 then (nI 0) else (if j < 0 then (nI 0) else (if j ≤ (nI 3) then (σ 41 j.toNatClampNeg) else (nI 0)))
def kq_M_sum (σ : kc_Sg) (j : Int32) : kc_Sg := if (σ 38 4) = 0 then (kc_up σ 38 0 (nI 1)) else (if j < 0 then (kc_up σ 38 0 (nI 2)) else (if j ≤ (nI 3) then (kc_up σ 38 0 (nI 0)) else (kc_up σ 38 0 (nI 2))))
set_option maxHeartbeats 4000000 in
set_option maxRecDepth 100000 in
theorem kk_M_sum (l : Launch) {V : kc_V} (hV : kc_G V) (σ : kc_Sg) (j : Int32) : kc_Met l y_M_sum b_M_sum 2 (some .int) (kc_rm 1) V [.ref (kc_ad V 38), .int j] σ (some (.int (kp_M_sum σ j))) (kq_M_sum σ j) := by
  refine kc_of (by decide) (Nat.le_of_ble_eq_true rfl) hV.ok (fun C _ hC => ?_)
  show kc_Go C V 2 (0, 0) (kc_E C V (some (.int (kp_M_sum σ j))) (kq_M_sum σ j)) σ 0 [(0, .ref (kc_ad V 38)), (1, .int j)] []
  refine kg_aload_n hC d_M_sum_0 0 rfl ?_
  refine kg_aload_n hC d_M_sum_1 0 rfl ?_
  refine kg_geti hC (ko_38 hV) rfl ui_M (j := 4) (by decide) tw_608 rfl d_M_sum_2 rfl ?_
  refine kg_if_ne hC d_M_sum_5 (tgt := 12) rfl (fun h5 => ?_) (fun h5 => ?_)
  · refine kg_iload_n hC d_M_sum_12 1 rfl ?_
    refine kg_if_lt hC d_M_sum_13 (tgt := 21) rfl (fun h13 => ?_) (fun h13 => ?_)
    · refine kg_iconst hC d_M_sum_21 kn_i_2 ?_
      refine kg_goto hC d_M_sum_22 (tgt := 26) rfl ?_
      refine kg_puti hC (ko_38 hV) rfl ui_M ok_M nm_M (j := 0) (by decide) tw_604 rfl rfl rfl rfl d_M_sum_26 rfl ?_
      refine kg_aload_n hC d_M_sum_29 0 rfl ?_
      refine kg_geti hC (ko_38 hV) rfl ui_M (j := 0) (by decide) tw_604 rfl d_M_sum_30 rfl ?_
      refine kg_top (x' := (nI 2)) kc_up_jj ?_
      refine kg_if_eq hC d_M_sum_33 (tgt := 40) rfl (fun q => absurd q (by decide)) (fun _ => ?_)
      refine kg_iconst hC d_M_sum_36 kn_i_0 ?_
      refine kg_goto hC d_M_sum_37 (tgt := 46) rfl ?_
      refine kg_at (pc' := 46) rfl ?_
      exact kg_iret hC d_M_sum_46 (by rw [kp_M_sum, if_neg h5, if_pos h13]) (by rw [kq_M_sum, if_neg h5, if_pos h13])
    · refine kg_iload_n hC d_M_sum_16 1 rfl ?_
      refine kg_iconst hC d_M_sum_17 kn_i_3 ?_
      refine kg_icmp_le hC d_M_sum_18 (tgt := 25) rfl (fun h18 => ?_) (fun h18 => ?_)
      · refine kg_iconst hC d_M_sum_25 kn_i_0 ?_
        refine kg_puti hC (ko_38 hV) rfl ui_M ok_M nm_M (j := 0) (by decide) tw_604 rfl rfl rfl rfl d_M_sum_26 rfl ?_
        refine kg_aload_n hC d_M_sum_29 0 rfl ?_
        refine kg_geti hC (ko_38 hV) rfl ui_M (j := 0) (by decide) tw_604 rfl d_M_sum_30 rfl ?_
        refine kg_top (x' := (nI 0)) kc_up_jj ?_
        refine kg_if_eq hC d_M_sum_33 (tgt := 40) rfl (fun _ => ?_) (fun q => absurd (by decide) q)
        refine kg_aload_n hC d_M_sum_40 0 rfl ?_
        refine kg_getr hC (ko_38 hV) rfl ui_M (j := 8) (by decide) tw_612 rfl d_M_sum_41 rfl ?_
        refine kg_iload_n hC d_M_sum_44 1 rfl ?_
        refine kg_at (pc' := 45) rfl ?_
        refine kg_iald hC (ka_41 hV) (i := j.toNatClampNeg) (kn_nat h13) (Nat.lt_succ_of_le (kn_le h13 (by decide) h18)) d_M_sum_45 ?_
        refine kg_top (x' := (σ 41 j.toNatClampNeg)) (kc_up_nk (by decide)) ?_
        exact kg_iret hC d_M_sum_46 (by rw [kp_M_sum, if_neg h5, if_neg h13, if_pos h18]) (by rw [kq_M_sum, if_neg h5, if_neg h13, if_pos h18])
      · refine kg_iconst hC d_M_sum_21 kn_i_2 ?_
        refine kg_goto hC d_M_sum_22 (tgt := 26) rfl ?_
        refine kg_puti hC (ko_38 hV) rfl ui_M ok_M nm_M (j := 0) (by decide) tw_604 rfl rfl rfl rfl d_M_sum_26 rfl ?_
        refine kg_aload_n hC d_M_sum_29 0 rfl ?_
        refine kg_geti hC (ko_38 hV) rfl ui_M (j := 0) (by decide) tw_604 rfl d_M_sum_30 rfl ?_
        refine kg_top (x' := (nI 2)) kc_up_jj ?_
        refine kg_if_eq hC d_M_sum_33 (tgt := 40) rfl (fun q => absurd q (by decide)) (fun _ => ?_)
        refine kg_iconst hC d_M_sum_36 kn_i_0 ?_
        refine kg_goto hC d_M_sum_37 (tgt := 46) rfl ?_
        refine kg_at (pc' := 46) rfl ?_
        exact kg_iret hC d_M_sum_46 (by rw [kp_M_sum, if_neg h5, if_neg h13, if_neg h18]) (by rw [kq_M_sum, if_neg h5, if_neg h13, if_neg h18])
  · refine kg_iconst hC d_M_sum_8 kn_i_1 ?_
    refine kg_goto hC d_M_sum_9 (tgt := 26) rfl ?_
    refine kg_puti hC (ko_38 hV) rfl ui_M ok_M nm_M (j := 0) (by decide) tw_604 rfl rfl rfl rfl d_M_sum_26 rfl ?_
    refine kg_aload_n hC d_M_sum_29 0 rfl ?_
    refine kg_geti hC (ko_38 hV) rfl ui_M (j := 0) (by decide) tw_604 rfl d_M_sum_30 rfl ?_
    refine kg_top (x' := (nI 1)) kc_up_jj ?_
    refine kg_if_eq hC d_M_sum_33 (tgt := 40) rfl (fun q => absurd q (by decide)) (fun _ => ?_)
    refine kg_iconst hC d_M_sum_36 kn_i_0 ?_
    refine kg_goto hC d_M_sum_37 (tgt := 46) rfl ?_
    refine kg_at (pc' := 46) rfl ?_
    exact kg_iret hC d_M_sum_46 (by rw [kp_M_sum, if_pos h5]) (by rw [kq_M_sum, if_pos h5])
def kp_M_element_x : Int32 := (nI 0)
def kq_M_element_x (σ : kc_Sg) (x : Int32) : kc_Sg := (kc_up σ 38 0 (kp_M_first σ x))
set_option maxHeartbeats 4000000 in
set_option maxRecDepth 100000 in
theorem kk_M_element_x (l : Launch) {V : kc_V} (hV : kc_G V) (σ : kc_Sg) (x : Int32) (hf : ¬ kp_M_first σ x = 0) : kc_Met l y_M_element b_M_element 2 (some .int) (kc_rm 3) V [.ref (kc_ad V 38), .int x] σ (some (.int kp_M_element_x)) (kq_M_element_x σ x) := by
  refine kc_of (by decide) (Nat.le_of_ble_eq_true rfl) hV.ok (fun C _ hC => ?_)
  show kc_Go C V 2 (0, 0) (kc_E C V (some (.int kp_M_element_x)) (kq_M_element_x σ x)) σ 0 [(0, .ref (kc_ad V 38)), (1, .int x)] []
  refine kg_aload_n hC d_M_element_0 0 rfl ?_
  refine kg_aload_n hC d_M_element_1 0 rfl ?_
  refine kg_iload_n hC d_M_element_2 1 rfl ?_
  refine kg_virtualI hC (kk_M_first (kc_l C) hV σ x) cal_M_first tw_698 ts_M_first tw_696 (ko_38 hV) rfl rfl (by decide) (rest := [.ref (kc_ad V 38)]) rfl (Nat.le_of_ble_eq_true rfl) d_M_element_3 ?_ (by decide)
  refine kg_puti hC (ko_38 hV) rfl ui_M ok_M nm_M (j := 0) (by decide) tw_604 rfl rfl rfl rfl d_M_element_6 rfl ?_
  refine kg_aload_n hC d_M_element_9 0 rfl ?_
  refine kg_geti hC (ko_38 hV) rfl ui_M (j := 0) (by decide) tw_604 rfl d_M_element_10 rfl ?_
  refine kg_top (x' := (kp_M_first σ x)) kc_up_jj ?_
  refine kg_if_eq hC d_M_element_13 (tgt := 20) rfl (fun q => absurd q (hf)) (fun _ => ?_)
  refine kg_at (pc' := 16) rfl ?_
  refine kg_iconst hC d_M_element_16 kn_i_0 ?_
  refine kg_goto hC d_M_element_17 (tgt := 30) rfl ?_
  exact kg_iret hC d_M_element_30 (by rw [kp_M_element_x]) (by rw [kq_M_element_x])
def kp_M_element (σ : kc_Sg) (d : Nat) : Int32 := (kp_M_timesAt (kc_up σ 38 0 (nI 0)) 41 0 (nI d))
def kq_M_element (σ : kc_Sg) : kc_Sg := (kc_up σ 38 0 (nI 0))
set_option maxHeartbeats 4000000 in
set_option maxRecDepth 100000 in
theorem kk_M_element (l : Launch) {V : kc_V} (hV : kc_G V) (σ : kc_Sg) (d : Nat) (hf : kp_M_first σ (nI d) = nI 0) (mp : ¬ σ 38 1 = 0) (hd : d < 8) : kc_Met l y_M_element b_M_element 2 (some .int) (kc_rm 3) V [.ref (kc_ad V 38), .int (nI d)] σ (some (.int (kp_M_element σ d))) (kq_M_element σ) := by
  refine kc_of (by decide) (Nat.le_of_ble_eq_true rfl) hV.ok (fun C _ hC => ?_)
  show kc_Go C V 2 (0, 0) (kc_E C V (some (.int (kp_M_element σ d))) (kq_M_element σ)) σ 0 [(0, .ref (kc_ad V 38)), (1, .int (nI d))] []
  refine kg_aload_n hC d_M_element_0 0 rfl ?_
  refine kg_aload_n hC d_M_element_1 0 rfl ?_
  refine kg_iload_n hC d_M_element_2 1 rfl ?_
  refine kg_virtualI hC (kk_M_first (kc_l C) hV σ (nI d)) cal_M_first tw_698 ts_M_first tw_696 (ko_38 hV) rfl rfl (by decide) (rest := [.ref (kc_ad V 38)]) rfl (Nat.le_of_ble_eq_true rfl) d_M_element_3 ?_ (by decide)
  refine kg_top (x' := (nI 0)) hf ?_
  refine kg_puti hC (ko_38 hV) rfl ui_M ok_M nm_M (j := 0) (by decide) tw_604 rfl rfl rfl rfl d_M_element_6 rfl ?_
  refine kg_aload_n hC d_M_element_9 0 rfl ?_
  refine kg_geti hC (ko_38 hV) rfl ui_M (j := 0) (by decide) tw_604 rfl d_M_element_10 rfl ?_
  refine kg_top (x' := (nI 0)) kc_up_jj ?_
  refine kg_if_eq hC d_M_element_13 (tgt := 20) rfl (fun _ => ?_) (fun q => absurd (by decide) q)
  refine kg_at (pc' := 20) rfl ?_
  refine kg_aload_n hC d_M_element_20 0 rfl ?_
  refine kg_aload_n hC d_M_element_21 0 rfl ?_
  refine kg_getr hC (ko_38 hV) rfl ui_M (j := 8) (by decide) tw_612 rfl d_M_element_22 rfl ?_
  refine kg_iconst hC d_M_element_25 kn_i_0 ?_
  refine kg_iload_n hC d_M_element_26 1 rfl ?_
  refine kg_virtualI hC (kk_M_timesAt (kc_l C) hV (kc_up σ 38 0 (nI 0)) 41 0 (nI d) 4 mp (ka_41 hV) (by omega)) cal_M_timesAt tw_733 ts_M_timesAt tw_731 (ko_38 hV) rfl rfl (by decide) (rest := []) rfl (Nat.le_of_ble_eq_true rfl) d_M_element_27 ?_ (by decide)
  exact kg_iret hC d_M_element_30 (by rw [kp_M_element]) (by rw [kq_M_element])
def kp_M_reconstruct_z : Int32 := (nI 0)
def kq_M_reconstruct_z (σ : kc_Sg) : kc_Sg := (kc_up σ 38 0 (nI 1))
set_option maxHeartbeats 4000000 in
set_option maxRecDepth 100000 in
theorem kk_M_reconstruct_z (l : Launch) {V : kc_V} (hV : kc_G V) (σ : kc_Sg) (c : Int32) (hz : σ 38 4 = 0) : kc_Met l y_M_reconstruct b_M_reconstruct 3 (some .int) (kc_rm 1) V [.ref (kc_ad V 38), .int c] σ (some (.int kp_M_reconstruct_z)) (kq_M_reconstruct_z σ) := by
  refine kc_of (by decide) (Nat.le_of_ble_eq_true rfl) hV.ok (fun C _ hC => ?_)
  show kc_Go C V 3 (0, 0) (kc_E C V (some (.int kp_M_reconstruct_z)) (kq_M_reconstruct_z σ)) σ 0 [(0, .ref (kc_ad V 38)), (1, .int c)] []
  refine kg_aload_n hC d_M_reconstruct_0 0 rfl ?_
  refine kg_aload_n hC d_M_reconstruct_1 0 rfl ?_
  refine kg_geti hC (ko_38 hV) rfl ui_M (j := 4) (by decide) tw_608 rfl d_M_reconstruct_2 rfl ?_
  refine kg_if_ne hC d_M_reconstruct_5 (tgt := 12) rfl (fun q => absurd q (fun q9 => q9 hz)) (fun _ => ?_)
  refine kg_iconst hC d_M_reconstruct_8 kn_i_1 ?_
  refine kg_goto hC d_M_reconstruct_9 (tgt := 34) rfl ?_
  refine kg_puti hC (ko_38 hV) rfl ui_M ok_M nm_M (j := 0) (by decide) tw_604 rfl rfl rfl rfl d_M_reconstruct_34 rfl ?_
  refine kg_aload_n hC d_M_reconstruct_37 0 rfl ?_
  refine kg_at (pc' := 38) rfl ?_
  refine kg_geti hC (ko_38 hV) rfl ui_M (j := 0) (by decide) tw_604 rfl d_M_reconstruct_38 rfl ?_
  refine kg_top (x' := (nI 1)) kc_up_jj ?_
  refine kg_if_eq hC d_M_reconstruct_41 (tgt := 46) rfl (fun q => absurd q (by decide)) (fun _ => ?_)
  refine kg_iconst hC d_M_reconstruct_44 kn_i_0 ?_
  exact kg_iret hC d_M_reconstruct_45 (by rw [kp_M_reconstruct_z]) (by rw [kq_M_reconstruct_z])
def kf_M_reconstruct_1 (c : Int32) (i1 : Nat) (a1 : kc_Sg) : kc_Sg := if ((kc_shr c ((nI i1) - (nI 1))) &&& (nI 1)) = (nI 1) then (if (a1 40 i1) = 0 then a1 else (kc_up a1 38 0 (nI 2))) else a1
def kp_M_reconstruct (σ : kc_Sg) (c : Int32) : Int32 := if c < 0 then (nI 0) else (if (nI 127) < c then (nI 0) else (if (kp_M_four c) = 0 then (nI 0) else (if ((kc_it (kf_M_reconstruct_1 c) 7 1 (kc_up σ 38 0 (nI 0))) 38 0) = 0 then (kp_M_interpolate (kc_it (kf_M_reconstruct_1 c) 7 1 (kc_up σ 38 0 (nI 0))) (kp_M_four c) (nI 0)) else (nI 0))))
def kq_M_reconstruct (σ : kc_Sg) (c : Int32) : kc_Sg := if c < 0 then (kc_up σ 38 0 (nI 2)) else (if (nI 127) < c then (kc_up σ 38 0 (nI 2)) else (if (kp_M_four c) = 0 then (kc_up σ 38 0 (nI 2)) else (if ((kc_it (kf_M_reconstruct_1 c) 7 1 (kc_up σ 38 0 (nI 0))) 38 0) = 0 then (kc_it (kf_M_reconstruct_1 c) 7 1 (kc_up σ 38 0 (nI 0))) else (kc_it (kf_M_reconstruct_1 c) 7 1 (kc_up σ 38 0 (nI 0))))))
set_option maxHeartbeats 4000000 in
set_option maxRecDepth 100000 in
theorem kk_M_reconstruct (l : Launch) {V : kc_V} (hV : kc_G V) (σ : kc_Sg) (c : Int32) (hz : ¬ σ 38 4 = 0) (mq : ¬ σ 38 2 = 0) : kc_Met l y_M_reconstruct b_M_reconstruct 3 (some .int) (kc_rm 3) V [.ref (kc_ad V 38), .int c] σ (some (.int (kp_M_reconstruct σ c))) (kq_M_reconstruct σ c) := by
  refine kc_of (by decide) (Nat.le_of_ble_eq_true rfl) hV.ok (fun C _ hC => ?_)
  show kc_Go C V 3 (0, 0) (kc_E C V (some (.int (kp_M_reconstruct σ c))) (kq_M_reconstruct σ c)) σ 0 [(0, .ref (kc_ad V 38)), (1, .int c)] []
  refine kg_aload_n hC d_M_reconstruct_0 0 rfl ?_
  refine kg_aload_n hC d_M_reconstruct_1 0 rfl ?_
  refine kg_geti hC (ko_38 hV) rfl ui_M (j := 4) (by decide) tw_608 rfl d_M_reconstruct_2 rfl ?_
  refine kg_if_ne hC d_M_reconstruct_5 (tgt := 12) rfl (fun _ => ?_) (fun q => absurd q (hz))
  refine kg_iload_n hC d_M_reconstruct_12 1 rfl ?_
  refine kg_if_lt hC d_M_reconstruct_13 (tgt := 29) rfl (fun h13 => ?_) (fun h13 => ?_)
  · refine kg_iconst hC d_M_reconstruct_29 kn_i_2 ?_
    refine kg_goto hC d_M_reconstruct_30 (tgt := 34) rfl ?_
    refine kg_puti hC (ko_38 hV) rfl ui_M ok_M nm_M (j := 0) (by decide) tw_604 rfl rfl rfl rfl d_M_reconstruct_34 rfl ?_
    refine kg_aload_n hC d_M_reconstruct_37 0 rfl ?_
    refine kg_geti hC (ko_38 hV) rfl ui_M (j := 0) (by decide) tw_604 rfl d_M_reconstruct_38 rfl ?_
    refine kg_top (x' := (nI 2)) kc_up_jj ?_
    refine kg_if_eq hC d_M_reconstruct_41 (tgt := 46) rfl (fun q => absurd q (by decide)) (fun _ => ?_)
    refine kg_iconst hC d_M_reconstruct_44 kn_i_0 ?_
    exact kg_iret hC d_M_reconstruct_45 (by rw [kp_M_reconstruct, if_pos h13]) (by rw [kq_M_reconstruct, if_pos h13])
  · refine kg_iload_n hC d_M_reconstruct_16 1 rfl ?_
    refine kg_bipush hC d_M_reconstruct_17 kn_b_127 ?_
    refine kg_icmp_gt hC d_M_reconstruct_19 (tgt := 29) rfl (fun h19 => ?_) (fun h19 => ?_)
    · refine kg_iconst hC d_M_reconstruct_29 kn_i_2 ?_
      refine kg_goto hC d_M_reconstruct_30 (tgt := 34) rfl ?_
      refine kg_puti hC (ko_38 hV) rfl ui_M ok_M nm_M (j := 0) (by decide) tw_604 rfl rfl rfl rfl d_M_reconstruct_34 rfl ?_
      refine kg_aload_n hC d_M_reconstruct_37 0 rfl ?_
      refine kg_geti hC (ko_38 hV) rfl ui_M (j := 0) (by decide) tw_604 rfl d_M_reconstruct_38 rfl ?_
      refine kg_top (x' := (nI 2)) kc_up_jj ?_
      refine kg_if_eq hC d_M_reconstruct_41 (tgt := 46) rfl (fun q => absurd q (by decide)) (fun _ => ?_)
      refine kg_iconst hC d_M_reconstruct_44 kn_i_0 ?_
      exact kg_iret hC d_M_reconstruct_45 (by rw [kp_M_reconstruct, if_neg h13, if_pos h19]) (by rw [kq_M_reconstruct, if_neg h13, if_pos h19])
    · refine kg_iload_n hC d_M_reconstruct_22 1 rfl ?_
      refine kg_staticI hC (kk_M_four (kc_l C) hV σ c) cal_M_four tw_760 tw_759 rfl (by decide) (rest := [.ref (kc_ad V 38)]) rfl (Nat.le_of_ble_eq_true rfl) d_M_reconstruct_23 ?_ (by decide)
      refine kg_if_ne hC d_M_reconstruct_26 (tgt := 33) rfl (fun h26 => ?_) (fun h26 => ?_)
      · refine kg_iconst hC d_M_reconstruct_33 kn_i_0 ?_
        refine kg_puti hC (ko_38 hV) rfl ui_M ok_M nm_M (j := 0) (by decide) tw_604 rfl rfl rfl rfl d_M_reconstruct_34 rfl ?_
        refine kg_aload_n hC d_M_reconstruct_37 0 rfl ?_
        refine kg_geti hC (ko_38 hV) rfl ui_M (j := 0) (by decide) tw_604 rfl d_M_reconstruct_38 rfl ?_
        refine kg_top (x' := (nI 0)) kc_up_jj ?_
        refine kg_if_eq hC d_M_reconstruct_41 (tgt := 46) rfl (fun _ => ?_) (fun q => absurd (by decide) q)
        refine kg_iconst hC d_M_reconstruct_46 kn_i_1 ?_
        refine kg_istore_n hC d_M_reconstruct_47 [(2, .int (nI 1)), (0, .ref (kc_ad V 38)), (1, .int c)] rfl (by decide) ?_
        refine kc_loop (fun i1 a1 => (a1 38 1 = σ 38 1 ∧ a1 38 2 = σ 38 2 ∧ a1 38 16 = σ 38 16) → kc_Go C V 3 (0, 0) (kc_E C V (some (.int (kp_M_reconstruct σ c))) (kq_M_reconstruct σ c)) a1 48 [(2, .int (nI i1)), (0, .ref (kc_ad V 38)), (1, .int c)] []) (kf_M_reconstruct_1 c) 1 8 (fun i1 a1 ho1 hi1 hk1 hv1 => ?_) 7 1 (kc_up σ 38 0 (nI 0)) (Nat.le_refl _) rfl (fun hw1 => ?_) ⟨rfl, rfl, rfl⟩
        · refine kg_iload_n hC d_M_reconstruct_48 0 rfl ?_
          refine kg_bipush hC d_M_reconstruct_49 kn_b_8 ?_
          refine kg_icmp_ge hC d_M_reconstruct_51 (tgt := 85) rfl (fun q => absurd q (nI_ge (by omega) (by decide))) (fun _ => ?_)
          refine kg_iload_n hC d_M_reconstruct_54 2 rfl ?_
          refine kg_iload_n hC d_M_reconstruct_55 0 rfl ?_
          refine kg_iconst hC d_M_reconstruct_56 kn_i_1 ?_
          refine kg_isub hC d_M_reconstruct_57 ?_
          refine kg_ishr hC d_M_reconstruct_58 ?_
          refine kg_at (pc' := 59) rfl ?_
          refine kg_iconst hC d_M_reconstruct_59 kn_i_1 ?_
          refine kg_iand hC d_M_reconstruct_60 ?_
          refine kg_iconst hC d_M_reconstruct_61 kn_i_1 ?_
          refine kg_icmp_ne hC d_M_reconstruct_62 (tgt := 79) rfl (fun h62 => ?_) (fun h62 => ?_)
          · refine kg_iinc hC d_M_reconstruct_79 0 rfl (kn_inc1 i1) [(2, .int (nI (i1 + 1))), (0, .ref (kc_ad V 38)), (1, .int c)] rfl (by decide) ?_
            refine kg_goto hC d_M_reconstruct_82 (tgt := 48) rfl ?_
            exact kg_to (P := fun zz => (zz 38 1 = σ 38 1 ∧ zz 38 2 = σ 38 2 ∧ zz 38 16 = σ 38 16) → kc_Go C V 3 (0, 0) (kc_E C V (some (.int (kp_M_reconstruct σ c))) (kq_M_reconstruct σ c)) zz 48 [(2, .int (nI (i1 + 1))), (0, .ref (kc_ad V 38)), (1, .int c)] []) (b := a1) (a := (kf_M_reconstruct_1 c) i1 a1) (by rw [kf_M_reconstruct_1, if_neg h62]) hk1 hv1
          · refine kg_aload_n hC d_M_reconstruct_65 1 rfl ?_
            refine kg_getr hC (ko_38 hV) rfl ui_M (j := 7) (by decide) tw_611 rfl d_M_reconstruct_66 rfl ?_
            refine kg_iload_n hC d_M_reconstruct_69 0 rfl ?_
            refine kg_zald hC (ka_40 hV) (i := i1) rfl (by omega) d_M_reconstruct_70 ?_
            refine kg_if_eq hC d_M_reconstruct_71 (tgt := 79) rfl (fun h71 => ?_) (fun h71 => ?_)
            · refine kg_iinc hC d_M_reconstruct_79 0 rfl (kn_inc1 i1) [(2, .int (nI (i1 + 1))), (0, .ref (kc_ad V 38)), (1, .int c)] rfl (by decide) ?_
              refine kg_goto hC d_M_reconstruct_82 (tgt := 48) rfl ?_
              exact kg_to (P := fun zz => (zz 38 1 = σ 38 1 ∧ zz 38 2 = σ 38 2 ∧ zz 38 16 = σ 38 16) → kc_Go C V 3 (0, 0) (kc_E C V (some (.int (kp_M_reconstruct σ c))) (kq_M_reconstruct σ c)) zz 48 [(2, .int (nI (i1 + 1))), (0, .ref (kc_ad V 38)), (1, .int c)] []) (b := a1) (a := (kf_M_reconstruct_1 c) i1 a1) (by rw [kf_M_reconstruct_1, if_pos h62, if_pos h71]) hk1 hv1
            · refine kg_aload_n hC d_M_reconstruct_74 1 rfl ?_
              refine kg_iconst hC d_M_reconstruct_75 kn_i_2 ?_
              refine kg_puti hC (ko_38 hV) rfl ui_M ok_M nm_M (j := 0) (by decide) tw_604 rfl rfl rfl rfl d_M_reconstruct_76 rfl ?_
              refine kg_iinc hC d_M_reconstruct_79 0 rfl (kn_inc1 i1) [(2, .int (nI (i1 + 1))), (0, .ref (kc_ad V 38)), (1, .int c)] rfl (by decide) ?_
              refine kg_goto hC d_M_reconstruct_82 (tgt := 48) rfl ?_
              exact kg_to (P := fun zz => (zz 38 1 = σ 38 1 ∧ zz 38 2 = σ 38 2 ∧ zz 38 16 = σ 38 16) → kc_Go C V 3 (0, 0) (kc_E C V (some (.int (kp_M_reconstruct σ c))) (kq_M_reconstruct σ c)) zz 48 [(2, .int (nI (i1 + 1))), (0, .ref (kc_ad V 38)), (1, .int c)] []) (b := (kc_up a1 38 0 (nI 2))) (a := (kf_M_reconstruct_1 c) i1 a1) (by rw [kf_M_reconstruct_1, if_pos h62, if_neg h71]) hk1 hv1
        generalize hg1 : (kc_it (kf_M_reconstruct_1 c) 7 1 (kc_up σ 38 0 (nI 0))) = τ1 at hw1 ⊢
        refine kg_iload_n hC d_M_reconstruct_48 0 rfl ?_
        refine kg_bipush hC d_M_reconstruct_49 kn_b_8 ?_
        refine kg_icmp_ge hC d_M_reconstruct_51 (tgt := 85) rfl (fun _ => ?_) (fun q => absurd (nI_le (by decide) (by decide)) q)
        refine kg_aload_n hC d_M_reconstruct_85 1 rfl ?_
        refine kg_geti hC (ko_38 hV) rfl ui_M (j := 0) (by decide) tw_604 rfl d_M_reconstruct_86 rfl ?_
        refine kg_if_eq hC d_M_reconstruct_89 (tgt := 96) rfl (fun h89 => ?_) (fun h89 => ?_)
        · refine kg_aload_n hC d_M_reconstruct_96 1 rfl ?_
          refine kg_iload_n hC d_M_reconstruct_97 2 rfl ?_
          refine kg_staticI hC (kk_M_four (kc_l C) hV τ1 c) cal_M_four tw_760 tw_759 rfl (by decide) (rest := [.ref (kc_ad V 38)]) rfl (Nat.le_of_ble_eq_true rfl) d_M_reconstruct_98 ?_ (by decide)
          refine kg_iconst hC d_M_reconstruct_101 kn_i_0 ?_
          refine kg_virtualI hC (kk_M_interpolate (kc_l C) hV τ1 (kp_M_four c) (nI 0) (by rw [hw1.2.1]; exact mq)) cal_M_interpolate tw_764 ts_M_interpolate tw_762 (ko_38 hV) rfl rfl (by decide) (rest := []) rfl (Nat.le_of_ble_eq_true rfl) d_M_reconstruct_102 ?_ (by decide)
          exact kg_iret hC d_M_reconstruct_105 (by rw [kp_M_reconstruct, hg1, if_neg h13, if_neg h19, if_neg h26, if_pos h89]) (by rw [kq_M_reconstruct, hg1, if_neg h13, if_neg h19, if_neg h26, if_pos h89])
        · refine kg_iconst hC d_M_reconstruct_92 kn_i_0 ?_
          refine kg_goto hC d_M_reconstruct_93 (tgt := 105) rfl ?_
          exact kg_iret hC d_M_reconstruct_105 (by rw [kp_M_reconstruct, hg1, if_neg h13, if_neg h19, if_neg h26, if_neg h89]) (by rw [kq_M_reconstruct, hg1, if_neg h13, if_neg h19, if_neg h26, if_neg h89])
      · refine kg_iconst hC d_M_reconstruct_29 kn_i_2 ?_
        refine kg_goto hC d_M_reconstruct_30 (tgt := 34) rfl ?_
        refine kg_puti hC (ko_38 hV) rfl ui_M ok_M nm_M (j := 0) (by decide) tw_604 rfl rfl rfl rfl d_M_reconstruct_34 rfl ?_
        refine kg_aload_n hC d_M_reconstruct_37 0 rfl ?_
        refine kg_geti hC (ko_38 hV) rfl ui_M (j := 0) (by decide) tw_604 rfl d_M_reconstruct_38 rfl ?_
        refine kg_top (x' := (nI 2)) kc_up_jj ?_
        refine kg_if_eq hC d_M_reconstruct_41 (tgt := 46) rfl (fun q => absurd q (by decide)) (fun _ => ?_)
        refine kg_iconst hC d_M_reconstruct_44 kn_i_0 ?_
        exact kg_iret hC d_M_reconstruct_45 (by rw [kp_M_reconstruct, if_neg h13, if_neg h19, if_pos h26]) (by rw [kq_M_reconstruct, if_neg h13, if_neg h19, if_pos h26])
def kp_M_post (σ : kc_Sg) (n : Int32) (j : Int32) : Int32 := if (σ 38 4) = 0 then (nI 0) else (if n < 0 then (nI 0) else (if n < (σ 38 16) then (if j < 0 then (nI 0) else (if j ≤ (nI 8) then (σ 49 (9 * n.toNatClampNeg + j.toNatClampNeg)) else (nI 0))) else (nI 0)))
def kq_M_post (σ : kc_Sg) (n : Int32) (j : Int32) : kc_Sg := if (σ 38 4) = 0 then (kc_up σ 38 0 (nI 1)) else (if n < 0 then (kc_up σ 38 0 (nI 2)) else (if n < (σ 38 16) then (if j < 0 then (kc_up σ 38 0 (nI 3)) else (if j ≤ (nI 8) then (kc_up σ 38 0 (nI 0)) else (kc_up σ 38 0 (nI 3)))) else (kc_up σ 38 0 (nI 2))))
set_option maxHeartbeats 4000000 in
set_option maxRecDepth 100000 in
theorem kk_M_post (l : Launch) {V : kc_V} (hV : kc_G V) (σ : kc_Sg) (n : Int32) (j : Int32) (hb : kc_mbe σ) : kc_Met l y_M_post b_M_post 3 (some .int) (kc_rm 1) V [.ref (kc_ad V 38), .int n, .int j] σ (some (.int (kp_M_post σ n j))) (kq_M_post σ n j) := by
  refine kc_of (by decide) (Nat.le_of_ble_eq_true rfl) hV.ok (fun C _ hC => ?_)
  show kc_Go C V 3 (0, 0) (kc_E C V (some (.int (kp_M_post σ n j))) (kq_M_post σ n j)) σ 0 [(0, .ref (kc_ad V 38)), (1, .int n), (2, .int j)] []
  refine kg_aload_n hC d_M_post_0 0 rfl ?_
  refine kg_aload_n hC d_M_post_1 0 rfl ?_
  refine kg_geti hC (ko_38 hV) rfl ui_M (j := 4) (by decide) tw_608 rfl d_M_post_2 rfl ?_
  refine kg_if_ne hC d_M_post_5 (tgt := 12) rfl (fun h5 => ?_) (fun h5 => ?_)
  · refine kg_iload_n hC d_M_post_12 1 rfl ?_
    refine kg_if_lt hC d_M_post_13 (tgt := 24) rfl (fun h13 => ?_) (fun h13 => ?_)
    · refine kg_iconst hC d_M_post_24 kn_i_2 ?_
      refine kg_goto hC d_M_post_25 (tgt := 43) rfl ?_
      refine kg_puti hC (ko_38 hV) rfl ui_M ok_M nm_M (j := 0) (by decide) tw_604 rfl rfl rfl rfl d_M_post_43 rfl ?_
      refine kg_aload_n hC d_M_post_46 0 rfl ?_
      refine kg_geti hC (ko_38 hV) rfl ui_M (j := 0) (by decide) tw_604 rfl d_M_post_47 rfl ?_
      refine kg_top (x' := (nI 2)) kc_up_jj ?_
      refine kg_if_eq hC d_M_post_50 (tgt := 57) rfl (fun q => absurd q (by decide)) (fun _ => ?_)
      refine kg_iconst hC d_M_post_53 kn_i_0 ?_
      refine kg_goto hC d_M_post_54 (tgt := 68) rfl ?_
      refine kg_at (pc' := 68) rfl ?_
      exact kg_iret hC d_M_post_68 (by rw [kp_M_post, if_neg h5, if_pos h13]) (by rw [kq_M_post, if_neg h5, if_pos h13])
    · refine kg_iload_n hC d_M_post_16 1 rfl ?_
      refine kg_aload_n hC d_M_post_17 0 rfl ?_
      refine kg_geti hC (ko_38 hV) rfl ui_M (j := 16) (by decide) tw_620 rfl d_M_post_18 rfl ?_
      refine kg_icmp_lt hC d_M_post_21 (tgt := 28) rfl (fun h21 => ?_) (fun h21 => ?_)
      · refine kg_iload_n hC d_M_post_28 2 rfl ?_
        refine kg_if_lt hC d_M_post_29 (tgt := 38) rfl (fun h29 => ?_) (fun h29 => ?_)
        · refine kg_iconst hC d_M_post_38 kn_i_3 ?_
          refine kg_goto hC d_M_post_39 (tgt := 43) rfl ?_
          refine kg_puti hC (ko_38 hV) rfl ui_M ok_M nm_M (j := 0) (by decide) tw_604 rfl rfl rfl rfl d_M_post_43 rfl ?_
          refine kg_aload_n hC d_M_post_46 0 rfl ?_
          refine kg_geti hC (ko_38 hV) rfl ui_M (j := 0) (by decide) tw_604 rfl d_M_post_47 rfl ?_
          refine kg_top (x' := (nI 3)) kc_up_jj ?_
          refine kg_if_eq hC d_M_post_50 (tgt := 57) rfl (fun q => absurd q (by decide)) (fun _ => ?_)
          refine kg_iconst hC d_M_post_53 kn_i_0 ?_
          refine kg_goto hC d_M_post_54 (tgt := 68) rfl ?_
          refine kg_at (pc' := 68) rfl ?_
          exact kg_iret hC d_M_post_68 (by rw [kp_M_post, if_neg h5, if_neg h13, if_pos h21, if_pos h29]) (by rw [kq_M_post, if_neg h5, if_neg h13, if_pos h21, if_pos h29])
        · refine kg_iload_n hC d_M_post_32 2 rfl ?_
          refine kg_bipush hC d_M_post_33 kn_b_8 ?_
          refine kg_icmp_le hC d_M_post_35 (tgt := 42) rfl (fun h35 => ?_) (fun h35 => ?_)
          · refine kg_iconst hC d_M_post_42 kn_i_0 ?_
            refine kg_puti hC (ko_38 hV) rfl ui_M ok_M nm_M (j := 0) (by decide) tw_604 rfl rfl rfl rfl d_M_post_43 rfl ?_
            refine kg_aload_n hC d_M_post_46 0 rfl ?_
            refine kg_geti hC (ko_38 hV) rfl ui_M (j := 0) (by decide) tw_604 rfl d_M_post_47 rfl ?_
            refine kg_top (x' := (nI 0)) kc_up_jj ?_
            refine kg_if_eq hC d_M_post_50 (tgt := 57) rfl (fun _ => ?_) (fun q => absurd (by decide) q)
            refine kg_aload_n hC d_M_post_57 0 rfl ?_
            refine kg_getr hC (ko_38 hV) rfl ui_M (j := 17) (by decide) tw_621 rfl d_M_post_58 rfl ?_
            refine kg_bipush hC d_M_post_61 kn_b_9 ?_
            refine kg_at (pc' := 63) rfl ?_
            refine kg_iload_n hC d_M_post_63 1 rfl ?_
            refine kg_imul hC d_M_post_64 ?_
            refine kg_iload_n hC d_M_post_65 2 rfl ?_
            refine kg_iadd hC d_M_post_66 ?_
            refine kg_iald hC (ka_49 hV) (i := (9 * n.toNatClampNeg + j.toNatClampNeg)) (kn_ix9 h13 h29) (by have g1 := kn_lt h13 (by have := hb.2; omega) (hb.1 ▸ h21); have g2 := kn_le h29 (by decide) h35; have g3 := hb.2; omega) d_M_post_67 ?_
            refine kg_top (x' := (σ 49 (9 * n.toNatClampNeg + j.toNatClampNeg))) (kc_up_nk (by decide)) ?_
            exact kg_iret hC d_M_post_68 (by rw [kp_M_post, if_neg h5, if_neg h13, if_pos h21, if_neg h29, if_pos h35]) (by rw [kq_M_post, if_neg h5, if_neg h13, if_pos h21, if_neg h29, if_pos h35])
          · refine kg_iconst hC d_M_post_38 kn_i_3 ?_
            refine kg_goto hC d_M_post_39 (tgt := 43) rfl ?_
            refine kg_puti hC (ko_38 hV) rfl ui_M ok_M nm_M (j := 0) (by decide) tw_604 rfl rfl rfl rfl d_M_post_43 rfl ?_
            refine kg_aload_n hC d_M_post_46 0 rfl ?_
            refine kg_geti hC (ko_38 hV) rfl ui_M (j := 0) (by decide) tw_604 rfl d_M_post_47 rfl ?_
            refine kg_top (x' := (nI 3)) kc_up_jj ?_
            refine kg_if_eq hC d_M_post_50 (tgt := 57) rfl (fun q => absurd q (by decide)) (fun _ => ?_)
            refine kg_iconst hC d_M_post_53 kn_i_0 ?_
            refine kg_goto hC d_M_post_54 (tgt := 68) rfl ?_
            refine kg_at (pc' := 68) rfl ?_
            exact kg_iret hC d_M_post_68 (by rw [kp_M_post, if_neg h5, if_neg h13, if_pos h21, if_neg h29, if_neg h35]) (by rw [kq_M_post, if_neg h5, if_neg h13, if_pos h21, if_neg h29, if_neg h35])
      · refine kg_iconst hC d_M_post_24 kn_i_2 ?_
        refine kg_goto hC d_M_post_25 (tgt := 43) rfl ?_
        refine kg_puti hC (ko_38 hV) rfl ui_M ok_M nm_M (j := 0) (by decide) tw_604 rfl rfl rfl rfl d_M_post_43 rfl ?_
        refine kg_aload_n hC d_M_post_46 0 rfl ?_
        refine kg_geti hC (ko_38 hV) rfl ui_M (j := 0) (by decide) tw_604 rfl d_M_post_47 rfl ?_
        refine kg_top (x' := (nI 2)) kc_up_jj ?_
        refine kg_if_eq hC d_M_post_50 (tgt := 57) rfl (fun q => absurd q (by decide)) (fun _ => ?_)
        refine kg_iconst hC d_M_post_53 kn_i_0 ?_
        refine kg_goto hC d_M_post_54 (tgt := 68) rfl ?_
        refine kg_at (pc' := 68) rfl ?_
        exact kg_iret hC d_M_post_68 (by rw [kp_M_post, if_neg h5, if_neg h13, if_neg h21]) (by rw [kq_M_post, if_neg h5, if_neg h13, if_neg h21])
  · refine kg_iconst hC d_M_post_8 kn_i_1 ?_
    refine kg_goto hC d_M_post_9 (tgt := 43) rfl ?_
    refine kg_puti hC (ko_38 hV) rfl ui_M ok_M nm_M (j := 0) (by decide) tw_604 rfl rfl rfl rfl d_M_post_43 rfl ?_
    refine kg_aload_n hC d_M_post_46 0 rfl ?_
    refine kg_geti hC (ko_38 hV) rfl ui_M (j := 0) (by decide) tw_604 rfl d_M_post_47 rfl ?_
    refine kg_top (x' := (nI 1)) kc_up_jj ?_
    refine kg_if_eq hC d_M_post_50 (tgt := 57) rfl (fun q => absurd q (by decide)) (fun _ => ?_)
    refine kg_iconst hC d_M_post_53 kn_i_0 ?_
    refine kg_goto hC d_M_post_54 (tgt := 68) rfl ?_
    refine kg_at (pc' := 68) rfl ?_
    exact kg_iret hC d_M_post_68 (by rw [kp_M_post, if_pos h5]) (by rw [kq_M_post, if_pos h5])
def kf_M_about_1 (σ : kc_Sg) (j : Int32) (i1 : Nat) (a1 : Int32) : Int32 := if (if j = (nI 4) then (kp_M_dealer (kc_up σ 38 0 (nI 0)) i1) else (if j = (nI 5) then (σ 40 i1) else (if (σ 42 i1) ≤ 0 then (nI 0) else (nI 1)))) = 0 then a1 else (a1 ||| (kc_shl (nI 1) ((nI i1) - (nI 1))))
def kf_M_about_2 (σ : kc_Sg) (j : Int32) (i2 : Nat) (a2 : Int32) : Int32 := (a2 + (if j = (nI 2) then (if (σ 47 i2) = 0 then (nI 0) else (nI 1)) else (if (σ 48 i2) = 0 then (nI 0) else (nI 1))))
def kp_M_about (σ : kc_Sg) (j : Int32) : Int32 := if j < 0 then (nI 0) else (if j ≤ (nI 6) then (if (σ 38 4) = 0 then (nI 0) else (if j = 0 then (σ 38 5) else (if j = (nI 1) then (σ 38 16) else (if (nI 4) ≤ j then (kc_it (kf_M_about_1 σ j) 7 1 (nI 0)) else (kc_it (kf_M_about_2 σ j) 64 0 (nI 0)))))) else (nI 0))
def kq_M_about (σ : kc_Sg) (j : Int32) : kc_Sg := if j < 0 then (kc_up σ 38 0 (nI 1)) else (if j ≤ (nI 6) then (if (σ 38 4) = 0 then (kc_up σ 38 0 (nI 0)) else (if j = 0 then (kc_up σ 38 0 (nI 0)) else (if j = (nI 1) then (kc_up σ 38 0 (nI 0)) else (if (nI 4) ≤ j then (kc_up σ 38 0 (nI 0)) else (kc_up σ 38 0 (nI 0)))))) else (kc_up σ 38 0 (nI 1)))
set_option maxHeartbeats 4000000 in
set_option maxRecDepth 100000 in
theorem kk_M_about (l : Launch) {V : kc_V} (hV : kc_G V) (σ : kc_Sg) (j : Int32) : kc_Met l y_M_about b_M_about 5 (some .int) (kc_rm 2) V [.ref (kc_ad V 38), .int j] σ (some (.int (kp_M_about σ j))) (kq_M_about σ j) := by
  refine kc_of (by decide) (Nat.le_of_ble_eq_true rfl) hV.ok (fun C _ hC => ?_)
  show kc_Go C V 5 (0, 0) (kc_E C V (some (.int (kp_M_about σ j))) (kq_M_about σ j)) σ 0 [(0, .ref (kc_ad V 38)), (1, .int j)] []
  refine kg_aload_n hC d_M_about_0 0 rfl ?_
  refine kg_iload_n hC d_M_about_1 1 rfl ?_
  refine kg_if_lt hC d_M_about_2 (tgt := 11) rfl (fun h2 => ?_) (fun h2 => ?_)
  · refine kg_iconst hC d_M_about_11 kn_i_1 ?_
    refine kg_goto hC d_M_about_12 (tgt := 16) rfl ?_
    refine kg_puti hC (ko_38 hV) rfl ui_M ok_M nm_M (j := 0) (by decide) tw_604 rfl rfl rfl rfl d_M_about_16 rfl ?_
    refine kg_aload_n hC d_M_about_19 0 rfl ?_
    refine kg_geti hC (ko_38 hV) rfl ui_M (j := 0) (by decide) tw_604 rfl d_M_about_20 rfl ?_
    refine kg_top (x' := (nI 1)) kc_up_jj ?_
    refine kg_if_ne hC d_M_about_23 (tgt := 33) rfl (fun _ => ?_) (fun q => absurd q (by decide))
    refine kg_iconst hC d_M_about_33 kn_i_0 ?_
    exact kg_iret hC d_M_about_34 (by rw [kp_M_about, if_pos h2]) (by rw [kq_M_about, if_pos h2])
  · refine kg_iload_n hC d_M_about_5 1 rfl ?_
    refine kg_bipush hC d_M_about_6 kn_b_6 ?_
    refine kg_icmp_le hC d_M_about_8 (tgt := 15) rfl (fun h8 => ?_) (fun h8 => ?_)
    · refine kg_iconst hC d_M_about_15 kn_i_0 ?_
      refine kg_puti hC (ko_38 hV) rfl ui_M ok_M nm_M (j := 0) (by decide) tw_604 rfl rfl rfl rfl d_M_about_16 rfl ?_
      refine kg_aload_n hC d_M_about_19 0 rfl ?_
      refine kg_geti hC (ko_38 hV) rfl ui_M (j := 0) (by decide) tw_604 rfl d_M_about_20 rfl ?_
      refine kg_top (x' := (nI 0)) kc_up_jj ?_
      refine kg_if_ne hC d_M_about_23 (tgt := 33) rfl (fun q => absurd q (by decide)) (fun _ => ?_)
      refine kg_aload_n hC d_M_about_26 0 rfl ?_
      refine kg_geti hC (ko_38 hV) rfl ui_M (j := 4) (by decide) tw_608 rfl d_M_about_27 rfl ?_
      refine kg_top (x' := (σ 38 4)) (kc_up_nj (by decide)) ?_
      refine kg_if_ne hC d_M_about_30 (tgt := 35) rfl (fun h30 => ?_) (fun h30 => ?_)
      · refine kg_iload_n hC d_M_about_35 1 rfl ?_
        refine kg_if_ne hC d_M_about_36 (tgt := 44) rfl (fun h36 => ?_) (fun h36 => ?_)
        · refine kg_iload_n hC d_M_about_44 1 rfl ?_
          refine kg_iconst hC d_M_about_45 kn_i_1 ?_
          refine kg_icmp_ne hC d_M_about_46 (tgt := 54) rfl (fun h46 => ?_) (fun h46 => ?_)
          · refine kg_iconst hC d_M_about_54 kn_i_0 ?_
            refine kg_istore_n hC d_M_about_55 [(2, .int (nI 0)), (0, .ref (kc_ad V 38)), (1, .int j)] rfl (by decide) ?_
            refine kg_iload_n hC d_M_about_56 2 rfl ?_
            refine kg_iconst hC d_M_about_57 kn_i_4 ?_
            refine kg_icmp_ge hC d_M_about_58 (tgt := 111) rfl (fun h58 => ?_) (fun h58 => ?_)
            · refine kg_iconst hC d_M_about_111 kn_i_1 ?_
              refine kg_istore_n hC d_M_about_112 [(3, .int (nI 1)), (2, .int (nI 0)), (0, .ref (kc_ad V 38)), (1, .int j)] rfl (by decide) ?_
              refine kc_loop (fun i1 a1 => kc_Go C V 5 (0, 0) (kc_E C V (some (.int (kp_M_about σ j))) (kq_M_about σ j)) (kc_up σ 38 0 (nI 0)) 113 [(3, .int (nI i1)), (2, .int a1), (0, .ref (kc_ad V 38)), (1, .int j)] []) (kf_M_about_1 σ j) 1 8 (fun i1 a1 ho1 hi1 hk1 => ?_) 7 1 (nI 0) (Nat.le_refl _) rfl ?_
              · refine kg_iload_n hC d_M_about_113 0 rfl ?_
                refine kg_bipush hC d_M_about_114 kn_b_8 ?_
                refine kg_icmp_ge hC d_M_about_116 (tgt := 181) rfl (fun q => absurd q (nI_ge (by omega) (by decide))) (fun _ => ?_)
                refine kg_iload_n hC d_M_about_119 3 rfl ?_
                refine kg_iconst hC d_M_about_120 kn_i_4 ?_
                have j121 : kc_Go C V 5 (0, 0) (kc_E C V (some (.int (kp_M_about σ j))) (kq_M_about σ j)) (kc_up σ 38 0 (nI 0)) 160 [(3, .int (nI i1)), (2, .int a1), (0, .ref (kc_ad V 38)), (1, .int j)] [.int (if j = (nI 4) then (kp_M_dealer (kc_up σ 38 0 (nI 0)) i1) else (if j = (nI 5) then (σ 40 i1) else (if (σ 42 i1) ≤ 0 then (nI 0) else (nI 1))))] := by
                  refine kg_istore hC d_M_about_160 [(4, .int (if j = (nI 4) then (kp_M_dealer (kc_up σ 38 0 (nI 0)) i1) else (if j = (nI 5) then (σ 40 i1) else (if (σ 42 i1) ≤ 0 then (nI 0) else (nI 1))))), (3, .int (nI i1)), (2, .int a1), (0, .ref (kc_ad V 38)), (1, .int j)] rfl (by decide) ?_
                  refine kg_iload hC d_M_about_162 0 rfl ?_
                  refine kg_if_eq hC d_M_about_164 (tgt := 175) rfl (fun h164 => ?_) (fun h164 => ?_)
                  · refine kg_iinc hC d_M_about_175 1 rfl (kn_inc1 i1) [(3, .int (nI (i1 + 1))), (4, .int (if j = (nI 4) then (kp_M_dealer (kc_up σ 38 0 (nI 0)) i1) else (if j = (nI 5) then (σ 40 i1) else (if (σ 42 i1) ≤ 0 then (nI 0) else (nI 1))))), (2, .int a1), (0, .ref (kc_ad V 38)), (1, .int j)] rfl (by decide) ?_
                    refine kg_goto hC d_M_about_178 (tgt := 113) rfl ?_
                    refine kg_loc [0, 2, 3, 4] (L' := [(3, .int (nI (i1 + 1))), (2, .int a1), (0, .ref (kc_ad V 38)), (1, .int j)]) rfl ?_
                    exact kg_to (P := fun zz => kc_Go C V 5 (0, 0) (kc_E C V (some (.int (kp_M_about σ j))) (kq_M_about σ j)) (kc_up σ 38 0 (nI 0)) 113 [(3, .int (nI (i1 + 1))), (2, .int zz), (0, .ref (kc_ad V 38)), (1, .int j)] []) (b := a1) (a := (kf_M_about_1 σ j) i1 a1) (by rw [kf_M_about_1, if_pos h164]) hk1
                  · refine kg_iload_n hC d_M_about_167 2 rfl ?_
                    refine kg_iconst hC d_M_about_168 kn_i_1 ?_
                    refine kg_iload_n hC d_M_about_169 1 rfl ?_
                    refine kg_iconst hC d_M_about_170 kn_i_1 ?_
                    refine kg_isub hC d_M_about_171 ?_
                    refine kg_ishl hC d_M_about_172 ?_
                    refine kg_ior hC d_M_about_173 ?_
                    refine kg_istore_n hC d_M_about_174 [(2, .int (a1 ||| (kc_shl (nI 1) ((nI i1) - (nI 1))))), (4, .int (if j = (nI 4) then (kp_M_dealer (kc_up σ 38 0 (nI 0)) i1) else (if j = (nI 5) then (σ 40 i1) else (if (σ 42 i1) ≤ 0 then (nI 0) else (nI 1))))), (3, .int (nI i1)), (0, .ref (kc_ad V 38)), (1, .int j)] rfl (by decide) ?_
                    refine kg_at (pc' := 175) rfl ?_
                    refine kg_iinc hC d_M_about_175 2 rfl (kn_inc1 i1) [(3, .int (nI (i1 + 1))), (2, .int (a1 ||| (kc_shl (nI 1) ((nI i1) - (nI 1))))), (4, .int (if j = (nI 4) then (kp_M_dealer (kc_up σ 38 0 (nI 0)) i1) else (if j = (nI 5) then (σ 40 i1) else (if (σ 42 i1) ≤ 0 then (nI 0) else (nI 1))))), (0, .ref (kc_ad V 38)), (1, .int j)] rfl (by decide) ?_
                    refine kg_goto hC d_M_about_178 (tgt := 113) rfl ?_
                    refine kg_loc [0, 1, 3, 4] (L' := [(3, .int (nI (i1 + 1))), (2, .int (a1 ||| (kc_shl (nI 1) ((nI i1) - (nI 1))))), (0, .ref (kc_ad V 38)), (1, .int j)]) rfl ?_
                    exact kg_to (P := fun zz => kc_Go C V 5 (0, 0) (kc_E C V (some (.int (kp_M_about σ j))) (kq_M_about σ j)) (kc_up σ 38 0 (nI 0)) 113 [(3, .int (nI (i1 + 1))), (2, .int zz), (0, .ref (kc_ad V 38)), (1, .int j)] []) (b := (a1 ||| (kc_shl (nI 1) ((nI i1) - (nI 1))))) (a := (kf_M_about_1 σ j) i1 a1) (by rw [kf_M_about_1, if_neg h164]) hk1
                refine kg_icmp_ne hC d_M_about_121 (tgt := 132) rfl (fun h121 => ?_) (fun h121 => ?_)
                · refine kg_iload_n hC d_M_about_132 3 rfl ?_
                  refine kg_iconst hC d_M_about_133 kn_i_5 ?_
                  have j134 : kc_Go C V 5 (0, 0) (kc_E C V (some (.int (kp_M_about σ j))) (kq_M_about σ j)) (kc_up σ 38 0 (nI 0)) 160 [(3, .int (nI i1)), (2, .int a1), (0, .ref (kc_ad V 38)), (1, .int j)] [.int (if j = (nI 5) then (σ 40 i1) else (if (σ 42 i1) ≤ 0 then (nI 0) else (nI 1)))] := by
                    exact kg_to (P := fun zz => kc_Go C V 5 (0, 0) (kc_E C V (some (.int (kp_M_about σ j))) (kq_M_about σ j)) (kc_up σ 38 0 (nI 0)) 160 [(3, .int (nI i1)), (2, .int a1), (0, .ref (kc_ad V 38)), (1, .int j)] (.int zz :: [])) (b := (if j = (nI 5) then (σ 40 i1) else (if (σ 42 i1) ≤ 0 then (nI 0) else (nI 1)))) (if_neg h121) j121
                  refine kg_icmp_ne hC d_M_about_134 (tgt := 146) rfl (fun h134 => ?_) (fun h134 => ?_)
                  · refine kg_aload_n hC d_M_about_146 2 rfl ?_
                    refine kg_getr hC (ko_38 hV) rfl ui_M (j := 9) (by decide) tw_613 rfl d_M_about_147 rfl ?_
                    refine kg_iload_n hC d_M_about_150 0 rfl ?_
                    refine kg_iald hC (ka_42 hV) (i := i1) rfl (by omega) d_M_about_151 ?_
                    refine kg_top (x' := (σ 42 i1)) (kc_up_nk (by decide)) ?_
                    have j152 : kc_Go C V 5 (0, 0) (kc_E C V (some (.int (kp_M_about σ j))) (kq_M_about σ j)) (kc_up σ 38 0 (nI 0)) 160 [(3, .int (nI i1)), (2, .int a1), (0, .ref (kc_ad V 38)), (1, .int j)] [.int (if (σ 42 i1) ≤ 0 then (nI 0) else (nI 1))] := by
                      exact kg_to (P := fun zz => kc_Go C V 5 (0, 0) (kc_E C V (some (.int (kp_M_about σ j))) (kq_M_about σ j)) (kc_up σ 38 0 (nI 0)) 160 [(3, .int (nI i1)), (2, .int a1), (0, .ref (kc_ad V 38)), (1, .int j)] (.int zz :: [])) (b := (if (σ 42 i1) ≤ 0 then (nI 0) else (nI 1))) (if_neg h134) j134
                    refine kg_if_le hC d_M_about_152 (tgt := 159) rfl (fun h152 => ?_) (fun h152 => ?_)
                    · refine kg_iconst hC d_M_about_159 kn_i_0 ?_
                      exact kg_to (P := fun zz => kc_Go C V 5 (0, 0) (kc_E C V (some (.int (kp_M_about σ j))) (kq_M_about σ j)) (kc_up σ 38 0 (nI 0)) 160 [(3, .int (nI i1)), (2, .int a1), (0, .ref (kc_ad V 38)), (1, .int j)] (.int zz :: [])) (b := (nI 0)) (if_pos h152) j152
                    · refine kg_iconst hC d_M_about_155 kn_i_1 ?_
                      refine kg_goto hC d_M_about_156 (tgt := 160) rfl ?_
                      exact kg_to (P := fun zz => kc_Go C V 5 (0, 0) (kc_E C V (some (.int (kp_M_about σ j))) (kq_M_about σ j)) (kc_up σ 38 0 (nI 0)) 160 [(3, .int (nI i1)), (2, .int a1), (0, .ref (kc_ad V 38)), (1, .int j)] (.int zz :: [])) (b := (nI 1)) (if_neg h152) j152
                  · refine kg_aload_n hC d_M_about_137 2 rfl ?_
                    refine kg_getr hC (ko_38 hV) rfl ui_M (j := 7) (by decide) tw_611 rfl d_M_about_138 rfl ?_
                    refine kg_iload_n hC d_M_about_141 0 rfl ?_
                    refine kg_zald hC (ka_40 hV) (i := i1) rfl (by omega) d_M_about_142 ?_
                    refine kg_top (x' := (σ 40 i1)) (kc_up_nk (by decide)) ?_
                    refine kg_goto hC d_M_about_143 (tgt := 160) rfl ?_
                    exact kg_to (P := fun zz => kc_Go C V 5 (0, 0) (kc_E C V (some (.int (kp_M_about σ j))) (kq_M_about σ j)) (kc_up σ 38 0 (nI 0)) 160 [(3, .int (nI i1)), (2, .int a1), (0, .ref (kc_ad V 38)), (1, .int j)] (.int zz :: [])) (b := (σ 40 i1)) (if_pos h134) j134
                · refine kg_aload_n hC d_M_about_124 2 rfl ?_
                  refine kg_iload_n hC d_M_about_125 0 rfl ?_
                  refine kg_virtualI hC (kk_M_dealer (kc_l C) hV (kc_up σ 38 0 (nI 0)) i1 (by omega)) cal_M_dealer tw_725 ts_M_dealer tw_723 (ko_38 hV) rfl rfl (by decide) (rest := []) rfl (Nat.le_of_ble_eq_true rfl) d_M_about_126 ?_ (by decide)
                  refine kg_goto hC d_M_about_129 (tgt := 160) rfl ?_
                  exact kg_to (P := fun zz => kc_Go C V 5 (0, 0) (kc_E C V (some (.int (kp_M_about σ j))) (kq_M_about σ j)) (kc_up σ 38 0 (nI 0)) 160 [(3, .int (nI i1)), (2, .int a1), (0, .ref (kc_ad V 38)), (1, .int j)] (.int zz :: [])) (b := (kp_M_dealer (kc_up σ 38 0 (nI 0)) i1)) (if_pos h121) j121
              generalize hg1 : (kc_it (kf_M_about_1 σ j) 7 1 (nI 0)) = τ1
              refine kg_iload_n hC d_M_about_113 0 rfl ?_
              refine kg_bipush hC d_M_about_114 kn_b_8 ?_
              refine kg_icmp_ge hC d_M_about_116 (tgt := 181) rfl (fun _ => ?_) (fun q => absurd (nI_le (by decide) (by decide)) q)
              refine kg_iload_n hC d_M_about_181 1 rfl ?_
              exact kg_iret hC d_M_about_182 (by rw [kp_M_about, hg1, if_neg h2, if_pos h8, if_neg h30, if_neg h36, if_neg h46, if_pos h58]) (by rw [kq_M_about, if_neg h2, if_pos h8, if_neg h30, if_neg h36, if_neg h46, if_pos h58])
            · refine kg_iconst hC d_M_about_61 kn_i_0 ?_
              refine kg_istore_n hC d_M_about_62 [(3, .int (nI 0)), (2, .int (nI 0)), (0, .ref (kc_ad V 38)), (1, .int j)] rfl (by decide) ?_
              refine kc_loop (fun i2 a2 => kc_Go C V 5 (0, 0) (kc_E C V (some (.int (kp_M_about σ j))) (kq_M_about σ j)) (kc_up σ 38 0 (nI 0)) 63 [(3, .int (nI i2)), (2, .int a2), (0, .ref (kc_ad V 38)), (1, .int j)] []) (kf_M_about_2 σ j) 0 64 (fun i2 a2 ho2 hi2 hk2 => ?_) 64 0 (nI 0) (Nat.le_refl _) rfl ?_
              · refine kg_iload_n hC d_M_about_63 0 rfl ?_
                refine kg_bipush hC d_M_about_64 kn_b_64 ?_
                refine kg_icmp_ge hC d_M_about_66 (tgt := 109) rfl (fun q => absurd q (nI_ge (by omega) (by decide))) (fun _ => ?_)
                refine kg_iload_n hC d_M_about_69 1 rfl ?_
                refine kg_iload_n hC d_M_about_70 3 rfl ?_
                refine kg_iconst hC d_M_about_71 kn_i_2 ?_
                have j72 : kc_Go C V 5 (0, 0) (kc_E C V (some (.int (kp_M_about σ j))) (kq_M_about σ j)) (kc_up σ 38 0 (nI 0)) 101 [(3, .int (nI i2)), (2, .int a2), (0, .ref (kc_ad V 38)), (1, .int j)] [.int (if j = (nI 2) then (if (σ 47 i2) = 0 then (nI 0) else (nI 1)) else (if (σ 48 i2) = 0 then (nI 0) else (nI 1))), .int a2] := by
                  refine kg_iadd hC d_M_about_101 ?_
                  refine kg_istore_n hC d_M_about_102 [(2, .int (a2 + (if j = (nI 2) then (if (σ 47 i2) = 0 then (nI 0) else (nI 1)) else (if (σ 48 i2) = 0 then (nI 0) else (nI 1))))), (3, .int (nI i2)), (0, .ref (kc_ad V 38)), (1, .int j)] rfl (by decide) ?_
                  refine kg_iinc hC d_M_about_103 1 rfl (kn_inc1 i2) [(3, .int (nI (i2 + 1))), (2, .int (a2 + (if j = (nI 2) then (if (σ 47 i2) = 0 then (nI 0) else (nI 1)) else (if (σ 48 i2) = 0 then (nI 0) else (nI 1))))), (0, .ref (kc_ad V 38)), (1, .int j)] rfl (by decide) ?_
                  refine kg_goto hC d_M_about_106 (tgt := 63) rfl ?_
                  exact kg_to (P := fun zz => kc_Go C V 5 (0, 0) (kc_E C V (some (.int (kp_M_about σ j))) (kq_M_about σ j)) (kc_up σ 38 0 (nI 0)) 63 [(3, .int (nI (i2 + 1))), (2, .int zz), (0, .ref (kc_ad V 38)), (1, .int j)] []) (b := (a2 + (if j = (nI 2) then (if (σ 47 i2) = 0 then (nI 0) else (nI 1)) else (if (σ 48 i2) = 0 then (nI 0) else (nI 1))))) (a := (kf_M_about_2 σ j) i2 a2) (by rw [kf_M_about_2]) hk2
                refine kg_icmp_ne hC d_M_about_72 (tgt := 87) rfl (fun h72_2 => ?_) (fun h72_2 => ?_)
                · refine kg_aload_n hC d_M_about_87 2 rfl ?_
                  refine kg_getr hC (ko_38 hV) rfl ui_M (j := 15) (by decide) tw_619 rfl d_M_about_88 rfl ?_
                  refine kg_iload_n hC d_M_about_91 0 rfl ?_
                  refine kg_zald hC (ka_48 hV) (i := i2) rfl (by omega) d_M_about_92 ?_
                  refine kg_top (x' := (σ 48 i2)) (kc_up_nk (by decide)) ?_
                  have j93 : kc_Go C V 5 (0, 0) (kc_E C V (some (.int (kp_M_about σ j))) (kq_M_about σ j)) (kc_up σ 38 0 (nI 0)) 101 [(3, .int (nI i2)), (2, .int a2), (0, .ref (kc_ad V 38)), (1, .int j)] [.int (if (σ 48 i2) = 0 then (nI 0) else (nI 1)), .int a2] := by
                    exact kg_to (P := fun zz => kc_Go C V 5 (0, 0) (kc_E C V (some (.int (kp_M_about σ j))) (kq_M_about σ j)) (kc_up σ 38 0 (nI 0)) 101 [(3, .int (nI i2)), (2, .int a2), (0, .ref (kc_ad V 38)), (1, .int j)] (.int zz :: [.int a2])) (b := (if (σ 48 i2) = 0 then (nI 0) else (nI 1))) (if_neg h72_2) j72
                  refine kg_if_eq hC d_M_about_93 (tgt := 100) rfl (fun h93_2 => ?_) (fun h93_2 => ?_)
                  · refine kg_iconst hC d_M_about_100 kn_i_0 ?_
                    exact kg_to (P := fun zz => kc_Go C V 5 (0, 0) (kc_E C V (some (.int (kp_M_about σ j))) (kq_M_about σ j)) (kc_up σ 38 0 (nI 0)) 101 [(3, .int (nI i2)), (2, .int a2), (0, .ref (kc_ad V 38)), (1, .int j)] (.int zz :: [.int a2])) (b := (nI 0)) (if_pos h93_2) j93
                  · refine kg_iconst hC d_M_about_96 kn_i_1 ?_
                    refine kg_goto hC d_M_about_97 (tgt := 101) rfl ?_
                    exact kg_to (P := fun zz => kc_Go C V 5 (0, 0) (kc_E C V (some (.int (kp_M_about σ j))) (kq_M_about σ j)) (kc_up σ 38 0 (nI 0)) 101 [(3, .int (nI i2)), (2, .int a2), (0, .ref (kc_ad V 38)), (1, .int j)] (.int zz :: [.int a2])) (b := (nI 1)) (if_neg h93_2) j93
                · refine kg_aload_n hC d_M_about_75 2 rfl ?_
                  refine kg_getr hC (ko_38 hV) rfl ui_M (j := 14) (by decide) tw_618 rfl d_M_about_76 rfl ?_
                  refine kg_iload_n hC d_M_about_79 0 rfl ?_
                  refine kg_zald hC (ka_47 hV) (i := i2) rfl (by omega) d_M_about_80 ?_
                  refine kg_top (x' := (σ 47 i2)) (kc_up_nk (by decide)) ?_
                  have j81 : kc_Go C V 5 (0, 0) (kc_E C V (some (.int (kp_M_about σ j))) (kq_M_about σ j)) (kc_up σ 38 0 (nI 0)) 101 [(3, .int (nI i2)), (2, .int a2), (0, .ref (kc_ad V 38)), (1, .int j)] [.int (if (σ 47 i2) = 0 then (nI 0) else (nI 1)), .int a2] := by
                    exact kg_to (P := fun zz => kc_Go C V 5 (0, 0) (kc_E C V (some (.int (kp_M_about σ j))) (kq_M_about σ j)) (kc_up σ 38 0 (nI 0)) 101 [(3, .int (nI i2)), (2, .int a2), (0, .ref (kc_ad V 38)), (1, .int j)] (.int zz :: [.int a2])) (b := (if (σ 47 i2) = 0 then (nI 0) else (nI 1))) (if_pos h72_2) j72
                  refine kg_if_eq hC d_M_about_81 (tgt := 100) rfl (fun h81_2 => ?_) (fun h81_2 => ?_)
                  · refine kg_iconst hC d_M_about_100 kn_i_0 ?_
                    exact kg_to (P := fun zz => kc_Go C V 5 (0, 0) (kc_E C V (some (.int (kp_M_about σ j))) (kq_M_about σ j)) (kc_up σ 38 0 (nI 0)) 101 [(3, .int (nI i2)), (2, .int a2), (0, .ref (kc_ad V 38)), (1, .int j)] (.int zz :: [.int a2])) (b := (nI 0)) (if_pos h81_2) j81
                  · refine kg_goto hC d_M_about_84 (tgt := 96) rfl ?_
                    refine kg_iconst hC d_M_about_96 kn_i_1 ?_
                    refine kg_goto hC d_M_about_97 (tgt := 101) rfl ?_
                    exact kg_to (P := fun zz => kc_Go C V 5 (0, 0) (kc_E C V (some (.int (kp_M_about σ j))) (kq_M_about σ j)) (kc_up σ 38 0 (nI 0)) 101 [(3, .int (nI i2)), (2, .int a2), (0, .ref (kc_ad V 38)), (1, .int j)] (.int zz :: [.int a2])) (b := (nI 1)) (if_neg h81_2) j81
              generalize hg2 : (kc_it (kf_M_about_2 σ j) 64 0 (nI 0)) = τ2
              refine kg_iload_n hC d_M_about_63 0 rfl ?_
              refine kg_bipush hC d_M_about_64 kn_b_64 ?_
              refine kg_icmp_ge hC d_M_about_66 (tgt := 109) rfl (fun _ => ?_) (fun q => absurd (nI_le (by decide) (by decide)) q)
              refine kg_iload_n hC d_M_about_109 1 rfl ?_
              exact kg_iret hC d_M_about_110 (by rw [kp_M_about, hg2, if_neg h2, if_pos h8, if_neg h30, if_neg h36, if_neg h46, if_neg h58]) (by rw [kq_M_about, if_neg h2, if_pos h8, if_neg h30, if_neg h36, if_neg h46, if_neg h58])
          · refine kg_aload_n hC d_M_about_49 0 rfl ?_
            refine kg_geti hC (ko_38 hV) rfl ui_M (j := 16) (by decide) tw_620 rfl d_M_about_50 rfl ?_
            refine kg_top (x' := (σ 38 16)) (kc_up_nj (by decide)) ?_
            exact kg_iret hC d_M_about_53 (by rw [kp_M_about, if_neg h2, if_pos h8, if_neg h30, if_neg h36, if_pos h46]) (by rw [kq_M_about, if_neg h2, if_pos h8, if_neg h30, if_neg h36, if_pos h46])
        · refine kg_aload_n hC d_M_about_39 0 rfl ?_
          refine kg_geti hC (ko_38 hV) rfl ui_M (j := 5) (by decide) tw_609 rfl d_M_about_40 rfl ?_
          refine kg_top (x' := (σ 38 5)) (kc_up_nj (by decide)) ?_
          exact kg_iret hC d_M_about_43 (by rw [kp_M_about, if_neg h2, if_pos h8, if_neg h30, if_pos h36]) (by rw [kq_M_about, if_neg h2, if_pos h8, if_neg h30, if_pos h36])
      · refine kg_iconst hC d_M_about_33 kn_i_0 ?_
        exact kg_iret hC d_M_about_34 (by rw [kp_M_about, if_neg h2, if_pos h8, if_pos h30]) (by rw [kq_M_about, if_neg h2, if_pos h8, if_pos h30])
    · refine kg_iconst hC d_M_about_11 kn_i_1 ?_
      refine kg_goto hC d_M_about_12 (tgt := 16) rfl ?_
      refine kg_puti hC (ko_38 hV) rfl ui_M ok_M nm_M (j := 0) (by decide) tw_604 rfl rfl rfl rfl d_M_about_16 rfl ?_
      refine kg_aload_n hC d_M_about_19 0 rfl ?_
      refine kg_geti hC (ko_38 hV) rfl ui_M (j := 0) (by decide) tw_604 rfl d_M_about_20 rfl ?_
      refine kg_top (x' := (nI 1)) kc_up_jj ?_
      refine kg_if_ne hC d_M_about_23 (tgt := 33) rfl (fun _ => ?_) (fun q => absurd q (by decide))
      refine kg_iconst hC d_M_about_33 kn_i_0 ?_
      exact kg_iret hC d_M_about_34 (by rw [kp_M_about, if_neg h2, if_neg h8]) (by rw [kq_M_about, if_neg h2, if_neg h8])
