theorem ke_first (σ : kc_Sg) (v x : Int32) : kp_M_first (kc_up σ 38 0 v) x = kp_M_first σ x := by
  unfold kp_M_first
  rw [kc_up_nj (by decide)]
theorem ke_power {σ τ : kc_Sg} (h1 : τ 38 1 = σ 38 1) (b e : Int32) : kp_M_power τ b e = kp_M_power σ b e := by
  unfold kp_M_power
  rw [h1]
theorem ke_timesAt {σ τ : kc_Sg} {k : Nat} (h1 : τ 38 1 = σ 38 1) (hk : τ k = σ k) (f : Nat) (x : Int32) : kp_M_timesAt τ k f x = kp_M_timesAt σ k f x := by
  have e : kf_M_timesAt_1 τ k f x = kf_M_timesAt_1 σ k f x := by
    funext i a
    unfold kf_M_timesAt_1
    rw [ke_power h1, hk, h1]
  unfold kp_M_timesAt
  rw [e]
theorem ke_goodShare {σ τ : kc_Sg} (h1 : τ 38 1 = σ 38 1) (h3 : τ 38 3 = σ 38 3) (h45 : τ 45 = σ 45) (d : Nat) (x v : Int32) : kp_M_goodShare τ d x v = kp_M_goodShare σ d x v := by
  unfold kp_M_goodShare
  rw [ke_power h1, h3, ke_timesAt h1 h45]
theorem ke_complains {σ τ : kc_Sg} {k d : Nat} (h1 : τ 38 1 = σ 38 1) (h3 : τ 38 3 = σ 38 3) (h42 : τ 42 = σ 42) (h43 : τ 43 = σ 43) (h45 : τ 45 = σ 45) (h46 : τ 46 = σ 46) (h47 : τ 47 (8 * d + k) = σ 47 (8 * d + k)) : kp_M_complains τ k d = kp_M_complains σ k d := by
  unfold kp_M_complains kp_M_dealer
  rw [h47, h42, h43, h46, ke_goodShare h1 h3 h45]
def kp_cnt (σ : kc_Sg) (k : Nat) : Nat → Nat → Nat
  | 0, _ => 0
  | n + 1, i => (if kp_M_complains σ k i = 0 then 0 else 1) + kp_cnt σ k n (i + 1)
theorem kp_cnt_le (σ : kc_Sg) (k : Nat) : ∀ n i, kp_cnt σ k n i ≤ n
  | 0, _ => Nat.le_refl _
  | n + 1, i => by
    have := kp_cnt_le σ k n (i + 1)
    unfold kp_cnt
    split <;> omega
def kc_lk (σ : kc_Sg) (k i : Nat) (a : kc_Sg) : Prop := a 38 16 = nI (mb a) ∧ mb a + kp_cnt σ k (8 - i) i ≤ 250 ∧ ∀ s, i ≤ s → s < 8 → kp_M_complains a k s = kp_M_complains σ k s
theorem kp_cnt_s {σ : kc_Sg} {k i : Nat} (h : i < 8) : kp_cnt σ k (8 - i) i = (if kp_M_complains σ k i = 0 then 0 else 1) + kp_cnt σ k (8 - (i + 1)) (i + 1) := by
  rw [show 8 - i = (8 - (i + 1)) + 1 by omega, kp_cnt]
theorem kc_lk_skip {σ a : kc_Sg} {k i : Nat} (hi : i < 8) (h : kc_lk σ k i a) (hc : kp_M_complains a k i = 0) : kc_lk σ k (i + 1) a := by
  obtain ⟨h1, h2, h3⟩ := h
  rw [kp_cnt_s hi, ← h3 i (Nat.le_refl _) hi, if_pos hc] at h2
  exact ⟨h1, by omega, fun s hs => h3 s (by omega)⟩
theorem kc_lk_room {σ a : kc_Sg} {k i : Nat} (hi : i < 8) (h : kc_lk σ k i a) (hc : ¬ kp_M_complains a k i = 0) : kc_mbd a := by
  obtain ⟨h1, h2, h3⟩ := h
  rw [kp_cnt_s hi, ← h3 i (Nat.le_refl _) hi, if_neg hc] at h2
  exact ⟨h1, by omega⟩
theorem ke_put16 (σ : kc_Sg) (t : Int32) (d : Nat) (w v : Int32) : kq_M_put σ t d w v 38 16 = σ 38 16 + nI 1 := by
  unfold kq_M_put
  rw [kc_up_jj]
  rfl
theorem ke_putc (σ : kc_Sg) (t : Int32) (d : Nat) (w v : Int32) {j : Nat} (h1 : j ≠ 38) (h2 : j ≠ 49) : kq_M_put σ t d w v j = σ j := by
  unfold kq_M_put
  rw [kc_up_ne h1, ke_it (fun i a => by unfold kf_M_put_1; rw [kc_up_ne h2]), kc_up_ne h2, kc_up_ne h2, kc_up_ne h2, kc_up_ne h2, kc_up_ne h2]
theorem ke_put3 (σ : kc_Sg) (t : Int32) (d : Nat) (w v : Int32) : kq_M_put σ t d w v 38 3 = σ 38 3 := rfl
theorem kc_lk_put {σ a : kc_Sg} {k i : Nat} {w v x : Int32} (hi : i < 8) (hk : k < 8) (h : kc_lk σ k i a) (hc : ¬ kp_M_complains a k i = 0) (t : Int32) : kc_lk σ k (i + 1) (kc_up (kq_M_put a t k w v) 47 (8 * i + k) x) := by
  have hm := kc_lk_room hi h hc
  obtain ⟨h1, h2, h3⟩ := h
  rw [kp_cnt_s hi, ← h3 i (Nat.le_refl _) hi, if_neg hc] at h2
  have e : (kc_up (kq_M_put a t k w v) 47 (8 * i + k) x) 38 16 = nI (mb a + 1) := by
    rw [kc_up_nk (by decide), ke_put16, h1, nI_add]
  have e2 : mb (kc_up (kq_M_put a t k w v) 47 (8 * i + k) x) = mb a + 1 := by
    have h250 := hm.2
    unfold mb at h250 ⊢
    rw [e]
    unfold mb
    exact nI_clamp (by omega)
  refine ⟨by rw [e, e2], by rw [e2]; omega, fun s hs hs8 => ?_⟩
  rw [← h3 s (by omega) hs8]
  refine ke_complains ?_ ?_ ?_ ?_ ?_ ?_ ?_
  · rw [kc_up_nk (by decide), ke_put1]
  · rw [kc_up_nk (by decide), ke_put3]
  · rw [kc_up_ne (by decide), ke_putc _ _ _ _ _ (by decide) (by decide)]
  · rw [kc_up_ne (by decide), ke_putc _ _ _ _ _ (by decide) (by decide)]
  · rw [kc_up_ne (by decide), ke_putc _ _ _ _ _ (by decide) (by decide)]
  · rw [kc_up_ne (by decide), ke_putc _ _ _ _ _ (by decide) (by decide)]
  · rw [kc_up_nj (by omega), ke_putc _ _ _ _ _ (by decide) (by decide)]
def kp_M_close_z : Int32 := (nI 0)
def kq_M_close_z (σ : kc_Sg) : kc_Sg := (kc_up σ 38 0 (nI 1))
set_option maxHeartbeats 4000000 in
set_option maxRecDepth 100000 in
theorem kk_M_close_z (l : Launch) {V : kc_V} (hV : kc_G V) (σ : kc_Sg) (hz : σ 38 4 = 0) : kc_Met l y_M_close b_M_close 4 (some .int) (kc_rm 1) V [.ref (kc_ad V 38)] σ (some (.int kp_M_close_z)) (kq_M_close_z σ) := by
  refine kc_of (by decide) (Nat.le_of_ble_eq_true rfl) hV.ok (fun C _ hC => ?_)
  show kc_Go C V 4 (0, 0) (kc_E C V (some (.int kp_M_close_z)) (kq_M_close_z σ)) σ 0 [(0, .ref (kc_ad V 38))] []
  refine kg_aload_n hC d_M_close_0 0 rfl ?_
  refine kg_aload_n hC d_M_close_1 0 rfl ?_
  refine kg_geti hC (ko_38 hV) rfl ui_M (j := 4) (by decide) tw_608 rfl d_M_close_2 rfl ?_
  refine kg_if_eq hC d_M_close_5 (tgt := 12) rfl (fun _ => ?_) (fun q => absurd (hz) q)
  refine kg_iconst hC d_M_close_12 kn_i_1 ?_
  refine kg_puti hC (ko_38 hV) rfl ui_M ok_M nm_M (j := 0) (by decide) tw_604 rfl rfl rfl rfl d_M_close_13 rfl ?_
  refine kg_aload_n hC d_M_close_16 0 rfl ?_
  refine kg_geti hC (ko_38 hV) rfl ui_M (j := 0) (by decide) tw_604 rfl d_M_close_17 rfl ?_
  refine kg_top (x' := (nI 1)) kc_up_jj ?_
  refine kg_at (pc' := 20) rfl ?_
  refine kg_if_eq hC d_M_close_20 (tgt := 25) rfl (fun q => absurd q (by decide)) (fun _ => ?_)
  refine kg_iconst hC d_M_close_23 kn_i_0 ?_
  exact kg_iret hC d_M_close_24 (by rw [kp_M_close_z]) (by rw [kq_M_close_z])
def kf_M_close_2 (i1 : Nat) (i2 : Nat) (a2 : kc_Sg) : kc_Sg := (kc_up a2 39 i2 (kc_rem ((a2 39 i2) + (a2 46 ((8 * i1) + i2))) (a2 38 2)))
def kf_M_close_3 (i1 : Nat) (i3 : Nat) (a3 : kc_Sg) : kc_Sg := (kc_up a3 41 i3 (Int64.toInt32 (kc_lrem ((Int32.toInt64 (a3 41 i3)) * (Int32.toInt64 (a3 45 ((4 * i1) + i3)))) (Int32.toInt64 (a3 38 1)))))
def kf_M_close_1  (i1 : Nat) (a1 : Int32 × kc_Sg) : Int32 × kc_Sg := if (kp_M_accepted (a1.2) i1) = 0 then ((a1.1), (a1.2)) else (((a1.1) ||| (kc_shl (nI 1) ((nI i1) - (nI 1)))), (kc_it (kf_M_close_3 i1) 4 0 (kc_it (kf_M_close_2 i1) 7 1 (a1.2))))
def kp_M_close (σ : kc_Sg) : Int32 := ((kc_it (kf_M_close_1) 7 1 ((nI 0), (kc_up σ 38 0 (nI 0)))).1)
def kq_M_close (σ : kc_Sg) : kc_Sg := (kq_M_newWeek ((kc_it (kf_M_close_1) 7 1 ((nI 0), (kc_up σ 38 0 (nI 0)))).2))
set_option maxHeartbeats 4000000 in
set_option maxRecDepth 100000 in
theorem kk_M_close (l : Launch) {V : kc_V} (hV : kc_G V) (σ : kc_Sg) (hz : ¬ σ 38 4 = 0) (mp : ¬ σ 38 1 = 0) (mq : ¬ σ 38 2 = 0) : kc_Met l y_M_close b_M_close 4 (some .int) (kc_rm 4) V [.ref (kc_ad V 38)] σ (some (.int (kp_M_close σ))) (kq_M_close σ) := by
  refine kc_of (by decide) (Nat.le_of_ble_eq_true rfl) hV.ok (fun C _ hC => ?_)
  show kc_Go C V 4 (0, 0) (kc_E C V (some (.int (kp_M_close σ))) (kq_M_close σ)) σ 0 [(0, .ref (kc_ad V 38))] []
  refine kg_aload_n hC d_M_close_0 0 rfl ?_
  refine kg_aload_n hC d_M_close_1 0 rfl ?_
  refine kg_geti hC (ko_38 hV) rfl ui_M (j := 4) (by decide) tw_608 rfl d_M_close_2 rfl ?_
  refine kg_if_eq hC d_M_close_5 (tgt := 12) rfl (fun q => absurd q (hz)) (fun _ => ?_)
  refine kg_iconst hC d_M_close_8 kn_i_0 ?_
  refine kg_goto hC d_M_close_9 (tgt := 13) rfl ?_
  refine kg_puti hC (ko_38 hV) rfl ui_M ok_M nm_M (j := 0) (by decide) tw_604 rfl rfl rfl rfl d_M_close_13 rfl ?_
  refine kg_aload_n hC d_M_close_16 0 rfl ?_
  refine kg_at (pc' := 17) rfl ?_
  refine kg_geti hC (ko_38 hV) rfl ui_M (j := 0) (by decide) tw_604 rfl d_M_close_17 rfl ?_
  refine kg_top (x' := (nI 0)) kc_up_jj ?_
  refine kg_if_eq hC d_M_close_20 (tgt := 25) rfl (fun _ => ?_) (fun q => absurd (by decide) q)
  refine kg_iconst hC d_M_close_25 kn_i_0 ?_
  refine kg_istore_n hC d_M_close_26 [(1, .int (nI 0)), (0, .ref (kc_ad V 38))] rfl (by decide) ?_
  refine kg_iconst hC d_M_close_27 kn_i_1 ?_
  refine kg_istore_n hC d_M_close_28 [(2, .int (nI 1)), (1, .int (nI 0)), (0, .ref (kc_ad V 38))] rfl (by decide) ?_
  refine kc_loop (fun i1 a1 => (a1.2 38 1 = σ 38 1 ∧ a1.2 38 2 = σ 38 2 ∧ a1.2 38 16 = σ 38 16) → kc_Go C V 4 (0, 0) (kc_E C V (some (.int (kp_M_close σ))) (kq_M_close σ)) (a1.2) 29 [(2, .int (nI i1)), (1, .int (a1.1)), (0, .ref (kc_ad V 38))] []) (kf_M_close_1) 1 8 (fun i1 a1 ho1 hi1 hk1 hv1 => ?_) 7 1 ((nI 0), (kc_up σ 38 0 (nI 0))) (Nat.le_refl _) rfl (fun hw1 => ?_) ⟨rfl, rfl, rfl⟩
  · refine kg_iload_n hC d_M_close_29 0 rfl ?_
    refine kg_bipush hC d_M_close_30 kn_b_8 ?_
    refine kg_icmp_ge hC d_M_close_32 (tgt := 145) rfl (fun q => absurd q (nI_ge (by omega) (by decide))) (fun _ => ?_)
    refine kg_aload_n hC d_M_close_35 2 rfl ?_
    refine kg_iload_n hC d_M_close_36 0 rfl ?_
    refine kg_virtualI hC (kk_M_accepted (kc_l C) hV (a1.2) i1 (by omega)) cal_M_accepted tw_745 ts_M_accepted tw_743 (ko_38 hV) rfl rfl (by decide) (rest := []) rfl (Nat.le_of_ble_eq_true rfl) d_M_close_37 ?_ (by decide)
    refine kg_if_eq hC d_M_close_40 (tgt := 139) rfl (fun h40 => ?_) (fun h40 => ?_)
    · refine kg_iinc hC d_M_close_139 0 rfl (kn_inc1 i1) [(2, .int (nI (i1 + 1))), (1, .int (a1.1)), (0, .ref (kc_ad V 38))] rfl (by decide) ?_
      refine kg_goto hC d_M_close_142 (tgt := 29) rfl ?_
      exact kg_to (P := fun zz => (zz.2 38 1 = σ 38 1 ∧ zz.2 38 2 = σ 38 2 ∧ zz.2 38 16 = σ 38 16) → kc_Go C V 4 (0, 0) (kc_E C V (some (.int (kp_M_close σ))) (kq_M_close σ)) (zz.2) 29 [(2, .int (nI (i1 + 1))), (1, .int (zz.1)), (0, .ref (kc_ad V 38))] []) (b := ((a1.1), (a1.2))) (a := (kf_M_close_1) i1 a1) (by rw [kf_M_close_1, if_pos h40]) hk1 hv1
    · refine kg_iload_n hC d_M_close_43 1 rfl ?_
      refine kg_iconst hC d_M_close_44 kn_i_1 ?_
      refine kg_iload_n hC d_M_close_45 0 rfl ?_
      refine kg_iconst hC d_M_close_46 kn_i_1 ?_
      refine kg_isub hC d_M_close_47 ?_
      refine kg_ishl hC d_M_close_48 ?_
      refine kg_ior hC d_M_close_49 ?_
      refine kg_istore_n hC d_M_close_50 [(1, .int ((a1.1) ||| (kc_shl (nI 1) ((nI i1) - (nI 1))))), (2, .int (nI i1)), (0, .ref (kc_ad V 38))] rfl (by decide) ?_
      refine kg_at (pc' := 51) rfl ?_
      refine kg_iconst hC d_M_close_51 kn_i_1 ?_
      refine kg_istore_n hC d_M_close_52 [(3, .int (nI 1)), (1, .int ((a1.1) ||| (kc_shl (nI 1) ((nI i1) - (nI 1))))), (2, .int (nI i1)), (0, .ref (kc_ad V 38))] rfl (by decide) ?_
      refine kc_loop (fun i2 a2 => (a2 38 1 = σ 38 1 ∧ a2 38 2 = σ 38 2 ∧ a2 38 16 = σ 38 16) → kc_Go C V 4 (0, 0) (kc_E C V (some (.int (kp_M_close σ))) (kq_M_close σ)) a2 53 [(3, .int (nI i2)), (1, .int ((a1.1) ||| (kc_shl (nI 1) ((nI i1) - (nI 1))))), (2, .int (nI i1)), (0, .ref (kc_ad V 38))] []) (kf_M_close_2 i1) 1 8 (fun i2 a2 ho2 hi2 hk2 hv2 => ?_) 7 1 (a1.2) (Nat.le_refl _) rfl (fun hw2 => ?_) hv1
      · refine kg_iload_n hC d_M_close_53 0 rfl ?_
        refine kg_bipush hC d_M_close_54 kn_b_8 ?_
        refine kg_icmp_ge hC d_M_close_56 (tgt := 94) rfl (fun q => absurd q (nI_ge (by omega) (by decide))) (fun _ => ?_)
        refine kg_aload_n hC d_M_close_59 3 rfl ?_
        refine kg_getr hC (ko_38 hV) rfl ui_M (j := 6) (by decide) tw_610 rfl d_M_close_60 rfl ?_
        refine kg_iload_n hC d_M_close_63 0 rfl ?_
        refine kg_aload_n hC d_M_close_64 3 rfl ?_
        refine kg_getr hC (ko_38 hV) rfl ui_M (j := 6) (by decide) tw_610 rfl d_M_close_65 rfl ?_
        refine kg_at (pc' := 68) rfl ?_
        refine kg_iload_n hC d_M_close_68 0 rfl ?_
        refine kg_iald hC (ka_39 hV) (i := i2) rfl (by omega) d_M_close_69 ?_
        refine kg_aload_n hC d_M_close_70 3 rfl ?_
        refine kg_getr hC (ko_38 hV) rfl ui_M (j := 13) (by decide) tw_617 rfl d_M_close_71 rfl ?_
        refine kg_bipush hC d_M_close_74 kn_b_8 ?_
        refine kg_iload_n hC d_M_close_76 2 rfl ?_
        refine kg_imul hC d_M_close_77 ?_
        refine kg_top (x' := (nI (8 * i1))) (pk_mul _ _) ?_
        refine kg_iload_n hC d_M_close_78 0 rfl ?_
        refine kg_at (pc' := 79) rfl ?_
        refine kg_iadd hC d_M_close_79 ?_
        refine kg_top (x' := (nI ((8 * i1) + i2))) (nI_add _ _) ?_
        refine kg_iald hC (ka_46 hV) (i := ((8 * i1) + i2)) rfl (by omega) d_M_close_80 ?_
        refine kg_iadd hC d_M_close_81 ?_
        refine kg_aload_n hC d_M_close_82 3 rfl ?_
        refine kg_geti hC (ko_38 hV) rfl ui_M (j := 2) (by decide) tw_606 rfl d_M_close_83 rfl ?_
        refine kg_irem hC d_M_close_86 (by rw [hv2.2.1]; exact mq) ?_
        refine kg_iast hC (ka_39 hV) (i := i2) rfl (by omega) d_M_close_87 ?_
        refine kg_iinc hC d_M_close_88 0 rfl (kn_inc1 i2) [(3, .int (nI (i2 + 1))), (1, .int ((a1.1) ||| (kc_shl (nI 1) ((nI i1) - (nI 1))))), (2, .int (nI i1)), (0, .ref (kc_ad V 38))] rfl (by decide) ?_
        refine kg_at (pc' := 91) rfl ?_
        refine kg_goto hC d_M_close_91 (tgt := 53) rfl ?_
        exact kg_to (P := fun zz => (zz 38 1 = σ 38 1 ∧ zz 38 2 = σ 38 2 ∧ zz 38 16 = σ 38 16) → kc_Go C V 4 (0, 0) (kc_E C V (some (.int (kp_M_close σ))) (kq_M_close σ)) zz 53 [(3, .int (nI (i2 + 1))), (1, .int ((a1.1) ||| (kc_shl (nI 1) ((nI i1) - (nI 1))))), (2, .int (nI i1)), (0, .ref (kc_ad V 38))] []) (b := (kc_up a2 39 i2 (kc_rem ((a2 39 i2) + (a2 46 ((8 * i1) + i2))) (a2 38 2)))) (a := (kf_M_close_2 i1) i2 a2) (by rw [kf_M_close_2]) hk2 hv2
      generalize hg2 : (kc_it (kf_M_close_2 i1) 7 1 (a1.2)) = τ2 at hw2 ⊢
      refine kg_iload_n hC d_M_close_53 0 rfl ?_
      refine kg_bipush hC d_M_close_54 kn_b_8 ?_
      refine kg_icmp_ge hC d_M_close_56 (tgt := 94) rfl (fun _ => ?_) (fun q => absurd (nI_le (by decide) (by decide)) q)
      refine kg_iconst hC d_M_close_94 kn_i_0 ?_
      refine kg_istore_n hC d_M_close_95 [(3, .int (nI 0)), (1, .int ((a1.1) ||| (kc_shl (nI 1) ((nI i1) - (nI 1))))), (2, .int (nI i1)), (0, .ref (kc_ad V 38))] rfl (by decide) ?_
      refine kc_loop (fun i3 a3 => (a3 38 1 = σ 38 1 ∧ a3 38 2 = σ 38 2 ∧ a3 38 16 = σ 38 16) → kc_Go C V 4 (0, 0) (kc_E C V (some (.int (kp_M_close σ))) (kq_M_close σ)) a3 96 [(3, .int (nI i3)), (1, .int ((a1.1) ||| (kc_shl (nI 1) ((nI i1) - (nI 1))))), (2, .int (nI i1)), (0, .ref (kc_ad V 38))] []) (kf_M_close_3 i1) 0 4 (fun i3 a3 ho3 hi3 hk3 hv3 => ?_) 4 0 τ2 (Nat.le_refl _) rfl (fun hw3 => ?_) hw2
      · refine kg_iload_n hC d_M_close_96 0 rfl ?_
        refine kg_iconst hC d_M_close_97 kn_i_4 ?_
        refine kg_icmp_ge hC d_M_close_98 (tgt := 139) rfl (fun q => absurd q (nI_ge (by omega) (by decide))) (fun _ => ?_)
        refine kg_aload_n hC d_M_close_101 3 rfl ?_
        refine kg_getr hC (ko_38 hV) rfl ui_M (j := 8) (by decide) tw_612 rfl d_M_close_102 rfl ?_
        refine kg_iload_n hC d_M_close_105 0 rfl ?_
        refine kg_aload_n hC d_M_close_106 3 rfl ?_
        refine kg_getr hC (ko_38 hV) rfl ui_M (j := 8) (by decide) tw_612 rfl d_M_close_107 rfl ?_
        refine kg_at (pc' := 110) rfl ?_
        refine kg_iload_n hC d_M_close_110 0 rfl ?_
        refine kg_iald hC (ka_41 hV) (i := i3) rfl (by omega) d_M_close_111 ?_
        refine kg_i2l hC d_M_close_112 ?_
        refine kg_aload_n hC d_M_close_113 3 rfl ?_
        refine kg_getr hC (ko_38 hV) rfl ui_M (j := 12) (by decide) tw_616 rfl d_M_close_114 rfl ?_
        refine kg_iconst hC d_M_close_117 kn_i_4 ?_
        refine kg_iload_n hC d_M_close_118 2 rfl ?_
        refine kg_imul hC d_M_close_119 ?_
        refine kg_top (x' := (nI (4 * i1))) (pk_mul _ _) ?_
        refine kg_at (pc' := 120) rfl ?_
        refine kg_iload_n hC d_M_close_120 0 rfl ?_
        refine kg_iadd hC d_M_close_121 ?_
        refine kg_top (x' := (nI ((4 * i1) + i3))) (nI_add _ _) ?_
        refine kg_iald hC (ka_45 hV) (i := ((4 * i1) + i3)) rfl (by omega) d_M_close_122 ?_
        refine kg_i2l hC d_M_close_123 ?_
        refine kg_lmul hC d_M_close_124 ?_
        refine kg_aload_n hC d_M_close_125 3 rfl ?_
        refine kg_geti hC (ko_38 hV) rfl ui_M (j := 1) (by decide) tw_605 rfl d_M_close_126 rfl ?_
        refine kg_i2l hC d_M_close_129 ?_
        refine kg_at (pc' := 130) rfl ?_
        refine kg_lrem hC d_M_close_130 (kn_l0 (by rw [hv3.1]; exact mp)) ?_
        refine kg_l2i hC d_M_close_131 ?_
        refine kg_iast hC (ka_41 hV) (i := i3) rfl (by omega) d_M_close_132 ?_
        refine kg_iinc hC d_M_close_133 0 rfl (kn_inc1 i3) [(3, .int (nI (i3 + 1))), (1, .int ((a1.1) ||| (kc_shl (nI 1) ((nI i1) - (nI 1))))), (2, .int (nI i1)), (0, .ref (kc_ad V 38))] rfl (by decide) ?_
        refine kg_goto hC d_M_close_136 (tgt := 96) rfl ?_
        exact kg_to (P := fun zz => (zz 38 1 = σ 38 1 ∧ zz 38 2 = σ 38 2 ∧ zz 38 16 = σ 38 16) → kc_Go C V 4 (0, 0) (kc_E C V (some (.int (kp_M_close σ))) (kq_M_close σ)) zz 96 [(3, .int (nI (i3 + 1))), (1, .int ((a1.1) ||| (kc_shl (nI 1) ((nI i1) - (nI 1))))), (2, .int (nI i1)), (0, .ref (kc_ad V 38))] []) (b := (kc_up a3 41 i3 (Int64.toInt32 (kc_lrem ((Int32.toInt64 (a3 41 i3)) * (Int32.toInt64 (a3 45 ((4 * i1) + i3)))) (Int32.toInt64 (a3 38 1)))))) (a := (kf_M_close_3 i1) i3 a3) (by rw [kf_M_close_3]) hk3 hv3
      generalize hg3 : (kc_it (kf_M_close_3 i1) 4 0 τ2) = τ3 at hw3 ⊢
      refine kg_iload_n hC d_M_close_96 0 rfl ?_
      refine kg_iconst hC d_M_close_97 kn_i_4 ?_
      refine kg_icmp_ge hC d_M_close_98 (tgt := 139) rfl (fun _ => ?_) (fun q => absurd (nI_le (by decide) (by decide)) q)
      refine kg_iinc hC d_M_close_139 2 rfl (kn_inc1 i1) [(2, .int (nI (i1 + 1))), (3, .int (nI 4)), (1, .int ((a1.1) ||| (kc_shl (nI 1) ((nI i1) - (nI 1))))), (0, .ref (kc_ad V 38))] rfl (by decide) ?_
      refine kg_goto hC d_M_close_142 (tgt := 29) rfl ?_
      refine kg_loc [0, 2, 3] (L' := [(2, .int (nI (i1 + 1))), (1, .int ((a1.1) ||| (kc_shl (nI 1) ((nI i1) - (nI 1))))), (0, .ref (kc_ad V 38))]) rfl ?_
      exact kg_to (P := fun zz => (zz.2 38 1 = σ 38 1 ∧ zz.2 38 2 = σ 38 2 ∧ zz.2 38 16 = σ 38 16) → kc_Go C V 4 (0, 0) (kc_E C V (some (.int (kp_M_close σ))) (kq_M_close σ)) (zz.2) 29 [(2, .int (nI (i1 + 1))), (1, .int (zz.1)), (0, .ref (kc_ad V 38))] []) (b := (((a1.1) ||| (kc_shl (nI 1) ((nI i1) - (nI 1)))), τ3)) (a := (kf_M_close_1) i1 a1) (by rw [kf_M_close_1, hg2, hg3, if_neg h40]) hk1 hw3
  generalize hg1 : (kc_it (kf_M_close_1) 7 1 ((nI 0), (kc_up σ 38 0 (nI 0)))) = τ1 at hw1 ⊢
  refine kg_iload_n hC d_M_close_29 0 rfl ?_
  refine kg_bipush hC d_M_close_30 kn_b_8 ?_
  refine kg_icmp_ge hC d_M_close_32 (tgt := 145) rfl (fun _ => ?_) (fun q => absurd (nI_le (by decide) (by decide)) q)
  refine kg_aload_n hC d_M_close_145 2 rfl ?_
  refine kg_virtualV hC (kk_M_newWeek (kc_l C) hV (τ1.2)) cal_M_newWeek tw_690 ts_M_newWeek tw_688 (ko_38 hV) rfl rfl (by decide) (rest := []) rfl (Nat.le_of_ble_eq_true rfl) d_M_close_146 ?_ (by decide)
  refine kg_iload_n hC d_M_close_149 1 rfl ?_
  exact kg_iret hC d_M_close_150 (by rw [kp_M_close, hg1]) (by rw [kq_M_close, hg1])
def kp_M_answer_x : Int32 := (nI 0)
def kq_M_answer_x (σ : kc_Sg) (x : Int32) : kc_Sg := (kc_up σ 38 0 (kp_M_first σ x))
set_option maxHeartbeats 4000000 in
set_option maxRecDepth 100000 in
theorem kk_M_answer_x (l : Launch) {V : kc_V} (hV : kc_G V) (σ : kc_Sg) (x : Int32) (y : Int32) (hf : ¬ kp_M_first σ x = 0) : kc_Met l y_M_answer b_M_answer 5 (some .boolean) (kc_rm 3) V [.ref (kc_ad V 38), .int x, .int y] σ (some (.int kp_M_answer_x)) (kq_M_answer_x σ x) := by
  refine kc_of (by decide) (Nat.le_of_ble_eq_true rfl) hV.ok (fun C _ hC => ?_)
  show kc_Go C V 5 (0, 0) (kc_E C V (some (.int kp_M_answer_x)) (kq_M_answer_x σ x)) σ 0 [(0, .ref (kc_ad V 38)), (1, .int x), (2, .int y)] []
  refine kg_aload_n hC d_M_answer_0 0 rfl ?_
  refine kg_aload_n hC d_M_answer_1 0 rfl ?_
  refine kg_iload_n hC d_M_answer_2 1 rfl ?_
  refine kg_virtualI hC (kk_M_first (kc_l C) hV σ x) cal_M_first tw_698 ts_M_first tw_696 (ko_38 hV) rfl rfl (by decide) (rest := [.ref (kc_ad V 38)]) rfl (Nat.le_of_ble_eq_true rfl) d_M_answer_3 ?_ (by decide)
  refine kg_puti hC (ko_38 hV) rfl ui_M ok_M nm_M (j := 0) (by decide) tw_604 rfl rfl rfl rfl d_M_answer_6 rfl ?_
  refine kg_aload_n hC d_M_answer_9 0 rfl ?_
  refine kg_geti hC (ko_38 hV) rfl ui_M (j := 0) (by decide) tw_604 rfl d_M_answer_10 rfl ?_
  refine kg_top (x' := (kp_M_first σ x)) kc_up_jj ?_
  refine kg_if_ne hC d_M_answer_13 (tgt := 25) rfl (fun _ => ?_) (fun q => absurd q (hf))
  refine kg_at (pc' := 25) rfl ?_
  refine kg_aload_n hC d_M_answer_25 0 rfl ?_
  refine kg_geti hC (ko_38 hV) rfl ui_M (j := 0) (by decide) tw_604 rfl d_M_answer_26 rfl ?_
  refine kg_top (x' := (kp_M_first σ x)) kc_up_jj ?_
  refine kg_if_ne hC d_M_answer_29 (tgt := 45) rfl (fun _ => ?_) (fun q => absurd q (hf))
  refine kg_aload_n hC d_M_answer_45 0 rfl ?_
  refine kg_geti hC (ko_38 hV) rfl ui_M (j := 0) (by decide) tw_604 rfl d_M_answer_46 rfl ?_
  refine kg_top (x' := (kp_M_first σ x)) kc_up_jj ?_
  refine kg_if_ne hC d_M_answer_49 (tgt := 67) rfl (fun _ => ?_) (fun q => absurd q (hf))
  refine kg_aload_n hC d_M_answer_67 0 rfl ?_
  refine kg_geti hC (ko_38 hV) rfl ui_M (j := 0) (by decide) tw_604 rfl d_M_answer_68 rfl ?_
  refine kg_top (x' := (kp_M_first σ x)) kc_up_jj ?_
  refine kg_at (pc' := 71) rfl ?_
  refine kg_if_ne hC d_M_answer_71 (tgt := 85) rfl (fun _ => ?_) (fun q => absurd q (hf))
  refine kg_iconst hC d_M_answer_85 kn_i_0 ?_
  exact kg_zret hC d_M_answer_86 kn_z0 (by rw [kp_M_answer_x]) (by rw [kq_M_answer_x])
theorem kz_M_answer_x : kp_M_answer_x = nI 0 ∨ kp_M_answer_x = nI 1 := by
  unfold kp_M_answer_x
  (repeat' split) <;> first | exact Or.inl rfl | exact Or.inr rfl
def kp_M_answer_y : Int32 := (nI 0)
def kq_M_answer_y (σ : kc_Sg) (y : Int32) : kc_Sg := (kc_up (kc_up σ 38 0 (nI 0)) 38 0 (kp_M_first σ y))
set_option maxHeartbeats 4000000 in
set_option maxRecDepth 100000 in
theorem kk_M_answer_y (l : Launch) {V : kc_V} (hV : kc_G V) (σ : kc_Sg) (d : Nat) (y : Int32) (hf : kp_M_first σ (nI d) = nI 0) (hf2 : ¬ kp_M_first σ y = 0) : kc_Met l y_M_answer b_M_answer 5 (some .boolean) (kc_rm 3) V [.ref (kc_ad V 38), .int (nI d), .int y] σ (some (.int kp_M_answer_y)) (kq_M_answer_y σ y) := by
  refine kc_of (by decide) (Nat.le_of_ble_eq_true rfl) hV.ok (fun C _ hC => ?_)
  show kc_Go C V 5 (0, 0) (kc_E C V (some (.int kp_M_answer_y)) (kq_M_answer_y σ y)) σ 0 [(0, .ref (kc_ad V 38)), (1, .int (nI d)), (2, .int y)] []
  refine kg_aload_n hC d_M_answer_0 0 rfl ?_
  refine kg_aload_n hC d_M_answer_1 0 rfl ?_
  refine kg_iload_n hC d_M_answer_2 1 rfl ?_
  refine kg_virtualI hC (kk_M_first (kc_l C) hV σ (nI d)) cal_M_first tw_698 ts_M_first tw_696 (ko_38 hV) rfl rfl (by decide) (rest := [.ref (kc_ad V 38)]) rfl (Nat.le_of_ble_eq_true rfl) d_M_answer_3 ?_ (by decide)
  refine kg_top (x' := (nI 0)) hf ?_
  refine kg_puti hC (ko_38 hV) rfl ui_M ok_M nm_M (j := 0) (by decide) tw_604 rfl rfl rfl rfl d_M_answer_6 rfl ?_
  refine kg_aload_n hC d_M_answer_9 0 rfl ?_
  refine kg_geti hC (ko_38 hV) rfl ui_M (j := 0) (by decide) tw_604 rfl d_M_answer_10 rfl ?_
  refine kg_top (x' := (nI 0)) kc_up_jj ?_
  refine kg_if_ne hC d_M_answer_13 (tgt := 25) rfl (fun q => absurd q (by decide)) (fun _ => ?_)
  refine kg_at (pc' := 16) rfl ?_
  refine kg_aload_n hC d_M_answer_16 0 rfl ?_
  refine kg_aload_n hC d_M_answer_17 0 rfl ?_
  refine kg_iload_n hC d_M_answer_18 2 rfl ?_
  refine kg_virtualI hC (kk_M_first (kc_l C) hV (kc_up σ 38 0 (nI 0)) y) cal_M_first tw_698 ts_M_first tw_696 (ko_38 hV) rfl rfl (by decide) (rest := [.ref (kc_ad V 38)]) rfl (Nat.le_of_ble_eq_true rfl) d_M_answer_19 ?_ (by decide)
  refine kg_top (x' := (kp_M_first σ y)) (ke_first _ _ _) ?_
  refine kg_puti hC (ko_38 hV) rfl ui_M ok_M nm_M (j := 0) (by decide) tw_604 rfl rfl rfl rfl d_M_answer_22 rfl ?_
  refine kg_aload_n hC d_M_answer_25 0 rfl ?_
  refine kg_geti hC (ko_38 hV) rfl ui_M (j := 0) (by decide) tw_604 rfl d_M_answer_26 rfl ?_
  refine kg_top (x' := (kp_M_first σ y)) kc_up_jj ?_
  refine kg_if_ne hC d_M_answer_29 (tgt := 45) rfl (fun _ => ?_) (fun q => absurd q (hf2))
  refine kg_at (pc' := 45) rfl ?_
  refine kg_aload_n hC d_M_answer_45 0 rfl ?_
  refine kg_geti hC (ko_38 hV) rfl ui_M (j := 0) (by decide) tw_604 rfl d_M_answer_46 rfl ?_
  refine kg_top (x' := (kp_M_first σ y)) kc_up_jj ?_
  refine kg_if_ne hC d_M_answer_49 (tgt := 67) rfl (fun _ => ?_) (fun q => absurd q (hf2))
  refine kg_aload_n hC d_M_answer_67 0 rfl ?_
  refine kg_geti hC (ko_38 hV) rfl ui_M (j := 0) (by decide) tw_604 rfl d_M_answer_68 rfl ?_
  refine kg_top (x' := (kp_M_first σ y)) kc_up_jj ?_
  refine kg_if_ne hC d_M_answer_71 (tgt := 85) rfl (fun _ => ?_) (fun q => absurd q (hf2))
  refine kg_iconst hC d_M_answer_85 kn_i_0 ?_
  exact kg_zret hC d_M_answer_86 kn_z0 (by rw [kp_M_answer_y]) (by rw [kq_M_answer_y])
theorem kz_M_answer_y : kp_M_answer_y = nI 0 ∨ kp_M_answer_y = nI 1 := by
  unfold kp_M_answer_y
  (repeat' split) <;> first | exact Or.inl rfl | exact Or.inr rfl
def kp_M_answer (σ : kc_Sg) (d : Nat) (k : Nat) : Int32 := if (kp_M_dealer (kc_up (kc_up σ 38 0 (nI 0)) 38 0 (nI 0)) d) = 0 then (nI 0) else (if (σ 38 16) = (nI 250) then (nI 0) else (if (σ 42 d) = (nI 6) then (nI 0) else (if ((kq_M_put (kc_up (kc_up σ 38 0 (nI 0)) 38 0 (nI 0)) (nI 3) d (nI k) (if (σ 42 d) = (nI 5) then (kp_M_valueAt (kc_up (kc_up σ 38 0 (nI 0)) 38 0 (nI 0)) d (nI k)) else (kp_M_sent (kc_up (kc_up σ 38 0 (nI 0)) 38 0 (nI 0)) d (nI k)))) 47 ((8 * d) + k)) = 0 then (nI 0) else (if ((kq_M_put (kc_up (kc_up σ 38 0 (nI 0)) 38 0 (nI 0)) (nI 3) d (nI k) (if (σ 42 d) = (nI 5) then (kp_M_valueAt (kc_up (kc_up σ 38 0 (nI 0)) 38 0 (nI 0)) d (nI k)) else (kp_M_sent (kc_up (kc_up σ 38 0 (nI 0)) 38 0 (nI 0)) d (nI k)))) 48 ((8 * d) + k)) = 0 then (if (kp_M_goodShare (kq_M_put (kc_up (kc_up σ 38 0 (nI 0)) 38 0 (nI 0)) (nI 3) d (nI k) (if (σ 42 d) = (nI 5) then (kp_M_valueAt (kc_up (kc_up σ 38 0 (nI 0)) 38 0 (nI 0)) d (nI k)) else (kp_M_sent (kc_up (kc_up σ 38 0 (nI 0)) 38 0 (nI 0)) d (nI k)))) d (nI k) (if (σ 42 d) = (nI 5) then (kp_M_valueAt (kc_up (kc_up σ 38 0 (nI 0)) 38 0 (nI 0)) d (nI k)) else (kp_M_sent (kc_up (kc_up σ 38 0 (nI 0)) 38 0 (nI 0)) d (nI k)))) = 0 then (nI 0) else (nI 1)) else (nI 0)))))
def kq_M_answer (σ : kc_Sg) (d : Nat) (k : Nat) : kc_Sg := if (kp_M_dealer (kc_up (kc_up σ 38 0 (nI 0)) 38 0 (nI 0)) d) = 0 then (kc_up (kc_up (kc_up σ 38 0 (nI 0)) 38 0 (nI 0)) 38 0 (nI 3)) else (if (σ 38 16) = (nI 250) then (kc_up (kc_up (kc_up σ 38 0 (nI 0)) 38 0 (nI 0)) 38 0 (nI 4)) else (if (σ 42 d) = (nI 6) then (kc_up (kc_up σ 38 0 (nI 0)) 38 0 (nI 0)) else (if ((kq_M_put (kc_up (kc_up σ 38 0 (nI 0)) 38 0 (nI 0)) (nI 3) d (nI k) (if (σ 42 d) = (nI 5) then (kp_M_valueAt (kc_up (kc_up σ 38 0 (nI 0)) 38 0 (nI 0)) d (nI k)) else (kp_M_sent (kc_up (kc_up σ 38 0 (nI 0)) 38 0 (nI 0)) d (nI k)))) 47 ((8 * d) + k)) = 0 then (kq_M_put (kc_up (kc_up σ 38 0 (nI 0)) 38 0 (nI 0)) (nI 3) d (nI k) (if (σ 42 d) = (nI 5) then (kp_M_valueAt (kc_up (kc_up σ 38 0 (nI 0)) 38 0 (nI 0)) d (nI k)) else (kp_M_sent (kc_up (kc_up σ 38 0 (nI 0)) 38 0 (nI 0)) d (nI k)))) else (if ((kq_M_put (kc_up (kc_up σ 38 0 (nI 0)) 38 0 (nI 0)) (nI 3) d (nI k) (if (σ 42 d) = (nI 5) then (kp_M_valueAt (kc_up (kc_up σ 38 0 (nI 0)) 38 0 (nI 0)) d (nI k)) else (kp_M_sent (kc_up (kc_up σ 38 0 (nI 0)) 38 0 (nI 0)) d (nI k)))) 48 ((8 * d) + k)) = 0 then (if (kp_M_goodShare (kq_M_put (kc_up (kc_up σ 38 0 (nI 0)) 38 0 (nI 0)) (nI 3) d (nI k) (if (σ 42 d) = (nI 5) then (kp_M_valueAt (kc_up (kc_up σ 38 0 (nI 0)) 38 0 (nI 0)) d (nI k)) else (kp_M_sent (kc_up (kc_up σ 38 0 (nI 0)) 38 0 (nI 0)) d (nI k)))) d (nI k) (if (σ 42 d) = (nI 5) then (kp_M_valueAt (kc_up (kc_up σ 38 0 (nI 0)) 38 0 (nI 0)) d (nI k)) else (kp_M_sent (kc_up (kc_up σ 38 0 (nI 0)) 38 0 (nI 0)) d (nI k)))) = 0 then (kq_M_put (kc_up (kc_up σ 38 0 (nI 0)) 38 0 (nI 0)) (nI 3) d (nI k) (if (σ 42 d) = (nI 5) then (kp_M_valueAt (kc_up (kc_up σ 38 0 (nI 0)) 38 0 (nI 0)) d (nI k)) else (kp_M_sent (kc_up (kc_up σ 38 0 (nI 0)) 38 0 (nI 0)) d (nI k)))) else (kc_up (kc_up (kq_M_put (kc_up (kc_up σ 38 0 (nI 0)) 38 0 (nI 0)) (nI 3) d (nI k) (if (σ 42 d) = (nI 5) then (kp_M_valueAt (kc_up (kc_up σ 38 0 (nI 0)) 38 0 (nI 0)) d (nI k)) else (kp_M_sent (kc_up (kc_up σ 38 0 (nI 0)) 38 0 (nI 0)) d (nI k)))) 48 ((8 * d) + k) (nI 1)) 46 ((8 * d) + k) (if (σ 42 d) = (nI 5) then (kp_M_valueAt (kc_up (kc_up σ 38 0 (nI 0)) 38 0 (nI 0)) d (nI k)) else (kp_M_sent (kc_up (kc_up σ 38 0 (nI 0)) 38 0 (nI 0)) d (nI k))))) else (kq_M_put (kc_up (kc_up σ 38 0 (nI 0)) 38 0 (nI 0)) (nI 3) d (nI k) (if (σ 42 d) = (nI 5) then (kp_M_valueAt (kc_up (kc_up σ 38 0 (nI 0)) 38 0 (nI 0)) d (nI k)) else (kp_M_sent (kc_up (kc_up σ 38 0 (nI 0)) 38 0 (nI 0)) d (nI k))))))))
set_option maxHeartbeats 4000000 in
set_option maxRecDepth 100000 in
theorem kk_M_answer (l : Launch) {V : kc_V} (hV : kc_G V) (σ : kc_Sg) (d : Nat) (k : Nat) (hf : kp_M_first σ (nI d) = nI 0) (hf2 : kp_M_first σ (nI k) = nI 0) (mp : ¬ σ 38 1 = 0) (mq : ¬ σ 38 2 = 0) (hb : kc_mbe σ) (hd : d < 8) (hk : k < 8) : kc_Met l y_M_answer b_M_answer 5 (some .boolean) (kc_rm 4) V [.ref (kc_ad V 38), .int (nI d), .int (nI k)] σ (some (.int (kp_M_answer σ d k))) (kq_M_answer σ d k) := by
  refine kc_of (by decide) (Nat.le_of_ble_eq_true rfl) hV.ok (fun C _ hC => ?_)
  show kc_Go C V 5 (0, 0) (kc_E C V (some (.int (kp_M_answer σ d k))) (kq_M_answer σ d k)) σ 0 [(0, .ref (kc_ad V 38)), (1, .int (nI d)), (2, .int (nI k))] []
  refine kg_aload_n hC d_M_answer_0 0 rfl ?_
  refine kg_aload_n hC d_M_answer_1 0 rfl ?_
  refine kg_iload_n hC d_M_answer_2 1 rfl ?_
  refine kg_virtualI hC (kk_M_first (kc_l C) hV σ (nI d)) cal_M_first tw_698 ts_M_first tw_696 (ko_38 hV) rfl rfl (by decide) (rest := [.ref (kc_ad V 38)]) rfl (Nat.le_of_ble_eq_true rfl) d_M_answer_3 ?_ (by decide)
  refine kg_top (x' := (nI 0)) hf ?_
  refine kg_puti hC (ko_38 hV) rfl ui_M ok_M nm_M (j := 0) (by decide) tw_604 rfl rfl rfl rfl d_M_answer_6 rfl ?_
  refine kg_aload_n hC d_M_answer_9 0 rfl ?_
  refine kg_geti hC (ko_38 hV) rfl ui_M (j := 0) (by decide) tw_604 rfl d_M_answer_10 rfl ?_
  refine kg_top (x' := (nI 0)) kc_up_jj ?_
  refine kg_if_ne hC d_M_answer_13 (tgt := 25) rfl (fun q => absurd q (by decide)) (fun _ => ?_)
  refine kg_at (pc' := 16) rfl ?_
  refine kg_aload_n hC d_M_answer_16 0 rfl ?_
  refine kg_aload_n hC d_M_answer_17 0 rfl ?_
  refine kg_iload_n hC d_M_answer_18 2 rfl ?_
  refine kg_virtualI hC (kk_M_first (kc_l C) hV (kc_up σ 38 0 (nI 0)) (nI k)) cal_M_first tw_698 ts_M_first tw_696 (ko_38 hV) rfl rfl (by decide) (rest := [.ref (kc_ad V 38)]) rfl (Nat.le_of_ble_eq_true rfl) d_M_answer_19 ?_ (by decide)
  refine kg_top (x' := (nI 0)) ((ke_first _ _ _).trans hf2) ?_
  refine kg_puti hC (ko_38 hV) rfl ui_M ok_M nm_M (j := 0) (by decide) tw_604 rfl rfl rfl rfl d_M_answer_22 rfl ?_
  refine kg_aload_n hC d_M_answer_25 0 rfl ?_
  refine kg_geti hC (ko_38 hV) rfl ui_M (j := 0) (by decide) tw_604 rfl d_M_answer_26 rfl ?_
  refine kg_top (x' := (nI 0)) kc_up_jj ?_
  refine kg_if_ne hC d_M_answer_29 (tgt := 45) rfl (fun q => absurd q (by decide)) (fun _ => ?_)
  refine kg_at (pc' := 32) rfl ?_
  refine kg_aload_n hC d_M_answer_32 0 rfl ?_
  refine kg_iload_n hC d_M_answer_33 1 rfl ?_
  refine kg_virtualI hC (kk_M_dealer (kc_l C) hV (kc_up (kc_up σ 38 0 (nI 0)) 38 0 (nI 0)) d hd) cal_M_dealer tw_725 ts_M_dealer tw_723 (ko_38 hV) rfl rfl (by decide) (rest := []) rfl (Nat.le_of_ble_eq_true rfl) d_M_answer_34 ?_ (by decide)
  refine kg_if_ne hC d_M_answer_37 (tgt := 45) rfl (fun h37 => ?_) (fun h37 => ?_)
  · refine kg_aload_n hC d_M_answer_45 0 rfl ?_
    refine kg_geti hC (ko_38 hV) rfl ui_M (j := 0) (by decide) tw_604 rfl d_M_answer_46 rfl ?_
    refine kg_top (x' := (nI 0)) kc_up_jj ?_
    refine kg_if_ne hC d_M_answer_49 (tgt := 67) rfl (fun q => absurd q (by decide)) (fun _ => ?_)
    refine kg_aload_n hC d_M_answer_52 0 rfl ?_
    refine kg_geti hC (ko_38 hV) rfl ui_M (j := 16) (by decide) tw_620 rfl d_M_answer_53 rfl ?_
    refine kg_top (x' := (σ 38 16)) ((kc_up_nj (by decide)).trans (kc_up_nj (by decide))) ?_
    refine kg_sipush hC d_M_answer_56 kn_s_250 ?_
    refine kg_icmp_ne hC d_M_answer_59 (tgt := 67) rfl (fun h59 => ?_) (fun h59 => ?_)
    · refine kg_aload_n hC d_M_answer_67 0 rfl ?_
      refine kg_geti hC (ko_38 hV) rfl ui_M (j := 0) (by decide) tw_604 rfl d_M_answer_68 rfl ?_
      refine kg_top (x' := (nI 0)) kc_up_jj ?_
      refine kg_if_ne hC d_M_answer_71 (tgt := 85) rfl (fun q => absurd q (by decide)) (fun _ => ?_)
      refine kg_aload_n hC d_M_answer_74 0 rfl ?_
      refine kg_getr hC (ko_38 hV) rfl ui_M (j := 9) (by decide) tw_613 rfl d_M_answer_75 rfl ?_
      refine kg_iload_n hC d_M_answer_78 1 rfl ?_
      refine kg_iald hC (ka_42 hV) (i := d) rfl hd d_M_answer_79 ?_
      refine kg_top (x' := (σ 42 d)) ((kc_up_nk (by decide)).trans (kc_up_nk (by decide))) ?_
      refine kg_bipush hC d_M_answer_80 kn_b_6 ?_
      refine kg_at (pc' := 82) rfl ?_
      refine kg_icmp_ne hC d_M_answer_82 (tgt := 87) rfl (fun h82 => ?_) (fun h82 => ?_)
      · refine kg_aload_n hC d_M_answer_87 0 rfl ?_
        refine kg_getr hC (ko_38 hV) rfl ui_M (j := 9) (by decide) tw_613 rfl d_M_answer_88 rfl ?_
        refine kg_iload_n hC d_M_answer_91 1 rfl ?_
        refine kg_iald hC (ka_42 hV) (i := d) rfl hd d_M_answer_92 ?_
        refine kg_top (x' := (σ 42 d)) ((kc_up_nk (by decide)).trans (kc_up_nk (by decide))) ?_
        refine kg_iconst hC d_M_answer_93 kn_i_5 ?_
        have j94 : kc_Go C V 5 (0, 0) (kc_E C V (some (.int (kp_M_answer σ d k))) (kq_M_answer σ d k)) (kc_up (kc_up σ 38 0 (nI 0)) 38 0 (nI 0)) 112 [(0, .ref (kc_ad V 38)), (1, .int (nI d)), (2, .int (nI k))] [.int (if (σ 42 d) = (nI 5) then (kp_M_valueAt (kc_up (kc_up σ 38 0 (nI 0)) 38 0 (nI 0)) d (nI k)) else (kp_M_sent (kc_up (kc_up σ 38 0 (nI 0)) 38 0 (nI 0)) d (nI k)))] := by
          refine kg_istore_n hC d_M_answer_112 [(3, .int (if (σ 42 d) = (nI 5) then (kp_M_valueAt (kc_up (kc_up σ 38 0 (nI 0)) 38 0 (nI 0)) d (nI k)) else (kp_M_sent (kc_up (kc_up σ 38 0 (nI 0)) 38 0 (nI 0)) d (nI k)))), (0, .ref (kc_ad V 38)), (1, .int (nI d)), (2, .int (nI k))] rfl (by decide) ?_
          refine kg_aload_n hC d_M_answer_113 1 rfl ?_
          refine kg_iconst hC d_M_answer_114 kn_i_3 ?_
          refine kg_iload_n hC d_M_answer_115 2 rfl ?_
          refine kg_iload_n hC d_M_answer_116 3 rfl ?_
          refine kg_iload_n hC d_M_answer_117 0 rfl ?_
          refine kg_virtualV hC (kk_M_put (kc_l C) hV (kc_up (kc_up σ 38 0 (nI 0)) 38 0 (nI 0)) (nI 3) d (nI k) (if (σ 42 d) = (nI 5) then (kp_M_valueAt (kc_up (kc_up σ 38 0 (nI 0)) 38 0 (nI 0)) d (nI k)) else (kp_M_sent (kc_up (kc_up σ 38 0 (nI 0)) 38 0 (nI 0)) d (nI k))) (kn_mbd ((kc_up_nj (by decide)).trans (kc_up_nj (by decide))) hb h59) hd) cal_M_put tw_709 ts_M_put tw_707 (ko_38 hV) rfl rfl (by decide) (rest := []) rfl (Nat.le_of_ble_eq_true rfl) d_M_answer_118 ?_ (by decide)
          refine kg_bipush hC d_M_answer_121 kn_b_8 ?_
          refine kg_at (pc' := 123) rfl ?_
          refine kg_iload_n hC d_M_answer_123 2 rfl ?_
          refine kg_imul hC d_M_answer_124 ?_
          refine kg_top (x' := (nI (8 * d))) (pk_mul _ _) ?_
          refine kg_iload_n hC d_M_answer_125 3 rfl ?_
          refine kg_iadd hC d_M_answer_126 ?_
          refine kg_top (x' := (nI ((8 * d) + k))) (nI_add _ _) ?_
          refine kg_istore hC d_M_answer_127 [(4, .int (nI ((8 * d) + k))), (3, .int (if (σ 42 d) = (nI 5) then (kp_M_valueAt (kc_up (kc_up σ 38 0 (nI 0)) 38 0 (nI 0)) d (nI k)) else (kp_M_sent (kc_up (kc_up σ 38 0 (nI 0)) 38 0 (nI 0)) d (nI k)))), (0, .ref (kc_ad V 38)), (1, .int (nI d)), (2, .int (nI k))] rfl (by decide) ?_
          refine kg_aload_n hC d_M_answer_129 2 rfl ?_
          refine kg_getr hC (ko_38 hV) rfl ui_M (j := 14) (by decide) tw_618 rfl d_M_answer_130 rfl ?_
          refine kg_iload hC d_M_answer_133 0 rfl ?_
          refine kg_at (pc' := 135) rfl ?_
          refine kg_zald hC (ka_47 hV) (i := ((8 * d) + k)) rfl (by omega) d_M_answer_135 ?_
          refine kg_if_eq hC d_M_answer_136 (tgt := 159) rfl (fun h136 => ?_) (fun h136 => ?_)
          · refine kg_iconst hC d_M_answer_159 kn_i_0 ?_
            exact kg_zret hC d_M_answer_160 kn_z0 (by rw [kp_M_answer, if_neg h37, if_neg h59, if_neg h82, if_pos h136]) (by rw [kq_M_answer, if_neg h37, if_neg h59, if_neg h82, if_pos h136])
          · refine kg_aload_n hC d_M_answer_139 2 rfl ?_
            refine kg_getr hC (ko_38 hV) rfl ui_M (j := 15) (by decide) tw_619 rfl d_M_answer_140 rfl ?_
            refine kg_iload hC d_M_answer_143 0 rfl ?_
            refine kg_zald hC (ka_48 hV) (i := ((8 * d) + k)) rfl (by omega) d_M_answer_145 ?_
            refine kg_if_ne hC d_M_answer_146 (tgt := 159) rfl (fun h146 => ?_) (fun h146 => ?_)
            · refine kg_iconst hC d_M_answer_159 kn_i_0 ?_
              exact kg_zret hC d_M_answer_160 kn_z0 (by rw [kp_M_answer, if_neg h37, if_neg h59, if_neg h82, if_neg h136, if_neg h146]) (by rw [kq_M_answer, if_neg h37, if_neg h59, if_neg h82, if_neg h136, if_neg h146])
            · refine kg_aload_n hC d_M_answer_149 2 rfl ?_
              refine kg_iload_n hC d_M_answer_150 3 rfl ?_
              refine kg_iload_n hC d_M_answer_151 4 rfl ?_
              refine kg_iload_n hC d_M_answer_152 1 rfl ?_
              refine kg_virtualI hC (kk_M_goodShare (kc_l C) hV (kq_M_put (kc_up (kc_up σ 38 0 (nI 0)) 38 0 (nI 0)) (nI 3) d (nI k) (if (σ 42 d) = (nI 5) then (kp_M_valueAt (kc_up (kc_up σ 38 0 (nI 0)) 38 0 (nI 0)) d (nI k)) else (kp_M_sent (kc_up (kc_up σ 38 0 (nI 0)) 38 0 (nI 0)) d (nI k)))) d (nI k) (if (σ 42 d) = (nI 5) then (kp_M_valueAt (kc_up (kc_up σ 38 0 (nI 0)) 38 0 (nI 0)) d (nI k)) else (kp_M_sent (kc_up (kc_up σ 38 0 (nI 0)) 38 0 (nI 0)) d (nI k))) (by rw [ke_put1, kc_up_nj (by decide), kc_up_nj (by decide)]; exact mp) hd) cal_M_goodShare tw_729 ts_M_goodShare tw_727 (ko_38 hV) rfl rfl (by decide) (rest := []) rfl (Nat.le_of_ble_eq_true rfl) d_M_answer_153 ?_ (by decide)
              refine kg_if_ne hC d_M_answer_156 (tgt := 161) rfl (fun h156 => ?_) (fun h156 => ?_)
              · refine kg_aload_n hC d_M_answer_161 2 rfl ?_
                refine kg_getr hC (ko_38 hV) rfl ui_M (j := 15) (by decide) tw_619 rfl d_M_answer_162 rfl ?_
                refine kg_iload hC d_M_answer_165 0 rfl ?_
                refine kg_iconst hC d_M_answer_167 kn_i_1 ?_
                refine kg_zast hC (ka_48 hV) (i := ((8 * d) + k)) rfl (by omega) (by decide) d_M_answer_168 ?_
                refine kg_aload_n hC d_M_answer_169 2 rfl ?_
                refine kg_getr hC (ko_38 hV) rfl ui_M (j := 13) (by decide) tw_617 rfl d_M_answer_170 rfl ?_
                refine kg_iload hC d_M_answer_173 0 rfl ?_
                refine kg_at (pc' := 175) rfl ?_
                refine kg_iload_n hC d_M_answer_175 1 rfl ?_
                refine kg_iast hC (ka_46 hV) (i := ((8 * d) + k)) rfl (by omega) d_M_answer_176 ?_
                refine kg_iconst hC d_M_answer_177 kn_i_1 ?_
                exact kg_zret hC d_M_answer_178 kn_z1 (by rw [kp_M_answer, if_neg h37, if_neg h59, if_neg h82, if_neg h136, if_pos h146, if_neg h156]) (by rw [kq_M_answer, if_neg h37, if_neg h59, if_neg h82, if_neg h136, if_pos h146, if_neg h156])
              · refine kg_iconst hC d_M_answer_159 kn_i_0 ?_
                exact kg_zret hC d_M_answer_160 kn_z0 (by rw [kp_M_answer, if_neg h37, if_neg h59, if_neg h82, if_neg h136, if_pos h146, if_pos h156]) (by rw [kq_M_answer, if_neg h37, if_neg h59, if_neg h82, if_neg h136, if_pos h146, if_pos h156])
        refine kg_icmp_ne hC d_M_answer_94 (tgt := 106) rfl (fun h94 => ?_) (fun h94 => ?_)
        · refine kg_aload_n hC d_M_answer_106 0 rfl ?_
          refine kg_iload_n hC d_M_answer_107 1 rfl ?_
          refine kg_iload_n hC d_M_answer_108 2 rfl ?_
          refine kg_virtualI hC (kk_M_sent (kc_l C) hV (kc_up (kc_up σ 38 0 (nI 0)) 38 0 (nI 0)) d (nI k) mq hd) cal_M_sent tw_713 ts_M_sent tw_711 (ko_38 hV) rfl rfl (by decide) (rest := []) rfl (Nat.le_of_ble_eq_true rfl) d_M_answer_109 ?_ (by decide)
          exact kg_to (P := fun zz => kc_Go C V 5 (0, 0) (kc_E C V (some (.int (kp_M_answer σ d k))) (kq_M_answer σ d k)) (kc_up (kc_up σ 38 0 (nI 0)) 38 0 (nI 0)) 112 [(0, .ref (kc_ad V 38)), (1, .int (nI d)), (2, .int (nI k))] (.int zz :: [])) (b := (kp_M_sent (kc_up (kc_up σ 38 0 (nI 0)) 38 0 (nI 0)) d (nI k))) (if_neg h94) j94
        · refine kg_aload_n hC d_M_answer_97 0 rfl ?_
          refine kg_iload_n hC d_M_answer_98 1 rfl ?_
          refine kg_iload_n hC d_M_answer_99 2 rfl ?_
          refine kg_virtualI hC (kk_M_valueAt (kc_l C) hV (kc_up (kc_up σ 38 0 (nI 0)) 38 0 (nI 0)) d (nI k) mq hd) cal_M_valueAt tw_686 ts_M_valueAt tw_684 (ko_38 hV) rfl rfl (by decide) (rest := []) rfl (Nat.le_of_ble_eq_true rfl) d_M_answer_100 ?_ (by decide)
          refine kg_goto hC d_M_answer_103 (tgt := 112) rfl ?_
          exact kg_to (P := fun zz => kc_Go C V 5 (0, 0) (kc_E C V (some (.int (kp_M_answer σ d k))) (kq_M_answer σ d k)) (kc_up (kc_up σ 38 0 (nI 0)) 38 0 (nI 0)) 112 [(0, .ref (kc_ad V 38)), (1, .int (nI d)), (2, .int (nI k))] (.int zz :: [])) (b := (kp_M_valueAt (kc_up (kc_up σ 38 0 (nI 0)) 38 0 (nI 0)) d (nI k))) (if_pos h94) j94
      · refine kg_iconst hC d_M_answer_85 kn_i_0 ?_
        exact kg_zret hC d_M_answer_86 kn_z0 (by rw [kp_M_answer, if_neg h37, if_neg h59, if_pos h82]) (by rw [kq_M_answer, if_neg h37, if_neg h59, if_pos h82])
    · refine kg_aload_n hC d_M_answer_62 0 rfl ?_
      refine kg_iconst hC d_M_answer_63 kn_i_4 ?_
      refine kg_puti hC (ko_38 hV) rfl ui_M ok_M nm_M (j := 0) (by decide) tw_604 rfl rfl rfl rfl d_M_answer_64 rfl ?_
      refine kg_aload_n hC d_M_answer_67 0 rfl ?_
      refine kg_geti hC (ko_38 hV) rfl ui_M (j := 0) (by decide) tw_604 rfl d_M_answer_68 rfl ?_
      refine kg_top (x' := (nI 4)) kc_up_jj ?_
      refine kg_if_ne hC d_M_answer_71 (tgt := 85) rfl (fun _ => ?_) (fun q => absurd q (by decide))
      refine kg_iconst hC d_M_answer_85 kn_i_0 ?_
      exact kg_zret hC d_M_answer_86 kn_z0 (by rw [kp_M_answer, if_neg h37, if_pos h59]) (by rw [kq_M_answer, if_neg h37, if_pos h59])
  · refine kg_aload_n hC d_M_answer_40 0 rfl ?_
    refine kg_iconst hC d_M_answer_41 kn_i_3 ?_
    refine kg_puti hC (ko_38 hV) rfl ui_M ok_M nm_M (j := 0) (by decide) tw_604 rfl rfl rfl rfl d_M_answer_42 rfl ?_
    refine kg_aload_n hC d_M_answer_45 0 rfl ?_
    refine kg_geti hC (ko_38 hV) rfl ui_M (j := 0) (by decide) tw_604 rfl d_M_answer_46 rfl ?_
    refine kg_top (x' := (nI 3)) kc_up_jj ?_
    refine kg_if_ne hC d_M_answer_49 (tgt := 67) rfl (fun _ => ?_) (fun q => absurd q (by decide))
    refine kg_aload_n hC d_M_answer_67 0 rfl ?_
    refine kg_geti hC (ko_38 hV) rfl ui_M (j := 0) (by decide) tw_604 rfl d_M_answer_68 rfl ?_
    refine kg_top (x' := (nI 3)) kc_up_jj ?_
    refine kg_at (pc' := 71) rfl ?_
    refine kg_if_ne hC d_M_answer_71 (tgt := 85) rfl (fun _ => ?_) (fun q => absurd q (by decide))
    refine kg_iconst hC d_M_answer_85 kn_i_0 ?_
    exact kg_zret hC d_M_answer_86 kn_z0 (by rw [kp_M_answer, if_pos h37]) (by rw [kq_M_answer, if_pos h37])
theorem kz_M_answer (σ : kc_Sg) (d : Nat) (k : Nat) : kp_M_answer σ d k = nI 0 ∨ kp_M_answer σ d k = nI 1 := by
  unfold kp_M_answer
  (repeat' split) <;> first | exact Or.inl rfl | exact Or.inr rfl
def kp_M_look_x : Int32 := (nI 0)
def kq_M_look_x (σ : kc_Sg) (x : Int32) : kc_Sg := (kc_up σ 38 0 (kp_M_first σ x))
set_option maxHeartbeats 4000000 in
set_option maxRecDepth 100000 in
theorem kk_M_look_x (l : Launch) {V : kc_V} (hV : kc_G V) (σ : kc_Sg) (x : Int32) (hf : ¬ kp_M_first σ x = 0) : kc_Met l y_M_look b_M_look 4 (some .int) (kc_rm 3) V [.ref (kc_ad V 38), .int x] σ (some (.int kp_M_look_x)) (kq_M_look_x σ x) := by
  refine kc_of (by decide) (Nat.le_of_ble_eq_true rfl) hV.ok (fun C _ hC => ?_)
  show kc_Go C V 4 (0, 0) (kc_E C V (some (.int kp_M_look_x)) (kq_M_look_x σ x)) σ 0 [(0, .ref (kc_ad V 38)), (1, .int x)] []
  refine kg_aload_n hC d_M_look_0 0 rfl ?_
  refine kg_aload_n hC d_M_look_1 0 rfl ?_
  refine kg_iload_n hC d_M_look_2 1 rfl ?_
  refine kg_virtualI hC (kk_M_first (kc_l C) hV σ x) cal_M_first tw_698 ts_M_first tw_696 (ko_38 hV) rfl rfl (by decide) (rest := [.ref (kc_ad V 38)]) rfl (Nat.le_of_ble_eq_true rfl) d_M_look_3 ?_ (by decide)
  refine kg_puti hC (ko_38 hV) rfl ui_M ok_M nm_M (j := 0) (by decide) tw_604 rfl rfl rfl rfl d_M_look_6 rfl ?_
  refine kg_aload_n hC d_M_look_9 0 rfl ?_
  refine kg_geti hC (ko_38 hV) rfl ui_M (j := 0) (by decide) tw_604 rfl d_M_look_10 rfl ?_
  refine kg_top (x' := (kp_M_first σ x)) kc_up_jj ?_
  refine kg_if_eq hC d_M_look_13 (tgt := 18) rfl (fun q => absurd q (hf)) (fun _ => ?_)
  refine kg_at (pc' := 16) rfl ?_
  refine kg_iconst hC d_M_look_16 kn_i_0 ?_
  exact kg_iret hC d_M_look_17 (by rw [kp_M_look_x]) (by rw [kq_M_look_x])
def kf_M_look_1 (σ : kc_Sg) (k : Nat) (i1 : Nat) (a1 : Int32) : Int32 := (a1 + (if (kp_M_complains (kc_up σ 38 0 (nI 0)) k i1) = 0 then (nI 0) else (nI 1)))
theorem kp_look_cnt (σ : kc_Sg) (k : Nat) : ∀ n i a, kc_it (kf_M_look_1 σ k) n i (nI a) = nI (a + kp_cnt (kc_up σ 38 0 (nI 0)) k n i)
  | 0, _, _ => rfl
  | n + 1, i, a => by
    show kc_it (kf_M_look_1 σ k) n (i + 1) (kf_M_look_1 σ k i (nI a)) = _
    have e : kf_M_look_1 σ k i (nI a) = nI (a + if kp_M_complains (kc_up σ 38 0 (nI 0)) k i = 0 then 0 else 1) := by
      unfold kf_M_look_1
      by_cases h : kp_M_complains (kc_up σ 38 0 (nI 0)) k i = 0
      · rw [if_pos h, if_pos h]
        exact nI_add a 0
      · rw [if_neg h, if_neg h]
        exact nI_add a 1
    rw [e, kp_look_cnt σ k n (i + 1), kp_cnt, Nat.add_assoc]
theorem kc_lk_0 {σ : kc_Sg} {k : Nat} {τ : Int32} (hb : kc_mbe σ) (e : kc_it (kf_M_look_1 σ k) 7 1 (nI 0) = τ) (h : σ 38 16 + τ ≤ nI 250) : kc_lk (kc_up σ 38 0 (nI 0)) k 1 (kc_up σ 38 0 (nI 0)) := by
  have e1 : (kc_up σ 38 0 (nI 0)) 38 16 = σ 38 16 := kc_up_nj (by decide)
  have e2 : mb (kc_up σ 38 0 (nI 0)) = mb σ := by
    unfold mb
    rw [e1]
  have hle := kp_cnt_le (kc_up σ 38 0 (nI 0)) k 7 1
  rw [kp_look_cnt, Nat.zero_add] at e
  subst e
  have h2 := hb.2
  rw [hb.1, nI_add] at h
  have h3 := (nI_leI (by omega) (by decide)).mp h
  exact ⟨by rw [e1, e2]; exact hb.1, by rw [e2]; exact h3, fun _ _ _ => rfl⟩
def kf_M_look_2 (k : Nat) (i2 : Nat) (a2 : kc_Sg) : kc_Sg := if (kp_M_complains a2 k i2) = 0 then a2 else (kc_up (kq_M_put a2 (nI 2) k (nI i2) (nI 0)) 47 ((8 * i2) + k) (nI 1))
def kp_M_look (σ : kc_Sg) (k : Nat) : Int32 := if ((σ 38 16) + (kc_it (kf_M_look_1 σ k) 7 1 (nI 0))) ≤ (nI 250) then (kc_it (kf_M_look_1 σ k) 7 1 (nI 0)) else (nI 0)
def kq_M_look (σ : kc_Sg) (k : Nat) : kc_Sg := if ((σ 38 16) + (kc_it (kf_M_look_1 σ k) 7 1 (nI 0))) ≤ (nI 250) then (kc_it (kf_M_look_2 k) 7 1 (kc_up σ 38 0 (nI 0))) else (kc_up (kc_up σ 38 0 (nI 0)) 38 0 (nI 3))
set_option maxHeartbeats 4000000 in
set_option maxRecDepth 100000 in
theorem kk_M_look (l : Launch) {V : kc_V} (hV : kc_G V) (σ : kc_Sg) (k : Nat) (hf : kp_M_first σ (nI k) = nI 0) (mp : ¬ σ 38 1 = 0) (mq : ¬ σ 38 2 = 0) (hb : kc_mbe σ) (hk : k < 8) : kc_Met l y_M_look b_M_look 4 (some .int) (kc_rm 5) V [.ref (kc_ad V 38), .int (nI k)] σ (some (.int (kp_M_look σ k))) (kq_M_look σ k) := by
  refine kc_of (by decide) (Nat.le_of_ble_eq_true rfl) hV.ok (fun C _ hC => ?_)
  show kc_Go C V 4 (0, 0) (kc_E C V (some (.int (kp_M_look σ k))) (kq_M_look σ k)) σ 0 [(0, .ref (kc_ad V 38)), (1, .int (nI k))] []
  refine kg_aload_n hC d_M_look_0 0 rfl ?_
  refine kg_aload_n hC d_M_look_1 0 rfl ?_
  refine kg_iload_n hC d_M_look_2 1 rfl ?_
  refine kg_virtualI hC (kk_M_first (kc_l C) hV σ (nI k)) cal_M_first tw_698 ts_M_first tw_696 (ko_38 hV) rfl rfl (by decide) (rest := [.ref (kc_ad V 38)]) rfl (Nat.le_of_ble_eq_true rfl) d_M_look_3 ?_ (by decide)
  refine kg_top (x' := (nI 0)) hf ?_
  refine kg_puti hC (ko_38 hV) rfl ui_M ok_M nm_M (j := 0) (by decide) tw_604 rfl rfl rfl rfl d_M_look_6 rfl ?_
  refine kg_aload_n hC d_M_look_9 0 rfl ?_
  refine kg_geti hC (ko_38 hV) rfl ui_M (j := 0) (by decide) tw_604 rfl d_M_look_10 rfl ?_
  refine kg_top (x' := (nI 0)) kc_up_jj ?_
  refine kg_if_eq hC d_M_look_13 (tgt := 18) rfl (fun _ => ?_) (fun q => absurd (by decide) q)
  refine kg_at (pc' := 18) rfl ?_
  refine kg_iconst hC d_M_look_18 kn_i_0 ?_
  refine kg_istore_n hC d_M_look_19 [(2, .int (nI 0)), (0, .ref (kc_ad V 38)), (1, .int (nI k))] rfl (by decide) ?_
  refine kg_iconst hC d_M_look_20 kn_i_1 ?_
  refine kg_istore_n hC d_M_look_21 [(3, .int (nI 1)), (2, .int (nI 0)), (0, .ref (kc_ad V 38)), (1, .int (nI k))] rfl (by decide) ?_
  refine kc_loop (fun i1 a1 => kc_Go C V 4 (0, 0) (kc_E C V (some (.int (kp_M_look σ k))) (kq_M_look σ k)) (kc_up σ 38 0 (nI 0)) 22 [(3, .int (nI i1)), (2, .int a1), (0, .ref (kc_ad V 38)), (1, .int (nI k))] []) (kf_M_look_1 σ k) 1 8 (fun i1 a1 ho1 hi1 hk1 => ?_) 7 1 (nI 0) (Nat.le_refl _) rfl ?_
  · refine kg_iload_n hC d_M_look_22 0 rfl ?_
    refine kg_bipush hC d_M_look_23 kn_b_8 ?_
    refine kg_icmp_ge hC d_M_look_25 (tgt := 51) rfl (fun q => absurd q (nI_ge (by omega) (by decide))) (fun _ => ?_)
    refine kg_iload_n hC d_M_look_28 1 rfl ?_
    refine kg_aload_n hC d_M_look_29 2 rfl ?_
    refine kg_iload_n hC d_M_look_30 3 rfl ?_
    refine kg_iload_n hC d_M_look_31 0 rfl ?_
    refine kg_virtualI hC (kk_M_complains (kc_l C) hV (kc_up σ 38 0 (nI 0)) k i1 mp hk (by omega)) cal_M_complains tw_721 ts_M_complains tw_719 (ko_38 hV) rfl rfl (by decide) (rest := [.int a1]) rfl (Nat.le_of_ble_eq_true rfl) d_M_look_32 ?_ (by decide)
    refine kg_at (pc' := 35) rfl ?_
    have j35 : kc_Go C V 4 (0, 0) (kc_E C V (some (.int (kp_M_look σ k))) (kq_M_look σ k)) (kc_up σ 38 0 (nI 0)) 43 [(3, .int (nI i1)), (2, .int a1), (0, .ref (kc_ad V 38)), (1, .int (nI k))] [.int (if (kp_M_complains (kc_up σ 38 0 (nI 0)) k i1) = 0 then (nI 0) else (nI 1)), .int a1] := by
      refine kg_iadd hC d_M_look_43 ?_
      refine kg_istore_n hC d_M_look_44 [(2, .int (a1 + (if (kp_M_complains (kc_up σ 38 0 (nI 0)) k i1) = 0 then (nI 0) else (nI 1)))), (3, .int (nI i1)), (0, .ref (kc_ad V 38)), (1, .int (nI k))] rfl (by decide) ?_
      refine kg_iinc hC d_M_look_45 1 rfl (kn_inc1 i1) [(3, .int (nI (i1 + 1))), (2, .int (a1 + (if (kp_M_complains (kc_up σ 38 0 (nI 0)) k i1) = 0 then (nI 0) else (nI 1)))), (0, .ref (kc_ad V 38)), (1, .int (nI k))] rfl (by decide) ?_
      refine kg_goto hC d_M_look_48 (tgt := 22) rfl ?_
      exact kg_to (P := fun zz => kc_Go C V 4 (0, 0) (kc_E C V (some (.int (kp_M_look σ k))) (kq_M_look σ k)) (kc_up σ 38 0 (nI 0)) 22 [(3, .int (nI (i1 + 1))), (2, .int zz), (0, .ref (kc_ad V 38)), (1, .int (nI k))] []) (b := (a1 + (if (kp_M_complains (kc_up σ 38 0 (nI 0)) k i1) = 0 then (nI 0) else (nI 1)))) (a := (kf_M_look_1 σ k) i1 a1) (by rw [kf_M_look_1]) hk1
    refine kg_if_eq hC d_M_look_35 (tgt := 42) rfl (fun h35 => ?_) (fun h35 => ?_)
    · refine kg_iconst hC d_M_look_42 kn_i_0 ?_
      exact kg_to (P := fun zz => kc_Go C V 4 (0, 0) (kc_E C V (some (.int (kp_M_look σ k))) (kq_M_look σ k)) (kc_up σ 38 0 (nI 0)) 43 [(3, .int (nI i1)), (2, .int a1), (0, .ref (kc_ad V 38)), (1, .int (nI k))] (.int zz :: [.int a1])) (b := (nI 0)) (if_pos h35) j35
    · refine kg_iconst hC d_M_look_38 kn_i_1 ?_
      refine kg_goto hC d_M_look_39 (tgt := 43) rfl ?_
      exact kg_to (P := fun zz => kc_Go C V 4 (0, 0) (kc_E C V (some (.int (kp_M_look σ k))) (kq_M_look σ k)) (kc_up σ 38 0 (nI 0)) 43 [(3, .int (nI i1)), (2, .int a1), (0, .ref (kc_ad V 38)), (1, .int (nI k))] (.int zz :: [.int a1])) (b := (nI 1)) (if_neg h35) j35
  generalize hg1 : (kc_it (kf_M_look_1 σ k) 7 1 (nI 0)) = τ1
  refine kg_iload_n hC d_M_look_22 0 rfl ?_
  refine kg_bipush hC d_M_look_23 kn_b_8 ?_
  refine kg_icmp_ge hC d_M_look_25 (tgt := 51) rfl (fun _ => ?_) (fun q => absurd (nI_le (by decide) (by decide)) q)
  refine kg_aload_n hC d_M_look_51 2 rfl ?_
  refine kg_geti hC (ko_38 hV) rfl ui_M (j := 16) (by decide) tw_620 rfl d_M_look_52 rfl ?_
  refine kg_top (x' := (σ 38 16)) (kc_up_nj (by decide)) ?_
  refine kg_iload_n hC d_M_look_55 1 rfl ?_
  refine kg_iadd hC d_M_look_56 ?_
  refine kg_sipush hC d_M_look_57 kn_s_250 ?_
  refine kg_at (pc' := 60) rfl ?_
  refine kg_icmp_le hC d_M_look_60 (tgt := 70) rfl (fun h60 => ?_) (fun h60 => ?_)
  · refine kg_iconst hC d_M_look_70 kn_i_1 ?_
    refine kg_istore_n hC d_M_look_71 [(3, .int (nI 1)), (2, .int τ1), (0, .ref (kc_ad V 38)), (1, .int (nI k))] rfl (by decide) ?_
    refine kc_loop (fun i2 a2 => (a2 38 1 = σ 38 1 ∧ a2 38 2 = σ 38 2 ∧ kc_lk (kc_up σ 38 0 (nI 0)) k i2 a2) → kc_Go C V 4 (0, 0) (kc_E C V (some (.int (kp_M_look σ k))) (kq_M_look σ k)) a2 72 [(3, .int (nI i2)), (2, .int τ1), (0, .ref (kc_ad V 38)), (1, .int (nI k))] []) (kf_M_look_2 k) 1 8 (fun i2 a2 ho2 hi2 hk2 hv2 => ?_) 7 1 (kc_up σ 38 0 (nI 0)) (Nat.le_refl _) rfl (fun hw2 => ?_) ⟨rfl, rfl, kc_lk_0 hb hg1 h60⟩
    · refine kg_iload_n hC d_M_look_72 0 rfl ?_
      refine kg_bipush hC d_M_look_73 kn_b_8 ?_
      refine kg_icmp_ge hC d_M_look_75 (tgt := 113) rfl (fun q => absurd q (nI_ge (by omega) (by decide))) (fun _ => ?_)
      refine kg_aload_n hC d_M_look_78 2 rfl ?_
      refine kg_iload_n hC d_M_look_79 3 rfl ?_
      refine kg_iload_n hC d_M_look_80 0 rfl ?_
      refine kg_virtualI hC (kk_M_complains (kc_l C) hV a2 k i2 (by rw [hv2.1]; exact mp) hk (by omega)) cal_M_complains tw_721 ts_M_complains tw_719 (ko_38 hV) rfl rfl (by decide) (rest := []) rfl (Nat.le_of_ble_eq_true rfl) d_M_look_81 ?_ (by decide)
      refine kg_if_eq hC d_M_look_84 (tgt := 107) rfl (fun h84_2 => ?_) (fun h84_2 => ?_)
      · refine kg_iinc hC d_M_look_107 0 rfl (kn_inc1 i2) [(3, .int (nI (i2 + 1))), (2, .int τ1), (0, .ref (kc_ad V 38)), (1, .int (nI k))] rfl (by decide) ?_
        refine kg_goto hC d_M_look_110 (tgt := 72) rfl ?_
        exact kg_to (P := fun zz => (zz 38 1 = σ 38 1 ∧ zz 38 2 = σ 38 2 ∧ kc_lk (kc_up σ 38 0 (nI 0)) k (i2 + 1) zz) → kc_Go C V 4 (0, 0) (kc_E C V (some (.int (kp_M_look σ k))) (kq_M_look σ k)) zz 72 [(3, .int (nI (i2 + 1))), (2, .int τ1), (0, .ref (kc_ad V 38)), (1, .int (nI k))] []) (b := a2) (a := (kf_M_look_2 k) i2 a2) (by rw [kf_M_look_2, if_pos h84_2]) hk2 ⟨hv2.1, hv2.2.1, kc_lk_skip (by omega) hv2.2.2 h84_2⟩
      · refine kg_aload_n hC d_M_look_87 2 rfl ?_
        refine kg_iconst hC d_M_look_88 kn_i_2 ?_
        refine kg_iload_n hC d_M_look_89 3 rfl ?_
        refine kg_iload_n hC d_M_look_90 0 rfl ?_
        refine kg_iconst hC d_M_look_91 kn_i_0 ?_
        refine kg_virtualV hC (kk_M_put (kc_l C) hV a2 (nI 2) k (nI i2) (nI 0) (kc_lk_room (by omega) hv2.2.2 h84_2) hk) cal_M_put tw_709 ts_M_put tw_707 (ko_38 hV) rfl rfl (by decide) (rest := []) rfl (Nat.le_of_ble_eq_true rfl) d_M_look_92 ?_ (by decide)
        refine kg_aload_n hC d_M_look_95 2 rfl ?_
        refine kg_getr hC (ko_38 hV) rfl ui_M (j := 14) (by decide) tw_618 rfl d_M_look_96 rfl ?_
        refine kg_at (pc' := 99) rfl ?_
        refine kg_bipush hC d_M_look_99 kn_b_8 ?_
        refine kg_iload_n hC d_M_look_101 0 rfl ?_
        refine kg_imul hC d_M_look_102 ?_
        refine kg_top (x' := (nI (8 * i2))) (pk_mul _ _) ?_
        refine kg_iload_n hC d_M_look_103 3 rfl ?_
        refine kg_iadd hC d_M_look_104 ?_
        refine kg_top (x' := (nI ((8 * i2) + k))) (nI_add _ _) ?_
        refine kg_iconst hC d_M_look_105 kn_i_1 ?_
        refine kg_zast hC (ka_47 hV) (i := ((8 * i2) + k)) rfl (by omega) (by decide) d_M_look_106 ?_
        refine kg_iinc hC d_M_look_107 0 rfl (kn_inc1 i2) [(3, .int (nI (i2 + 1))), (2, .int τ1), (0, .ref (kc_ad V 38)), (1, .int (nI k))] rfl (by decide) ?_
        refine kg_at (pc' := 110) rfl ?_
        refine kg_goto hC d_M_look_110 (tgt := 72) rfl ?_
        exact kg_to (P := fun zz => (zz 38 1 = σ 38 1 ∧ zz 38 2 = σ 38 2 ∧ kc_lk (kc_up σ 38 0 (nI 0)) k (i2 + 1) zz) → kc_Go C V 4 (0, 0) (kc_E C V (some (.int (kp_M_look σ k))) (kq_M_look σ k)) zz 72 [(3, .int (nI (i2 + 1))), (2, .int τ1), (0, .ref (kc_ad V 38)), (1, .int (nI k))] []) (b := (kc_up (kq_M_put a2 (nI 2) k (nI i2) (nI 0)) 47 ((8 * i2) + k) (nI 1))) (a := (kf_M_look_2 k) i2 a2) (by rw [kf_M_look_2, if_neg h84_2]) hk2 ⟨by rw [kc_up_nk (by decide), ke_put1]; exact hv2.1, by rw [kc_up_nk (by decide), ke_put2]; exact hv2.2.1, kc_lk_put (by omega) hk hv2.2.2 h84_2 _⟩
    generalize hg2 : (kc_it (kf_M_look_2 k) 7 1 (kc_up σ 38 0 (nI 0))) = τ2 at hw2 ⊢
    refine kg_iload_n hC d_M_look_72 0 rfl ?_
    refine kg_bipush hC d_M_look_73 kn_b_8 ?_
    refine kg_icmp_ge hC d_M_look_75 (tgt := 113) rfl (fun _ => ?_) (fun q => absurd (nI_le (by decide) (by decide)) q)
    refine kg_iload_n hC d_M_look_113 1 rfl ?_
    exact kg_iret hC d_M_look_114 (by rw [kp_M_look, hg1, if_pos h60]) (by rw [kq_M_look, hg1, hg2, if_pos h60])
  · refine kg_aload_n hC d_M_look_63 2 rfl ?_
    refine kg_iconst hC d_M_look_64 kn_i_3 ?_
    refine kg_puti hC (ko_38 hV) rfl ui_M ok_M nm_M (j := 0) (by decide) tw_604 rfl rfl rfl rfl d_M_look_65 rfl ?_
    refine kg_iconst hC d_M_look_68 kn_i_0 ?_
    exact kg_iret hC d_M_look_69 (by rw [kp_M_look, hg1, if_neg h60]) (by rw [kq_M_look, hg1, if_neg h60])
