theorem kr_R.thr {n : Nat} {σ : kc_Sg} (h : kr_R n σ) (x : Int32) : kr_R (n + 1) (kc_up σ 38 0 x) := (kr_Q.thr h x).congr (fun k hk => kc_up_ne (by omega)) kr_eqM.rf
theorem kr_R.thr2 {n : Nat} {σ : kc_Sg} (h : kr_R n σ) (x : Int32) {y : Int32} : kr_R (n + 1) (kc_up (kc_up σ 38 0 y) 38 0 x) := ((kr_Q.thr h y).congr (κ' := kc_up (kc_up σ 38 0 y) 38 0 x) (fun k hk => (kc_up_ne (by omega)).trans (kc_up_ne (by omega))) (kr_thr _ x))
theorem kr_fM_share (μ : kc_Sg) (d : Nat) : ∀ j, j < 38 ∨ j = 50 → kq_M_share μ d j = μ j := by
  intro j hj
  unfold kq_M_share
  (repeat' split) <;> first | rfl | (repeat rw [kc_up_ne (by omega)])
theorem kr_fM_fits (μ : kc_Sg) (d : Nat) : ∀ j, j < 38 ∨ j = 50 → kq_M_fits μ d j = μ j := by
  intro j hj
  unfold kq_M_fits
  (repeat' split) <;> first | rfl | (repeat rw [kc_up_ne (by omega)])
theorem kr_fM_wipe (μ : kc_Sg) (d : Nat) : ∀ j, j < 38 ∨ j = 50 → kq_M_wipe μ d j = μ j := by
  intro j hj
  unfold kq_M_wipe
  (repeat' split) <;> first | rfl | (repeat rw [kc_up_ne (by omega)])
theorem kr_fM_element (μ : kc_Sg) (d : Nat) : ∀ j, j < 38 ∨ j = 50 → kq_M_element μ j = μ j := fun j hj => kc_up_ne (by omega)
theorem kr_fK_wipe (κ : kc_Sg) (d : Nat) : ∀ j, 38 ≤ j → kq_K_wipe κ d j = κ j := by
  intro j hj
  unfold kq_K_wipe
  (repeat' split) <;> first | rfl | (repeat rw [kc_up_ne (by omega)])
theorem kr_tK_wipe (κ : kc_Sg) (d : Nat) : ¬ kt_K_wipe κ d = 0 → kq_K_wipe κ d = κ := by
  unfold kt_K_wipe kq_K_wipe
  intro h
  (repeat' split) <;> first | rfl | (exfalso; apply h; simp [*])
set_option maxHeartbeats 1000000 in
theorem kr_s_share : kl_S_share kr_R := by
  intro n σ p0 hn hR
  by_cases hs : kt_K_requireSeat p0 = 0
  · obtain ⟨d, hd, rfl⟩ := kr_seatN hs
    rcases kr_fd hR hn with ⟨hb, hf⟩ | ⟨hf, h4, -⟩
    · skip
      have ht : (kt_K_share σ) = 1 := by
        unfold kt_K_share
        rw [if_neg (by rw [hf]; decide), hf]
      refine ⟨1, σ, kc_up σ 38 0 (kp_M_first σ (nI d)), 3, (kp_K_share σ d), nI 0, by decide, by decide, fun l hlt V hV => ?_, fun l V hV => ?_, ?_, fun h => absurd h (by decide), ?_⟩
      · have h := kx_K_share l hlt hV σ d hd
        rw [ht] at h
        exact h
      · rw [if_neg (by decide)]
        exact kk_M_share_x l hV σ (nI d) (by rw [kr_first1 hb.2.2.2.2.2.1]; decide +kernel)
      · rw [kc_up_jj, kr_first1 hb.2.2.2.2.2.1]
        rfl
      · exact kr_R.thr hR _
    · have f1 : ∀ j, 38 ≤ j → σ j = σ j := fun j _ => rfl
      have hQ := kr_in (tag := 0) (v := (kp_K_share σ d)) hR f1
      generalize hτ : (if 0 = 0 then kc_up σ 50 0 (kp_K_share σ d) else σ) = τ at hQ
      rcases kr_fd hQ hn with ⟨-, hf'⟩ | ⟨-, h4', p, q, hg, hF⟩
      · rw [hf] at hf'
        cases hf'
      · obtain ⟨ht, he, hb, hq⟩ := kr_m_share hg hF hf hd
        refine ⟨0, σ, (kq_M_share τ d), 3, (kp_K_share σ d), (kp_M_share τ d), Or.inl rfl, by decide, fun l hlt V hV => by
            have h := kx_K_share l hlt hV σ d hd
            rw [ht] at h
            exact h, fun l V hV => by rw [hτ]; exact kk_M_share l hV τ d (kr_first0 h4' (kr_seat0 hd)) (by omega), he, fun h0 => ?_, kr_out (tag := 0) (v := (kp_K_share σ d)) (fun h => absurd rfl h) (fun j hj => by rw [hτ]; exact kr_fM_share τ d j (Or.inl hj)) hq⟩
        have hv : τ 50 0 = (kp_K_share σ d) := by rw [← hτ, if_pos h0, kc_up_jj]
        rw [kr_fM_share τ d 50 (Or.inr rfl), hv, hb]
  · rcases kr_fd hR hn with ⟨hb, hf⟩ | ⟨hf, h4, -⟩
    · skip
      have ht : kt_K_share_x σ p0 = 1 := by
        unfold kt_K_share_x
        rw [if_neg (by rw [hf]; decide), hf]
      refine ⟨1, σ, kc_up σ 38 0 (kp_M_first σ p0), 3, (kp_K_share_x σ), nI 0, by decide, by decide, fun l hlt V hV => ?_, fun l V hV => ?_, ?_, fun h => absurd h (by decide), ?_⟩
      · have h := kx_K_share_x l hlt hV σ p0 hs
        rw [ht] at h
        exact h
      · rw [if_neg (by decide)]
        exact kk_M_share_x l hV σ p0 (by rw [kr_first1 hb.2.2.2.2.2.1]; decide +kernel)
      · rw [kc_up_jj, kr_first1 hb.2.2.2.2.2.1]
        rfl
      · exact kr_R.thr hR _
    · skip
      have ht : kt_K_share_x σ p0 = 2 := by
        unfold kt_K_share_x
        rw [if_pos hf]
        exact (kr_first2 h4 hs).2
      refine ⟨2, σ, kc_up σ 38 0 (kp_M_first σ p0), 3, (kp_K_share_x σ), nI 0, by decide, by decide, fun l hlt V hV => ?_, fun l V hV => ?_, ?_, fun h => absurd h (by decide), ?_⟩
      · have h := kx_K_share_x l hlt hV σ p0 hs
        rw [ht] at h
        exact h
      · rw [if_neg (by decide)]
        exact kk_M_share_x l hV σ p0 (by rw [(kr_first2 h4 hs).1]; decide +kernel)
      · rw [kc_up_jj, (kr_first2 h4 hs).1]
        rfl
      · exact kr_R.thr hR _
set_option maxHeartbeats 1000000 in
theorem kr_s_fits : kl_S_fits kr_R := by
  intro n σ p0 hn hR
  by_cases hs : kt_K_requireSeat p0 = 0
  · obtain ⟨d, hd, rfl⟩ := kr_seatN hs
    rcases kr_fd hR hn with ⟨hb, hf⟩ | ⟨hf, h4, -⟩
    · skip
      have ht : (kt_K_fits σ) = 1 := by
        unfold kt_K_fits
        rw [if_neg (by rw [hf]; decide), hf]
      refine ⟨1, σ, kc_up σ 38 0 (kp_M_first σ (nI d)), 3, (kp_K_fits σ d), nI 0, by decide, by decide, fun l hlt V hV => ?_, fun l V hV => ?_, ?_, fun h => absurd h (by decide), ?_⟩
      · have h := kx_K_fits l hlt hV σ d hd (kr_nz hR).1
        rw [ht] at h
        exact h
      · rw [if_neg (by decide)]
        exact kk_M_fits_x l hV σ (nI d) (by rw [kr_first1 hb.2.2.2.2.2.1]; decide +kernel)
      · rw [kc_up_jj, kr_first1 hb.2.2.2.2.2.1]
        rfl
      · exact kr_R.thr hR _
    · have f1 : ∀ j, 38 ≤ j → σ j = σ j := fun j _ => rfl
      have hQ := kr_in (tag := 0) (v := (if (kp_K_fits σ d) = 0 then nI 0 else nI 1)) hR f1
      generalize hτ : (if 0 = 0 then kc_up σ 50 0 (if (kp_K_fits σ d) = 0 then nI 0 else nI 1) else σ) = τ at hQ
      rcases kr_fd hQ hn with ⟨-, hf'⟩ | ⟨-, h4', p, q, hg, hF⟩
      · rw [hf] at hf'
        cases hf'
      · obtain ⟨ht, he, hb, hq⟩ := kr_m_fits hg hF hf hd
        refine ⟨0, σ, (kq_M_fits τ d), 4, (kp_K_fits σ d), (kp_M_fits τ d), Or.inl rfl, by decide, fun l hlt V hV => by
            have h := kx_K_fits l hlt hV σ d hd (kr_nz hR).1
            rw [ht] at h
            exact h, fun l V hV => by rw [hτ]; exact kk_M_fits l hV τ d (kr_first0 h4' (kr_seat0 hd)) hg.mz.1 (by omega), he, fun h0 => ?_, kr_out (tag := 0) (v := (if (kp_K_fits σ d) = 0 then nI 0 else nI 1)) (fun h => absurd rfl h) (fun j hj => by rw [hτ]; exact kr_fM_fits τ d j (Or.inl hj)) hq⟩
        have hv : τ 50 0 = (if (kp_K_fits σ d) = 0 then nI 0 else nI 1) := by rw [← hτ, if_pos h0, kc_up_jj]
        rw [kr_fM_fits τ d 50 (Or.inr rfl), hv, hb]
  · rcases kr_fd hR hn with ⟨hb, hf⟩ | ⟨hf, h4, -⟩
    · skip
      have ht : kt_K_fits_x σ p0 = 1 := by
        unfold kt_K_fits_x
        rw [if_neg (by rw [hf]; decide), hf]
      refine ⟨1, σ, kc_up σ 38 0 (kp_M_first σ p0), 3, (kp_K_fits_x σ), nI 0, by decide, by decide, fun l hlt V hV => ?_, fun l V hV => ?_, ?_, fun h => absurd h (by decide), ?_⟩
      · have h := kx_K_fits_x l hlt hV σ p0 hs
        rw [ht] at h
        exact h
      · rw [if_neg (by decide)]
        exact kk_M_fits_x l hV σ p0 (by rw [kr_first1 hb.2.2.2.2.2.1]; decide +kernel)
      · rw [kc_up_jj, kr_first1 hb.2.2.2.2.2.1]
        rfl
      · exact kr_R.thr hR _
    · skip
      have ht : kt_K_fits_x σ p0 = 2 := by
        unfold kt_K_fits_x
        rw [if_pos hf]
        exact (kr_first2 h4 hs).2
      refine ⟨2, σ, kc_up σ 38 0 (kp_M_first σ p0), 3, (kp_K_fits_x σ), nI 0, by decide, by decide, fun l hlt V hV => ?_, fun l V hV => ?_, ?_, fun h => absurd h (by decide), ?_⟩
      · have h := kx_K_fits_x l hlt hV σ p0 hs
        rw [ht] at h
        exact h
      · rw [if_neg (by decide)]
        exact kk_M_fits_x l hV σ p0 (by rw [(kr_first2 h4 hs).1]; decide +kernel)
      · rw [kc_up_jj, (kr_first2 h4 hs).1]
        rfl
      · exact kr_R.thr hR _
set_option maxHeartbeats 1000000 in
theorem kr_s_element : kl_S_element kr_R := by
  intro n σ p0 hn hR
  by_cases hs : kt_K_requireSeat p0 = 0
  · obtain ⟨d, hd, rfl⟩ := kr_seatN hs
    rcases kr_fd hR hn with ⟨hb, hf⟩ | ⟨hf, h4, -⟩
    · skip
      have ht : (kt_K_element σ) = 1 := by
        unfold kt_K_element
        rw [if_neg (by rw [hf]; decide), hf]
      refine ⟨1, σ, kc_up σ 38 0 (kp_M_first σ (nI d)), 3, (kp_K_element σ d), nI 0, by decide, by decide, fun l hlt V hV => ?_, fun l V hV => ?_, ?_, fun h => absurd h (by decide), ?_⟩
      · have h := kx_K_element l hlt hV σ d hd (kr_nz hR).1
        rw [ht] at h
        exact h
      · rw [if_neg (by decide)]
        exact kk_M_element_x l hV σ (nI d) (by rw [kr_first1 hb.2.2.2.2.2.1]; decide +kernel)
      · rw [kc_up_jj, kr_first1 hb.2.2.2.2.2.1]
        rfl
      · exact kr_R.thr hR _
    · have f1 : ∀ j, 38 ≤ j → σ j = σ j := fun j _ => rfl
      have hQ := kr_in (tag := 0) (v := (kp_K_element σ d)) hR f1
      generalize hτ : (if 0 = 0 then kc_up σ 50 0 (kp_K_element σ d) else σ) = τ at hQ
      rcases kr_fd hQ hn with ⟨-, hf'⟩ | ⟨-, h4', p, q, hg, hF⟩
      · rw [hf] at hf'
        cases hf'
      · obtain ⟨ht, he, hb, hq⟩ := kr_m_element hg hF hf hd
        refine ⟨0, σ, (kq_M_element τ), 3, (kp_K_element σ d), (kp_M_element τ d), Or.inl rfl, by decide, fun l hlt V hV => by
            have h := kx_K_element l hlt hV σ d hd (kr_nz hR).1
            rw [ht] at h
            exact h, fun l V hV => by rw [hτ]; exact kk_M_element l hV τ d (kr_first0 h4' (kr_seat0 hd)) hg.mz.1 (by omega), he, fun h0 => ?_, kr_out (tag := 0) (v := (kp_K_element σ d)) (fun h => absurd rfl h) (fun j hj => by rw [hτ]; exact kr_fM_element τ d j (Or.inl hj)) hq⟩
        have hv : τ 50 0 = (kp_K_element σ d) := by rw [← hτ, if_pos h0, kc_up_jj]
        rw [kr_fM_element τ d 50 (Or.inr rfl), hv, hb]
  · rcases kr_fd hR hn with ⟨hb, hf⟩ | ⟨hf, h4, -⟩
    · skip
      have ht : kt_K_element_x σ p0 = 1 := by
        unfold kt_K_element_x
        rw [if_neg (by rw [hf]; decide), hf]
      refine ⟨1, σ, kc_up σ 38 0 (kp_M_first σ p0), 3, (kp_K_element_x σ), nI 0, by decide, by decide, fun l hlt V hV => ?_, fun l V hV => ?_, ?_, fun h => absurd h (by decide), ?_⟩
      · have h := kx_K_element_x l hlt hV σ p0 hs
        rw [ht] at h
        exact h
      · rw [if_neg (by decide)]
        exact kk_M_element_x l hV σ p0 (by rw [kr_first1 hb.2.2.2.2.2.1]; decide +kernel)
      · rw [kc_up_jj, kr_first1 hb.2.2.2.2.2.1]
        rfl
      · exact kr_R.thr hR _
    · skip
      have ht : kt_K_element_x σ p0 = 2 := by
        unfold kt_K_element_x
        rw [if_pos hf]
        exact (kr_first2 h4 hs).2
      refine ⟨2, σ, kc_up σ 38 0 (kp_M_first σ p0), 3, (kp_K_element_x σ), nI 0, by decide, by decide, fun l hlt V hV => ?_, fun l V hV => ?_, ?_, fun h => absurd h (by decide), ?_⟩
      · have h := kx_K_element_x l hlt hV σ p0 hs
        rw [ht] at h
        exact h
      · rw [if_neg (by decide)]
        exact kk_M_element_x l hV σ p0 (by rw [(kr_first2 h4 hs).1]; decide +kernel)
      · rw [kc_up_jj, (kr_first2 h4 hs).1]
        rfl
      · exact kr_R.thr hR _
set_option maxHeartbeats 1000000 in
theorem kr_s_wipe : kl_S_wipe kr_R := by
  intro n σ p0 hn hR
  by_cases hs : kt_K_requireSeat p0 = 0
  · obtain ⟨d, hd, rfl⟩ := kr_seatN hs
    rcases kr_fd hR hn with ⟨hb, hf⟩ | ⟨hf, h4, -⟩
    · skip
      have ht : (kt_K_wipe σ d) = 1 := by
        unfold kt_K_wipe
        rw [if_neg (by rw [hf]; decide), hf]
      refine ⟨1, (kq_K_wipe σ d), kc_up σ 38 0 (kp_M_first σ (nI d)), 3, by decide, by decide, fun l hlt V hV => ?_, fun l V hV => ?_, ?_, ?_⟩
      · have h := kx_K_wipe l hlt hV σ d hd
        rw [ht] at h
        exact h
      · rw [if_neg (by decide)]
        exact kk_M_wipe_x l hV σ (nI d) (by rw [kr_first1 hb.2.2.2.2.2.1]; decide +kernel)
      · rw [kc_up_jj, kr_first1 hb.2.2.2.2.2.1]
        rfl
      · exact kr_R.thr hR _
    · have f1 : ∀ j, 38 ≤ j → (kq_K_wipe σ d) j = σ j := kr_fK_wipe σ d
      have hQ := kr_inV (tag := (kt_K_wipe σ d)) hR f1
      generalize hτ : (if (kt_K_wipe σ d) = 0 then (kq_K_wipe σ d) else σ) = τ at hQ
      rcases kr_fd hQ hn with ⟨-, hf'⟩ | ⟨-, h4', p, q, hg, hF⟩
      · rw [hf] at hf'
        cases hf'
      · obtain ⟨ht, he, hq⟩ := kr_m_wipe hg hF hf hd
        refine ⟨(kt_K_wipe σ d), (kq_K_wipe σ d), (kq_M_wipe τ d), 3, by
            rcases ht with h | h <;> rw [h] <;> decide, by decide, fun l hlt V hV => kx_K_wipe l hlt hV σ d hd, fun l V hV => by rw [hτ]; exact kk_M_wipe l hV τ d (kr_first0 h4' (kr_seat0 hd)) (by omega), he, kr_outV (tag := (kt_K_wipe σ d)) (kr_tK_wipe σ d) (fun j hj => by rw [hτ]; exact kr_fM_wipe τ d j (Or.inl hj)) hq⟩
  · rcases kr_fd hR hn with ⟨hb, hf⟩ | ⟨hf, h4, -⟩
    · skip
      have ht : kt_K_wipe_x σ p0 = 1 := by
        unfold kt_K_wipe_x
        rw [if_neg (by rw [hf]; decide), hf]
      refine ⟨1, (kq_K_wipe_x σ), kc_up σ 38 0 (kp_M_first σ p0), 3, by decide, by decide, fun l hlt V hV => ?_, fun l V hV => ?_, ?_, ?_⟩
      · have h := kx_K_wipe_x l hlt hV σ p0 hs
        rw [ht] at h
        exact h
      · rw [if_neg (by decide)]
        exact kk_M_wipe_x l hV σ p0 (by rw [kr_first1 hb.2.2.2.2.2.1]; decide +kernel)
      · rw [kc_up_jj, kr_first1 hb.2.2.2.2.2.1]
        rfl
      · exact kr_R.thr hR _
    · skip
      have ht : kt_K_wipe_x σ p0 = 2 := by
        unfold kt_K_wipe_x
        rw [if_pos hf]
        exact (kr_first2 h4 hs).2
      refine ⟨2, (kq_K_wipe_x σ), kc_up σ 38 0 (kp_M_first σ p0), 3, by decide, by decide, fun l hlt V hV => ?_, fun l V hV => ?_, ?_, ?_⟩
      · have h := kx_K_wipe_x l hlt hV σ p0 hs
        rw [ht] at h
        exact h
      · rw [if_neg (by decide)]
        exact kk_M_wipe_x l hV σ p0 (by rw [(kr_first2 h4 hs).1]; decide +kernel)
      · rw [kc_up_jj, (kr_first2 h4 hs).1]
        rfl
      · exact kr_R.thr hR _
