set_option maxHeartbeats 1000000 in
theorem kr_s_look : kl_S_look kr_R := by
  intro n σ p0 hn hR
  by_cases hs : kt_K_requireSeat p0 = 0
  · obtain ⟨d, hd, rfl⟩ := kr_seatN hs
    rcases kr_fd hR hn with ⟨hb, hf⟩ | ⟨hf, h4, -⟩
    · skip
      have ht : (kt_K_look σ d) = 1 := by
        unfold kt_K_look
        rw [if_neg (by rw [hf]; decide), hf]
      refine ⟨1, (kq_K_look σ d), kc_up σ 38 0 (kp_M_first σ (nI d)), 3, (kp_K_look σ d), nI 0, by decide, by decide, fun l hlt V hV => ?_, fun l V hV => ?_, ?_, fun h => absurd h (by decide), ?_⟩
      · have h := kx_K_look l hlt hV σ d hd (kr_nz hR).1 (kr_bdk hR)
        rw [ht] at h
        exact h
      · rw [if_neg (by decide)]
        exact kk_M_look_x l hV σ (nI d) (by rw [kr_first1 hb.2.2.2.2.2.1]; decide +kernel)
      · rw [kc_up_jj, kr_first1 hb.2.2.2.2.2.1]
        rfl
      · exact kr_R.thr hR _
    · have f1 : ∀ j, 38 ≤ j → (kq_K_look σ d) j = σ j := kr_fK_look σ d
      have hQ := kr_in (tag := (kt_K_look σ d)) (v := (kp_K_look σ d)) hR f1
      generalize hτ : (if (kt_K_look σ d) = 0 then kc_up (kq_K_look σ d) 50 0 (kp_K_look σ d) else σ) = τ at hQ
      rcases kr_fd hQ hn with ⟨-, hf'⟩ | ⟨-, h4', p, q, hg, hF⟩
      · rw [hf] at hf'
        cases hf'
      · obtain ⟨ht, he, hb, hq⟩ := kr_m_look hg hF hf hd
        refine ⟨(kt_K_look σ d), (kq_K_look σ d), (kq_M_look τ d), 5, (kp_K_look σ d), (kp_M_look τ d), by
            rcases ht with h | h <;> rw [h] <;> decide, by decide, fun l hlt V hV => kx_K_look l hlt hV σ d hd (kr_nz hR).1 (kr_bdk hR), fun l V hV => by rw [hτ]; exact kk_M_look l hV τ d (kr_first0 h4' (kr_seat0 hd)) hg.mz.1 hg.mz.2 (kr_bdm hQ) (by omega), he, fun h0 => ?_, kr_out (tag := (kt_K_look σ d)) (v := (kp_K_look σ d)) (kr_tK_look σ d) (fun j hj => by rw [hτ]; exact kr_fM_look τ d j (Or.inl hj)) hq⟩
        have hv : τ 50 0 = (kp_K_look σ d) := by rw [← hτ, if_pos h0, kc_up_jj]
        rw [kr_fM_look τ d 50 (Or.inr rfl), hv, hb h0]
  · rcases kr_fd hR hn with ⟨hb, hf⟩ | ⟨hf, h4, -⟩
    · skip
      have ht : kt_K_look_x σ p0 = 1 := by
        unfold kt_K_look_x
        rw [if_neg (by rw [hf]; decide), hf]
      refine ⟨1, (kq_K_look_x σ), kc_up σ 38 0 (kp_M_first σ p0), 3, (kp_K_look_x σ), nI 0, by decide, by decide, fun l hlt V hV => ?_, fun l V hV => ?_, ?_, fun h => absurd h (by decide), ?_⟩
      · have h := kx_K_look_x l hlt hV σ p0 hs
        rw [ht] at h
        exact h
      · rw [if_neg (by decide)]
        exact kk_M_look_x l hV σ p0 (by rw [kr_first1 hb.2.2.2.2.2.1]; decide +kernel)
      · rw [kc_up_jj, kr_first1 hb.2.2.2.2.2.1]
        rfl
      · exact kr_R.thr hR _
    · skip
      have ht : kt_K_look_x σ p0 = 2 := by
        unfold kt_K_look_x
        rw [if_pos hf]
        exact (kr_first2 h4 hs).2
      refine ⟨2, (kq_K_look_x σ), kc_up σ 38 0 (kp_M_first σ p0), 3, (kp_K_look_x σ), nI 0, by decide, by decide, fun l hlt V hV => ?_, fun l V hV => ?_, ?_, fun h => absurd h (by decide), ?_⟩
      · have h := kx_K_look_x l hlt hV σ p0 hs
        rw [ht] at h
        exact h
      · rw [if_neg (by decide)]
        exact kk_M_look_x l hV σ p0 (by rw [(kr_first2 h4 hs).1]; decide +kernel)
      · rw [kc_up_jj, (kr_first2 h4 hs).1]
        rfl
      · exact kr_R.thr hR _
theorem kr_sim : kl_S kr_R := ⟨kr_s_group, kr_s_found, kr_s_fault, kr_s_deal, kr_s_look, kr_s_answer, kr_s_close, kr_s_wipe, kr_s_recover, kr_s_share, kr_s_fits, kr_s_sum, kr_s_element, kr_s_reconstruct, kr_s_post, kr_s_about⟩
