set_option maxHeartbeats 1000000 in
theorem kr_s_found : kl_S_found kr_R := by
  intro n σ p0 p1 p2 p3 hn hR
  have f1 : ∀ j, 38 ≤ j → (kq_K_found σ p0 p1 p2 p3) j = σ j := kr_fK_found σ p0 p1 p2 p3
  have hQ := kr_inV (tag := (kt_K_found σ p0 p1 p2 p3)) hR f1
  generalize hτ : (if (kt_K_found σ p0 p1 p2 p3) = 0 then (kq_K_found σ p0 p1 p2 p3) else σ) = τ at hQ
  by_cases hz : τ 38 1 = 0
  · skip
    obtain ⟨ht, he, hq⟩ := kr_z_found hQ hn hz p0 p1 p2 p3
    refine ⟨(kt_K_found σ p0 p1 p2 p3), (kq_K_found σ p0 p1 p2 p3), (kq_M_found_z τ), 1, by
        rcases ht with h | h | h <;> rw [h] <;> decide, by decide, fun l hlt V hV => kx_K_found l hlt hV σ p0 p1 p2 p3 (kr_nz hR).1 (kr_nz hR).2, fun l V hV => by rw [hτ]; exact kk_M_found_z l hV τ p0 p1 p2 p3 hz, he, kr_outV (tag := (kt_K_found σ p0 p1 p2 p3)) (kr_tK_found σ p0 p1 p2 p3) (fun j hj => by rw [hτ]; exact kr_fM_found_z τ j (Or.inl hj)) hq⟩
  · have hm := kr_mz hQ hn hz
    obtain ⟨ht, he, hq⟩ := kr_m_found hQ hn hz p0 p1 p2 p3
    refine ⟨(kt_K_found σ p0 p1 p2 p3), (kq_K_found σ p0 p1 p2 p3), (kq_M_found τ p0 p1 p2 p3), 2, by
        rcases ht with h | h | h <;> rw [h] <;> decide, by decide, fun l hlt V hV => kx_K_found l hlt hV σ p0 p1 p2 p3 (kr_nz hR).1 (kr_nz hR).2, fun l V hV => by rw [hτ]; exact kk_M_found l hV τ p0 p1 p2 p3 hm.1 hm.2, he, kr_outV (tag := (kt_K_found σ p0 p1 p2 p3)) (kr_tK_found σ p0 p1 p2 p3) (fun j hj => by rw [hτ]; exact kr_fM_found τ p0 p1 p2 p3 j (Or.inl hj)) hq⟩
set_option maxHeartbeats 1000000 in
theorem kr_s_recover : kl_S_recover kr_R := by
  intro n σ p0 hn hR
  by_cases hs : kt_K_requireSeat p0 = 0
  · obtain ⟨d, hd, rfl⟩ := kr_seatN hs
    rcases kr_fd hR hn with ⟨hb, hf⟩ | ⟨hf, h4, -⟩
    · skip
      have ht : (kt_K_recover σ d) = 1 := by
        unfold kt_K_recover
        rw [if_neg (by rw [hf]; decide), hf]
      refine ⟨1, (kq_K_recover σ d), kc_up σ 38 0 (kp_M_first σ (nI d)), 3, (kp_K_recover σ d), nI 0, by decide, by decide, fun l hlt V hV => ?_, fun l V hV => ?_, ?_, fun h => absurd h (by decide), ?_⟩
      · have h := kx_K_recover l hlt hV σ d hd (kr_nz hR).1 (kr_nz hR).2
        rw [ht] at h
        exact h
      · rw [if_neg (by decide)]
        exact kk_M_recover_x l hV σ (nI d) (by rw [kr_first1 hb.2.2.2.2.2.1]; decide +kernel)
      · rw [kc_up_jj, kr_first1 hb.2.2.2.2.2.1]
        rfl
      · exact kr_R.thr hR _
    · have f1 : ∀ j, 38 ≤ j → (kq_K_recover σ d) j = σ j := kr_fK_recover σ d
      have hQ := kr_in (tag := (kt_K_recover σ d)) (v := (kp_K_recover σ d)) hR f1
      generalize hτ : (if (kt_K_recover σ d) = 0 then kc_up (kq_K_recover σ d) 50 0 (kp_K_recover σ d) else σ) = τ at hQ
      rcases kr_fd hQ hn with ⟨-, hf'⟩ | ⟨-, h4', p, q, hg, hF⟩
      · rw [hf] at hf'
        cases hf'
      · obtain ⟨ht, he, hb, hq⟩ := kr_m_recover hg hF hf hd
        refine ⟨(kt_K_recover σ d), (kq_K_recover σ d), (kq_M_recover τ d), 4, (kp_K_recover σ d), (kp_M_recover τ d), by
            rcases ht with h | h <;> rw [h] <;> decide, by decide, fun l hlt V hV => kx_K_recover l hlt hV σ d hd (kr_nz hR).1 (kr_nz hR).2, fun l V hV => by rw [hτ]; exact kk_M_recover l hV τ d (kr_first0 h4' (kr_seat0 hd)) hg.mz.1 hg.mz.2 (by omega), he, fun h0 => ?_, kr_out (tag := (kt_K_recover σ d)) (v := (kp_K_recover σ d)) (kr_tK_recover σ d) (fun j hj => by rw [hτ]; exact kr_fM_recover τ d j (Or.inl hj)) hq⟩
        have hv : τ 50 0 = (kp_K_recover σ d) := by rw [← hτ, if_pos h0, kc_up_jj]
        rw [kr_fM_recover τ d 50 (Or.inr rfl), hv, hb h0]
  · rcases kr_fd hR hn with ⟨hb, hf⟩ | ⟨hf, h4, -⟩
    · skip
      have ht : kt_K_recover_x σ p0 = 1 := by
        unfold kt_K_recover_x
        rw [if_neg (by rw [hf]; decide), hf]
      refine ⟨1, (kq_K_recover_x σ), kc_up σ 38 0 (kp_M_first σ p0), 3, (kp_K_recover_x σ), nI 0, by decide, by decide, fun l hlt V hV => ?_, fun l V hV => ?_, ?_, fun h => absurd h (by decide), ?_⟩
      · have h := kx_K_recover_x l hlt hV σ p0 hs
        rw [ht] at h
        exact h
      · rw [if_neg (by decide)]
        exact kk_M_recover_x l hV σ p0 (by rw [kr_first1 hb.2.2.2.2.2.1]; decide +kernel)
      · rw [kc_up_jj, kr_first1 hb.2.2.2.2.2.1]
        rfl
      · exact kr_R.thr hR _
    · skip
      have ht : kt_K_recover_x σ p0 = 2 := by
        unfold kt_K_recover_x
        rw [if_pos hf]
        exact (kr_first2 h4 hs).2
      refine ⟨2, (kq_K_recover_x σ), kc_up σ 38 0 (kp_M_first σ p0), 3, (kp_K_recover_x σ), nI 0, by decide, by decide, fun l hlt V hV => ?_, fun l V hV => ?_, ?_, fun h => absurd h (by decide), ?_⟩
      · have h := kx_K_recover_x l hlt hV σ p0 hs
        rw [ht] at h
        exact h
      · rw [if_neg (by decide)]
        exact kk_M_recover_x l hV σ p0 (by rw [(kr_first2 h4 hs).1]; decide +kernel)
      · rw [kc_up_jj, (kr_first2 h4 hs).1]
        rfl
      · exact kr_R.thr hR _
set_option maxHeartbeats 1000000 in
theorem kr_s_reconstruct : kl_S_reconstruct kr_R := by
  intro n σ p0 hn hR
  have f1 : ∀ j, 38 ≤ j → σ j = σ j := fun j _ => rfl
  have hQ := kr_in (tag := (kt_K_reconstruct σ p0)) (v := (kp_K_reconstruct σ p0)) hR f1
  generalize hτ : (if (kt_K_reconstruct σ p0) = 0 then kc_up σ 50 0 (kp_K_reconstruct σ p0) else σ) = τ at hQ
  by_cases hz : τ 38 4 = 0
  · skip
    obtain ⟨ht, he, hb, hq⟩ := kr_z_reconstruct hQ hn hz p0
    refine ⟨(kt_K_reconstruct σ p0), σ, (kq_M_reconstruct_z τ), 1, (kp_K_reconstruct σ p0), kp_M_reconstruct_z, by
        rcases ht with h | h | h <;> rw [h] <;> decide, by decide, fun l hlt V hV => kx_K_reconstruct l hlt hV σ p0 (kr_nz hR).2, fun l V hV => by rw [hτ]; exact kk_M_reconstruct_z l hV τ p0 hz, he, fun h0 => ?_, kr_out (tag := (kt_K_reconstruct σ p0)) (v := (kp_K_reconstruct σ p0)) (fun _ => rfl) (fun j hj => by rw [hτ]; exact kr_fM_reconstruct_z τ j (Or.inl hj)) hq⟩
    have hv : τ 50 0 = (kp_K_reconstruct σ p0) := by rw [← hτ, if_pos h0, kc_up_jj]
    rw [kr_fM_reconstruct_z τ 50 (Or.inr rfl), hv, hb h0]
  · have hm := kr_mf hQ hn hz
    obtain ⟨ht, he, hb, hq⟩ := kr_m_reconstruct hQ hn hz p0
    refine ⟨(kt_K_reconstruct σ p0), σ, (kq_M_reconstruct τ p0), 3, (kp_K_reconstruct σ p0), (kp_M_reconstruct τ p0), by
        rcases ht with h | h | h <;> rw [h] <;> decide, by decide, fun l hlt V hV => kx_K_reconstruct l hlt hV σ p0 (kr_nz hR).2, fun l V hV => by rw [hτ]; exact kk_M_reconstruct l hV τ p0 hz hm.2, he, fun h0 => ?_, kr_out (tag := (kt_K_reconstruct σ p0)) (v := (kp_K_reconstruct σ p0)) (fun _ => rfl) (fun j hj => by rw [hτ]; exact kr_fM_reconstruct τ p0 j (Or.inl hj)) hq⟩
    have hv : τ 50 0 = (kp_K_reconstruct σ p0) := by rw [← hτ, if_pos h0, kc_up_jj]
    rw [kr_fM_reconstruct τ p0 50 (Or.inr rfl), hv, hb h0]
