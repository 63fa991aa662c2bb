set_option maxHeartbeats 1000000 in
theorem kr_s_answer : kl_S_answer kr_R := by
  intro n σ p0 p1 hn hR
  by_cases hs : kt_K_requireSeat p0 = 0
  · obtain ⟨d, hd, rfl⟩ := kr_seatN hs
    by_cases hs2 : kt_K_requireSeat p1 = 0
    · obtain ⟨k, hk, rfl⟩ := kr_seatN hs2
      rcases kr_fd hR hn with ⟨hb, hf⟩ | ⟨hf, h4, -⟩
      · skip
        have ht : (kt_K_answer σ d k) = 1 := by
          unfold kt_K_answer
          rw [if_neg (by rw [hf]; decide), hf]
        refine ⟨1, (kq_K_answer σ d k), kc_up σ 38 0 (kp_M_first σ (nI d)), 3, (kp_K_answer σ d k), nI 0, by decide, by decide, fun l hlt V hV => ?_, fun l V hV => ?_, ?_, fun h => absurd h (by decide), ?_⟩
        · have h := kx_K_answer l hlt hV σ d k hd hk (kr_nz hR).1 (kr_nz hR).2 (kr_bdk hR)
          rw [ht] at h
          exact h
        · rw [if_neg (by decide)]
          exact kk_M_answer_x l hV σ (nI d) (nI k) (by rw [kr_first1 hb.2.2.2.2.2.1]; decide +kernel)
        · rw [kc_up_jj, kr_first1 hb.2.2.2.2.2.1]
          rfl
        · exact kr_R.thr hR _
      · have f1 : ∀ j, 38 ≤ j → (kq_K_answer σ d k) j = σ j := kr_fK_answer σ d k hd.2
        have hQ := kr_in (tag := (kt_K_answer σ d k)) (v := (if (kp_K_answer σ d k) = 0 then nI 0 else nI 1)) hR f1
        generalize hτ : (if (kt_K_answer σ d k) = 0 then kc_up (kq_K_answer σ d k) 50 0 (if (kp_K_answer σ d k) = 0 then nI 0 else nI 1) else σ) = τ at hQ
        rcases kr_fd hQ hn with ⟨-, hf'⟩ | ⟨-, h4', p, q, hg, hF⟩
        · rw [hf] at hf'
          cases hf'
        · obtain ⟨ht, he, hb, hq⟩ := kr_m_answer hg hF hf hd hk
          refine ⟨(kt_K_answer σ d k), (kq_K_answer σ d k), (kq_M_answer τ d k), 4, (kp_K_answer σ d k), (kp_M_answer τ d k), by
              rcases ht with h | h | h <;> rw [h] <;> decide, by decide, fun l hlt V hV => kx_K_answer l hlt hV σ d k hd hk (kr_nz hR).1 (kr_nz hR).2 (kr_bdk hR), fun l V hV => by rw [hτ]; exact kk_M_answer l hV τ d k (kr_first0 h4' (kr_seat0 hd)) (kr_first0 h4' (kr_seat0 hk)) hg.mz.1 hg.mz.2 (kr_bdm hQ) (by omega) (by omega), he, fun h0 => ?_, kr_out (tag := (kt_K_answer σ d k)) (v := (if (kp_K_answer σ d k) = 0 then nI 0 else nI 1)) (kr_tK_answer σ d k) (fun j hj => by rw [hτ]; exact kr_fM_answer τ d k j (Or.inl hj)) hq⟩
          have hv : τ 50 0 = (if (kp_K_answer σ d k) = 0 then nI 0 else nI 1) := by rw [← hτ, if_pos h0, kc_up_jj]
          rw [kr_fM_answer τ d k 50 (Or.inr rfl), hv, hb h0]
    · rcases kr_fd hR hn with ⟨hb, hf⟩ | ⟨hf, h4, -⟩
      · skip
        have ht : kt_K_answer_y σ p1 = 1 := by
          unfold kt_K_answer_y
          rw [if_neg (by rw [hf]; decide), hf]
        refine ⟨1, (kq_K_answer_y σ), kc_up σ 38 0 (kp_M_first σ (nI d)), 3, (kp_K_answer_y σ), nI 0, by decide, by decide, fun l hlt V hV => ?_, fun l V hV => ?_, ?_, fun h => absurd h (by decide), ?_⟩
        · have h := kx_K_answer_y l hlt hV σ d p1 hd hs2
          rw [ht] at h
          exact h
        · rw [if_neg (by decide)]
          exact kk_M_answer_x l hV σ (nI d) p1 (by rw [kr_first1 hb.2.2.2.2.2.1]; decide +kernel)
        · rw [kc_up_jj, kr_first1 hb.2.2.2.2.2.1]
          rfl
        · exact kr_R.thr hR _
      · skip
        have ht : kt_K_answer_y σ p1 = 2 := by
          unfold kt_K_answer_y
          rw [if_pos hf]
          exact (kr_first2 h4 hs2).2
        refine ⟨2, (kq_K_answer_y σ), kc_up (kc_up σ 38 0 (nI 0)) 38 0 (kp_M_first σ p1), 3, (kp_K_answer_y σ), nI 0, by decide, by decide, fun l hlt V hV => ?_, fun l V hV => ?_, ?_, fun h => absurd h (by decide), ?_⟩
        · have h := kx_K_answer_y l hlt hV σ d p1 hd hs2
          rw [ht] at h
          exact h
        · rw [if_neg (by decide)]
          exact kk_M_answer_y l hV σ d p1 (kr_first0 h4 hs) (by rw [(kr_first2 h4 hs2).1]; decide +kernel)
        · rw [kc_up_jj, (kr_first2 h4 hs2).1]
          rfl
        · exact kr_R.thr2 hR _
  · rcases kr_fd hR hn with ⟨hb, hf⟩ | ⟨hf, h4, -⟩
    · skip
      have ht : kt_K_answer_x σ p0 = 1 := by
        unfold kt_K_answer_x
        rw [if_neg (by rw [hf]; decide), hf]
      refine ⟨1, (kq_K_answer_x σ), kc_up σ 38 0 (kp_M_first σ p0), 3, (kp_K_answer_x σ), nI 0, by decide, by decide, fun l hlt V hV => ?_, fun l V hV => ?_, ?_, fun h => absurd h (by decide), ?_⟩
      · have h := kx_K_answer_x l hlt hV σ p0 p1 hs
        rw [ht] at h
        exact h
      · rw [if_neg (by decide)]
        exact kk_M_answer_x l hV σ p0 p1 (by rw [kr_first1 hb.2.2.2.2.2.1]; decide +kernel)
      · rw [kc_up_jj, kr_first1 hb.2.2.2.2.2.1]
        rfl
      · exact kr_R.thr hR _
    · skip
      have ht : kt_K_answer_x σ p0 = 2 := by
        unfold kt_K_answer_x
        rw [if_pos hf]
        exact (kr_first2 h4 hs).2
      refine ⟨2, (kq_K_answer_x σ), kc_up σ 38 0 (kp_M_first σ p0), 3, (kp_K_answer_x σ), nI 0, by decide, by decide, fun l hlt V hV => ?_, fun l V hV => ?_, ?_, fun h => absurd h (by decide), ?_⟩
      · have h := kx_K_answer_x l hlt hV σ p0 p1 hs
        rw [ht] at h
        exact h
      · rw [if_neg (by decide)]
        exact kk_M_answer_x l hV σ p0 p1 (by rw [(kr_first2 h4 hs).1]; decide +kernel)
      · rw [kc_up_jj, (kr_first2 h4 hs).1]
        rfl
      · exact kr_R.thr hR _
set_option maxHeartbeats 1000000 in
theorem kr_s_close : kl_S_close kr_R := by
  intro n σ hn hR
  have f1 : ∀ j, 38 ≤ j → (kq_K_close σ) j = σ j := kr_fK_close σ
  have hQ := kr_in (tag := (kt_K_close σ)) (v := (kp_K_close σ)) hR f1
  generalize hτ : (if (kt_K_close σ) = 0 then kc_up (kq_K_close σ) 50 0 (kp_K_close σ) else σ) = τ at hQ
  by_cases hz : τ 38 4 = 0
  · skip
    obtain ⟨ht, he, hb, hq⟩ := kr_z_close hQ hn hz
    refine ⟨(kt_K_close σ), (kq_K_close σ), (kq_M_close_z τ), 1, (kp_K_close σ), kp_M_close_z, by
        rcases ht with h | h <;> rw [h] <;> decide, by decide, fun l hlt V hV => kx_K_close l hlt hV σ (kr_nz hR).1 (kr_nz hR).2, fun l V hV => by rw [hτ]; exact kk_M_close_z l hV τ hz, he, fun h0 => ?_, kr_out (tag := (kt_K_close σ)) (v := (kp_K_close σ)) (kr_tK_close σ) (fun j hj => by rw [hτ]; exact kr_fM_close_z τ j (Or.inl hj)) hq⟩
    have hv : τ 50 0 = (kp_K_close σ) := by rw [← hτ, if_pos h0, kc_up_jj]
    rw [kr_fM_close_z τ 50 (Or.inr rfl), hv, hb h0]
  · have hm := kr_mf hQ hn hz
    obtain ⟨ht, he, hb, hq⟩ := kr_m_close hQ hn hz
    refine ⟨(kt_K_close σ), (kq_K_close σ), (kq_M_close τ), 4, (kp_K_close σ), (kp_M_close τ), by
        rcases ht with h | h <;> rw [h] <;> decide, by decide, fun l hlt V hV => kx_K_close l hlt hV σ (kr_nz hR).1 (kr_nz hR).2, fun l V hV => by rw [hτ]; exact kk_M_close l hV τ hz hm.1 hm.2, he, fun h0 => ?_, kr_out (tag := (kt_K_close σ)) (v := (kp_K_close σ)) (kr_tK_close σ) (fun j hj => by rw [hτ]; exact kr_fM_close τ j (Or.inl hj)) hq⟩
    have hv : τ 50 0 = (kp_K_close σ) := by rw [← hτ, if_pos h0, kc_up_jj]
    rw [kr_fM_close τ 50 (Or.inr rfl), hv, hb h0]
