set_option maxHeartbeats 1000000 in
theorem kr_s_deal : kl_S_deal kr_R := by
  intro n σ p0 p1 p2 p3 hn hR
  by_cases hs : kt_K_requireSeat p0 = 0
  · obtain ⟨d, hd, rfl⟩ := kr_seatN hs
    rcases kr_fd hR hn with ⟨hb, hf⟩ | ⟨hf, h4, -⟩
    · skip
      have ht : (kt_K_deal σ d p1 p2 p3) = 1 := by
        unfold kt_K_deal
        rw [if_neg (by rw [hf]; decide), hf]
      refine ⟨1, (kq_K_deal σ d p1 p2 p3), kc_up σ 38 0 (kp_M_first σ (nI d)), 3, by decide, by decide, fun l hlt V hV => ?_, fun l V hV => ?_, ?_, ?_⟩
      · have h := kx_K_deal l hlt hV σ d p1 p2 p3 hd (kr_nz hR).1 (kr_nz hR).2 (kr_bdk hR)
        rw [ht] at h
        exact h
      · rw [if_neg (by decide)]
        exact kk_M_deal_x l hV σ (nI d) p1 p2 p3 (by rw [kr_first1 hb.2.2.2.2.2.1]; decide +kernel)
      · rw [kc_up_jj, kr_first1 hb.2.2.2.2.2.1]
        rfl
      · exact kr_R.thr hR _
    · have f1 : ∀ j, 38 ≤ j → (kq_K_deal σ d p1 p2 p3) j = σ j := kr_fK_deal σ d p1 p2 p3 hd.2
      have hQ := kr_inV (tag := (kt_K_deal σ d p1 p2 p3)) hR f1
      generalize hτ : (if (kt_K_deal σ d p1 p2 p3) = 0 then (kq_K_deal σ d p1 p2 p3) else σ) = τ at hQ
      rcases kr_fd hQ hn with ⟨-, hf'⟩ | ⟨-, h4', p, q, hg, hF⟩
      · rw [hf] at hf'
        cases hf'
      · obtain ⟨ht, he, hq⟩ := kr_m_deal (b := p1) (c := p2) (e := p3) hg hF hf hd
        refine ⟨(kt_K_deal σ d p1 p2 p3), (kq_K_deal σ d p1 p2 p3), (kq_M_deal τ d p1 p2 p3), 3, by
            rcases ht with h | h | h <;> rw [h] <;> decide, by decide, fun l hlt V hV => kx_K_deal l hlt hV σ d p1 p2 p3 hd (kr_nz hR).1 (kr_nz hR).2 (kr_bdk hR), fun l V hV => by rw [hτ]; exact kk_M_deal l hV τ d p1 p2 p3 (kr_first0 h4' (kr_seat0 hd)) hg.mz.1 hg.mz.2 (kr_bdm hQ) (by omega), he, kr_outV (tag := (kt_K_deal σ d p1 p2 p3)) (kr_tK_deal σ d p1 p2 p3) (fun j hj => by rw [hτ]; exact kr_fM_deal τ d p1 p2 p3 j (Or.inl hj)) hq⟩
  · rcases kr_fd hR hn with ⟨hb, hf⟩ | ⟨hf, h4, -⟩
    · skip
      have ht : kt_K_deal_x σ p0 = 1 := by
        unfold kt_K_deal_x
        rw [if_neg (by rw [hf]; decide), hf]
      refine ⟨1, (kq_K_deal_x σ), kc_up σ 38 0 (kp_M_first σ p0), 3, by decide, by decide, fun l hlt V hV => ?_, fun l V hV => ?_, ?_, ?_⟩
      · have h := kx_K_deal_x l hlt hV σ p0 p1 p2 p3 hs
        rw [ht] at h
        exact h
      · rw [if_neg (by decide)]
        exact kk_M_deal_x l hV σ p0 p1 p2 p3 (by rw [kr_first1 hb.2.2.2.2.2.1]; decide +kernel)
      · rw [kc_up_jj, kr_first1 hb.2.2.2.2.2.1]
        rfl
      · exact kr_R.thr hR _
    · skip
      have ht : kt_K_deal_x σ p0 = 2 := by
        unfold kt_K_deal_x
        rw [if_pos hf]
        exact (kr_first2 h4 hs).2
      refine ⟨2, (kq_K_deal_x σ), kc_up σ 38 0 (kp_M_first σ p0), 3, by decide, by decide, fun l hlt V hV => ?_, fun l V hV => ?_, ?_, ?_⟩
      · have h := kx_K_deal_x l hlt hV σ p0 p1 p2 p3 hs
        rw [ht] at h
        exact h
      · rw [if_neg (by decide)]
        exact kk_M_deal_x l hV σ p0 p1 p2 p3 (by rw [(kr_first2 h4 hs).1]; decide +kernel)
      · rw [kc_up_jj, (kr_first2 h4 hs).1]
        rfl
      · exact kr_R.thr hR _
