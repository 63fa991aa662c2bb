theorem kr_fM_sum (μ : kc_Sg) (y : Int32) : ∀ j, j < 38 ∨ j = 50 → kq_M_sum μ y j = μ j := by
  intro j hj
  unfold kq_M_sum
  (repeat' split) <;> first | rfl | (repeat rw [kc_up_ne (by omega)])
theorem kr_fM_post (μ : kc_Sg) (x : Int32) (y : Int32) : ∀ j, j < 38 ∨ j = 50 → kq_M_post μ x y j = μ j := by
  intro j hj
  unfold kq_M_post
  (repeat' split) <;> first | rfl | (repeat rw [kc_up_ne (by omega)])
theorem kr_fM_fault (μ : kc_Sg) (d : Nat) (y : Int32) : ∀ j, j < 38 ∨ j = 50 → kq_M_fault μ d y j = μ j := by
  intro j hj
  unfold kq_M_fault
  (repeat' split) <;> first | rfl | (repeat rw [kc_up_ne (by omega)])
theorem kr_fM_group (μ : kc_Sg) (P : Int32) (Q : Int32) (g : Int32) : ∀ j, j < 38 ∨ j = 50 → kq_M_group μ P Q g j = μ j := by
  intro j hj
  unfold kq_M_group
  (repeat' split) <;> first | rfl | (repeat rw [kc_up_ne (by omega)])
theorem kr_fK_fault (κ : kc_Sg) (d : Nat) (y : Int32) : ∀ j, 38 ≤ j → kq_K_fault κ d y j = κ j := by
  intro j hj
  unfold kq_K_fault kq_V_turn
  (repeat' split) <;> first | rfl | (repeat rw [kc_up_ne (by omega)])
theorem kr_tK_fault (κ : kc_Sg) (d : Nat) (y : Int32) : ¬ kt_K_fault κ d y = 0 → kq_K_fault κ d y = κ := by
  unfold kt_K_fault kq_K_fault
  intro h
  (repeat' split) <;> first | rfl | (exfalso; apply h; simp [*])
theorem kr_fK_group (κ : kc_Sg) (P Q g : Int32) : ∀ j, 38 ≤ j → kq_K_group κ P Q g j = κ j := by
  intro j hj
  unfold kq_K_group
  split
  · rfl
  · rw [kc_up_ne (by omega), ke_fill (by omega), ke_fill (by omega), kr_beginC (by omega) (by omega) (by omega) (by omega)]
    unfold kq_B_empty kq_G_become
    rw [kc_up_ne (by omega), kc_up_ne (by omega), kc_up_ne (by omega), kc_up_ne (by omega)]
theorem kr_tK_group (κ : kc_Sg) (P Q g : Int32) : ¬ kt_K_group P Q g = 0 → kq_K_group κ P Q g = κ := by
  unfold kt_K_group kq_K_group
  intro h
  split
  · rfl
  · rename_i h1
    rw [if_neg h1] at h
    exact absurd rfl h
set_option maxHeartbeats 1000000 in
theorem kr_s_fault : kl_S_fault kr_R := by
  intro n σ p0 p1 hn hR
  by_cases hs : kt_K_requireSeat p0 = 0
  · obtain ⟨d, hd, rfl⟩ := kr_seatN hs
    rcases kr_fd hR hn with ⟨hb, hf⟩ | ⟨hf, h4, -⟩
    · skip
      have ht : (kt_K_fault σ d p1) = 1 := by
        unfold kt_K_fault
        rw [if_neg (by rw [hf]; decide), hf]
      refine ⟨1, (kq_K_fault σ d p1), kc_up σ 38 0 (kp_M_first σ (nI d)), 3, by decide, by decide, fun l hlt V hV => ?_, fun l V hV => ?_, ?_, ?_⟩
      · have h := kx_K_fault l hlt hV σ d p1 hd
        rw [ht] at h
        exact h
      · rw [if_neg (by decide)]
        exact kk_M_fault_x l hV σ (nI d) p1 (by rw [kr_first1 hb.2.2.2.2.2.1]; decide +kernel)
      · rw [kc_up_jj, kr_first1 hb.2.2.2.2.2.1]
        rfl
      · exact kr_R.thr hR _
    · have f1 : ∀ j, 38 ≤ j → (kq_K_fault σ d p1) j = σ j := kr_fK_fault σ d p1
      have hQ := kr_inV (tag := (kt_K_fault σ d p1)) hR f1
      generalize hτ : (if (kt_K_fault σ d p1) = 0 then (kq_K_fault σ d p1) else σ) = τ at hQ
      rcases kr_fd hQ hn with ⟨-, hf'⟩ | ⟨-, h4', p, q, hg, hF⟩
      · rw [hf] at hf'
        cases hf'
      · obtain ⟨ht, he, hq⟩ := kr_m_fault (y := p1) hg hF hf hd
        refine ⟨(kt_K_fault σ d p1), (kq_K_fault σ d p1), (kq_M_fault τ d p1), 3, by
            rcases ht with h | h | h <;> rw [h] <;> decide, by decide, fun l hlt V hV => kx_K_fault l hlt hV σ d p1 hd, fun l V hV => by rw [hτ]; exact kk_M_fault l hV τ d p1 (kr_first0 h4' (kr_seat0 hd)) (by omega), he, kr_outV (tag := (kt_K_fault σ d p1)) (kr_tK_fault σ d p1) (fun j hj => by rw [hτ]; exact kr_fM_fault τ d p1 j (Or.inl hj)) hq⟩
  · rcases kr_fd hR hn with ⟨hb, hf⟩ | ⟨hf, h4, -⟩
    · skip
      have ht : kt_K_fault_x σ p0 = 1 := by
        unfold kt_K_fault_x
        rw [if_neg (by rw [hf]; decide), hf]
      refine ⟨1, (kq_K_fault_x σ), kc_up σ 38 0 (kp_M_first σ p0), 3, by decide, by decide, fun l hlt V hV => ?_, fun l V hV => ?_, ?_, ?_⟩
      · have h := kx_K_fault_x l hlt hV σ p0 p1 hs
        rw [ht] at h
        exact h
      · rw [if_neg (by decide)]
        exact kk_M_fault_x l hV σ p0 p1 (by rw [kr_first1 hb.2.2.2.2.2.1]; decide +kernel)
      · rw [kc_up_jj, kr_first1 hb.2.2.2.2.2.1]
        rfl
      · exact kr_R.thr hR _
    · skip
      have ht : kt_K_fault_x σ p0 = 2 := by
        unfold kt_K_fault_x
        rw [if_pos hf]
        exact (kr_first2 h4 hs).2
      refine ⟨2, (kq_K_fault_x σ), kc_up σ 38 0 (kp_M_first σ p0), 3, by decide, by decide, fun l hlt V hV => ?_, fun l V hV => ?_, ?_, ?_⟩
      · have h := kx_K_fault_x l hlt hV σ p0 p1 hs
        rw [ht] at h
        exact h
      · rw [if_neg (by decide)]
        exact kk_M_fault_x l hV σ p0 p1 (by rw [(kr_first2 h4 hs).1]; decide +kernel)
      · rw [kc_up_jj, (kr_first2 h4 hs).1]
        rfl
      · exact kr_R.thr hR _
set_option maxHeartbeats 1000000 in
theorem kr_s_group : kl_S_group kr_R := by
  intro n σ p0 p1 p2 hn hR
  have f1 : ∀ j, 38 ≤ j → (kq_K_group σ p0 p1 p2) j = σ j := kr_fK_group σ p0 p1 p2
  have hQ := kr_inV (tag := (kt_K_group p0 p1 p2)) hR f1
  generalize hτ : (if (kt_K_group p0 p1 p2) = 0 then (kq_K_group σ p0 p1 p2) else σ) = τ at hQ
  obtain ⟨ht, he, hq⟩ := kr_m_group hQ p0 p1 p2
  refine ⟨(kt_K_group p0 p1 p2), (kq_K_group σ p0 p1 p2), (kq_M_group τ p0 p1 p2), 2, by
      rcases ht with h | h <;> rw [h] <;> decide, by decide, fun l hlt V hV => kx_K_group l hlt hV σ p0 p1 p2 , fun l V hV => by rw [hτ]; exact kk_M_group l hV τ p0 p1 p2 , he, kr_outV (tag := (kt_K_group p0 p1 p2)) (kr_tK_group σ p0 p1 p2) (fun j hj => by rw [hτ]; exact kr_fM_group τ p0 p1 p2 j (Or.inl hj)) hq⟩
set_option maxHeartbeats 1000000 in
theorem kr_s_sum : kl_S_sum kr_R := by
  intro n σ p0 hn hR
  have f1 : ∀ j, 38 ≤ j → σ j = σ j := fun j _ => rfl
  have hQ := kr_in (tag := (kt_K_sum σ p0)) (v := (kp_K_sum σ p0)) hR f1
  generalize hτ : (if (kt_K_sum σ p0) = 0 then kc_up σ 50 0 (kp_K_sum σ p0) else σ) = τ at hQ
  obtain ⟨ht, he, hb, hq⟩ := kr_m_sum hQ hn p0
  refine ⟨(kt_K_sum σ p0), σ, (kq_M_sum τ p0), 1, (kp_K_sum σ p0), (kp_M_sum τ p0), by
      rcases ht with h | h | h <;> rw [h] <;> decide, by decide, fun l hlt V hV => kx_K_sum l hlt hV σ p0 , fun l V hV => by rw [hτ]; exact kk_M_sum l hV τ p0 , he, fun h0 => ?_, kr_out (tag := (kt_K_sum σ p0)) (v := (kp_K_sum σ p0)) (fun _ => rfl) (fun j hj => by rw [hτ]; exact kr_fM_sum τ p0 j (Or.inl hj)) hq⟩
  have hv : τ 50 0 = (kp_K_sum σ p0) := by rw [← hτ, if_pos h0, kc_up_jj]
  rw [kr_fM_sum τ p0 50 (Or.inr rfl), hv, hb h0]
set_option maxHeartbeats 1000000 in
theorem kr_s_post : kl_S_post kr_R := by
  intro n σ p0 p1 hn hR
  have f1 : ∀ j, 38 ≤ j → σ j = σ j := fun j _ => rfl
  have hQ := kr_in (tag := (kt_K_post σ p0 p1)) (v := (kp_K_post σ p0 p1)) hR f1
  generalize hτ : (if (kt_K_post σ p0 p1) = 0 then kc_up σ 50 0 (kp_K_post σ p0 p1) else σ) = τ at hQ
  obtain ⟨ht, he, hb, hq⟩ := kr_m_post hQ hn p0 p1
  refine ⟨(kt_K_post σ p0 p1), σ, (kq_M_post τ p0 p1), 1, (kp_K_post σ p0 p1), (kp_M_post τ p0 p1), by
      rcases ht with h | h | h | h <;> rw [h] <;> decide, by decide, fun l hlt V hV => kx_K_post l hlt hV σ p0 p1 (kr_bdk hR), fun l V hV => by rw [hτ]; exact kk_M_post l hV τ p0 p1 (kr_bdm hQ), he, fun h0 => ?_, kr_out (tag := (kt_K_post σ p0 p1)) (v := (kp_K_post σ p0 p1)) (fun _ => rfl) (fun j hj => by rw [hτ]; exact kr_fM_post τ p0 p1 j (Or.inl hj)) hq⟩
  have hv : τ 50 0 = (kp_K_post σ p0 p1) := by rw [← hτ, if_pos h0, kc_up_jj]
  rw [kr_fM_post τ p0 p1 50 (Or.inr rfl), hv, hb h0]
