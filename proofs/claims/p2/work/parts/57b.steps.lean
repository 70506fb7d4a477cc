/-! The steps of the reference, one by one. -/
theorem S_26 {s : Mm} {n t : Nat} {r : List It} (H : Hv s ((26, n, t) :: r)) {E : Mm → Prop} : Ok Qh E (b_X6_step 26 n t (w_td s (m_td s - 1))) := by
  obtain ⟨hT, hc, hw0, ha, hC, hS, hJ, hdp, hdl, hrw, hmd, htd, hln, hm16, hI, hD⟩ := Hv_pop H
  have C_t0 := hC n
  generalize ht0 : w_td s (m_td s - 1) = t0 at *
  have b_t0 : m_md t0 = m_md s := by rw [← ht0]
  have a_t0 : m_at t0 = m_at s := by rw [← ht0]
  have d_t0 : m_dp t0 = m_dp s := by rw [← ht0]
  have w_t0 : m_wr t0 = m_wr s := by rw [← ht0]
  have u_t0 : m_rw t0 = m_rw s := by rw [← ht0]
  have v_t0 : m_td t0 = m_td s - 1 := by rw [← ht0]
  have e_t0 : m_ct t0 = m_ct s := by rw [← ht0]
  have F0 := C_t0.2.1
  obtain ⟨m_n_t0, g_n_t0, w_n_t0⟩ : n < m_md t0 ∧ GdS t0 n ∧ W5 t0 n := hI.2.1 rfl
  have ht : t < 4096 := hI.1.1 (show 26 ≠ 42 by decide) (show 26 ≠ 48 by decide)
  have hdp : m_dp s = dlt 26 + sD r := hdp
  have hrw : m_rw s = rho 26 + sR r := hrw
  have hmd : m_md s + mu7 26 + sM r ≤ 3 * m_at s + 7 * r.length + 17 := hmd
  have hand : t &&& 1 ≤ 1 := Nat.and_le_right
  have h01 : (0 &&& 1 : Nat) = 0 := rfl
  have h02 : (1 : Nat) * 256 = 256 := rfl
  have hq1 : dlt 26 = 1 := rfl
  have hq2 : rho 26 = 0 := rfl
  have hq3 : mu7 26 = 4 := rfl
  unfold b_X6_step
  refine Ok_ifl (by decide) (by decide) (fun _ => ?_) (fun q => absurd (by decide) q)
  refine Ok_ifl (by decide) (by decide) (fun q => absurd q (by decide)) (fun _ => ?_)
  refine Ok_ifl (by decide) (by decide) (fun _ => ?_) (fun q => absurd (by decide) q)
  refine Ok_bnc ?_
  try unfold b_X6_typing
  refine Ok_ck (by decide) ?_
  refine Ok_ife (by decide) (by decide) (fun q => absurd q (by decide)) (fun _ => ?_)
  refine Ok_ife (by decide) (by decide) (fun q => absurd q (by decide)) (fun _ => ?_)
  refine Ok_ife (by decide) (by decide) (fun q => absurd q (by decide)) (fun _ => ?_)
  refine Ok_ife (by decide) (by decide) (fun q => absurd q (by decide)) (fun _ => ?_)
  refine Ok_ife (by decide) (by decide) (fun q => absurd q (by decide)) (fun _ => ?_)
  refine Ok_ife (by decide) (by decide) (fun q => absurd q (by decide)) (fun _ => ?_)
  refine Ok_ife (by decide) (by decide) (fun q => absurd q (by decide)) (fun _ => ?_)
  refine Ok_ife (by decide) (by decide) (fun q => absurd q (by decide)) (fun _ => ?_)
  refine Ok_ife (by decide) (by decide) (fun _ => ?_) (fun q => absurd (by decide) q)
  refine Ok_bnc ?_
  try unfold b_X6_fields
  refine Kp_look C_t0 hT (by omega) ?_
  refine Ok_ife (Nat.lt_trans (lo_lt (C_t0.tk hT) _) (by decide)) (by decide) (fun q3 => ?_) (fun q3 => ?_)
  · have z_t4 : m_at t0 < m_ct t0 := lo_ne (Nat.ne_of_gt (show 0 < lo t0 (m_at t0) from by omega))
    refine Kp_at C_t0 (fun t4 C_t4 x_t4 a_t4 b_t4 d_t4 w_t4 u_t4 v_t4 _ _ _ l_t4 => ?_)
    have e_t4 := C_t4.2.2.2.1
    have m_n_t4 : n < m_md t4 := by omega
    have g_n_t4 := (x_t4.2.2.1 n m_n_t0).2.1 w_n_t0 g_n_t0
    have w_n_t4 : W5 t4 n := (x_t4.2.2.1 n m_n_t0).1 w_n_t0
    refine Ok_ck (show (m_dp t4) ≠ 0 from by omega) ?_
    refine Kp_dp C_t4 (fun t5 C_t5 x_t5 a_t5 b_t5 d_t5 w_t5 u_t5 v_t5 _ _ _ l_t5 => ?_)
    have e_t5 := C_t5.2.2.2.1
    have m_n_t5 : n < m_md t5 := by omega
    have g_n_t5 := (x_t5.2.2.1 n m_n_t4).2.1 w_n_t4 g_n_t4
    have w_n_t5 : W5 t5 n := (x_t5.2.2.1 n m_n_t4).1 w_n_t4
    refine Ok_ret (show Ok _ _ _ from ?_)
    refine Ok_ret (show Ok _ _ _ from ?_)
    refine Hv_mk C_t5 hT (by omega) (by omega) (by omega) ?_ ?_ ?_ (by omega) ?_ ?_
    · exact Stk_step (N := n) (pop := (26, n, t)) (new := []) F0 C_t5.1 (fun _ => m_n_t0) (fun q _ h => h (26, n, t) rfl) (fun _ => rfl) (fun y hy hk => ⟨rfl, Mo_nil (n := n) y hy hk⟩) (fun (h : 26 = 3 ∨ 26 = 18 ∨ 26 = 41) => absurd h (by decide)) (fun (h : 26 = 18) => absurd h (by decide)) (fun (h : 26 = 41 ∨ 26 = 42 ∨ 26 = 43) => absurd h (by decide)) r [] (fun y hy => absurd hy List.not_mem_nil) hS
    · exact Aj_tl hJ
    · show m_dp t5 = sD r
      have : dlt 26 = 1 := rfl; omega
    · show m_rw t5 = sR r
      have : rho 26 = 0 := rfl; omega
    · show m_md t5 + sM r ≤ 3 * m_at t5 + 7 * (r.length) + 10
      have : mu7 26 = 4 := rfl; omega
  · refine Kp_child C_t0 m_n_t0 g_n_t0 w_n_t0 (by omega) (by omega) (fun t6 C_t6 x_t6 a_t6 b_t6 d_t6 w_t6 u_t6 v_t6 wn_t6 fn_t6 fp_t6 _ l_t6 => ?_)
    have e_t6 := C_t6.2.2.2.1
    have m_n_t6 : n < m_md t6 := by omega
    have g_n_t6 := (x_t6.2.2.1 n m_n_t0).2.1 w_n_t0 g_n_t0
    have w_n_t6 : W5 t6 n := (x_t6.2.2.1 n m_n_t0).1 w_n_t0
    have f_n_t6 : Fz t6 n := fp_t6
    have m_m_mdt0_t6 : m_md t0 < m_md t6 := by omega
    have g_m_mdt0_t6 : GdS t6 (m_md t0) := Or.inl fn_t6
    have w_m_mdt0_t6 : W5 t6 (m_md t0) := by unfold W5; rw [wn_t6]; decide
    have u_m_mdt0_t6 : Up t6 (m_md t0) := Or.inl fn_t6
    clear fp_t6 fn_t6 wn_t6
    refine Kp_push C_t6 (by omega) (fun t7 C_t7 x_t7 a_t7 b_t7 d_t7 w_t7 u_t7 v_t7 _ _ _ l_t7 => ?_)
    have e_t7 := C_t7.2.2.2.1
    have m_n_t7 : n < m_md t7 := by omega
    have g_n_t7 := (x_t7.2.2.1 n m_n_t6).2.1 w_n_t6 g_n_t6
    have w_n_t7 : W5 t7 n := (x_t7.2.2.1 n m_n_t6).1 w_n_t6
    have f_n_t7 : Fz t7 n := (x_t7.2.2.1 n m_n_t6).2.2.1 f_n_t6
    have m_m_mdt0_t7 : m_md t0 < m_md t7 := by omega
    have g_m_mdt0_t7 := (x_t7.2.2.1 (m_md t0) m_m_mdt0_t6).2.1 w_m_mdt0_t6 g_m_mdt0_t6
    have w_m_mdt0_t7 : W5 t7 (m_md t0) := (x_t7.2.2.1 (m_md t0) m_m_mdt0_t6).1 w_m_mdt0_t6
    have u_m_mdt0_t7 := (x_t7.2.2.1 (m_md t0) m_m_mdt0_t6).2.2.2.1 u_m_mdt0_t6
    refine Kp_push C_t7 (by omega) (fun t8 C_t8 x_t8 a_t8 b_t8 d_t8 w_t8 u_t8 v_t8 _ _ _ l_t8 => ?_)
    have e_t8 := C_t8.2.2.2.1
    have m_n_t8 : n < m_md t8 := by omega
    have g_n_t8 := (x_t8.2.2.1 n m_n_t7).2.1 w_n_t7 g_n_t7
    have w_n_t8 : W5 t8 n := (x_t8.2.2.1 n m_n_t7).1 w_n_t7
    have f_n_t8 : Fz t8 n := (x_t8.2.2.1 n m_n_t7).2.2.1 f_n_t7
    have m_m_mdt0_t8 : m_md t0 < m_md t8 := by omega
    have g_m_mdt0_t8 := (x_t8.2.2.1 (m_md t0) m_m_mdt0_t7).2.1 w_m_mdt0_t7 g_m_mdt0_t7
    have w_m_mdt0_t8 : W5 t8 (m_md t0) := (x_t8.2.2.1 (m_md t0) m_m_mdt0_t7).1 w_m_mdt0_t7
    have u_m_mdt0_t8 := (x_t8.2.2.1 (m_md t0) m_m_mdt0_t7).2.2.2.1 u_m_mdt0_t7
    refine Kp_push C_t8 (by omega) (fun t9 C_t9 x_t9 a_t9 b_t9 d_t9 w_t9 u_t9 v_t9 _ _ _ l_t9 => ?_)
    have e_t9 := C_t9.2.2.2.1
    have m_n_t9 : n < m_md t9 := by omega
    have g_n_t9 := (x_t9.2.2.1 n m_n_t8).2.1 w_n_t8 g_n_t8
    have w_n_t9 : W5 t9 n := (x_t9.2.2.1 n m_n_t8).1 w_n_t8
    have f_n_t9 : Fz t9 n := (x_t9.2.2.1 n m_n_t8).2.2.1 f_n_t8
    have m_m_mdt0_t9 : m_md t0 < m_md t9 := by omega
    have g_m_mdt0_t9 := (x_t9.2.2.1 (m_md t0) m_m_mdt0_t8).2.1 w_m_mdt0_t8 g_m_mdt0_t8
    have w_m_mdt0_t9 : W5 t9 (m_md t0) := (x_t9.2.2.1 (m_md t0) m_m_mdt0_t8).1 w_m_mdt0_t8
    have u_m_mdt0_t9 := (x_t9.2.2.1 (m_md t0) m_m_mdt0_t8).2.2.2.1 u_m_mdt0_t8
    refine Ok_ret (show Ok _ _ _ from ?_)
    refine Ok_ret (show Ok _ _ _ from ?_)
    refine Hv_mk C_t9 hT (by omega) (by omega) (by omega) ?_ ?_ ?_ (by omega) ?_ ?_
    · exact ⟨(Io_n (by decide) (by decide) m_m_mdt0_t9 g_m_mdt0_t9 w_m_mdt0_t9 (fun q => absurd q (by decide)) (fun q => absurd q (by decide))), (Nd_0 (by decide) Mo_nil), ⟨(Io_n (by decide) (by decide) m_m_mdt0_t9 g_m_mdt0_t9 w_m_mdt0_t9 (fun q => absurd q (by decide)) (fun q => absurd q (by decide))), (Nd_0 (by decide) (Mo_cons (fun q => show m_md t0 ≤ m_md t0 from by omega) Mo_nil)), ⟨(Io_27 (by decide) m_n_t9 g_n_t9 w_n_t9), (Nd_0 (by decide) (Mo_cons (fun q => show n ≤ m_md t0 from by omega) (Mo_cons (fun q => show n ≤ m_md t0 from by omega) Mo_nil))), Stk_step (N := n) (pop := (26, n, t)) (new := [(27, n, 26), (18, m_md t0, 0), (29, m_md t0, 0)]) F0 C_t9.1 (fun _ => m_n_t0) (fun q _ h => h (26, n, t) rfl) (fun _ => rfl) (fun y hy hk => ⟨rfl, (Mo_cons (fun q => show n ≤ n from by omega) (Mo_cons (fun q => show n ≤ m_md t0 from by omega) (Mo_cons (fun q => show n ≤ m_md t0 from by omega) Mo_nil))) y hy hk⟩) (fun (h : 26 = 3 ∨ 26 = 18 ∨ 26 = 41) => absurd h (by decide)) (fun (h : 26 = 18) => absurd h (by decide)) (fun (h : 26 = 41 ∨ 26 = 42 ∨ 26 = 43) => absurd h (by decide)) r [] (fun y hy => absurd hy List.not_mem_nil) hS⟩⟩⟩
    · exact (Aj_up (x := (29, m_md t0, 0)) (Aj_up (x := (18, m_md t0, 0)) (Aj_sub (y := (27, n, 26)) hJ (Nat.le_of_ble_eq_true rfl)) (Or.inl (Nat.le_of_ble_eq_true rfl))) (Or.inr (Nat.le_of_ble_eq_true rfl)))
    · show m_dp t9 = (dlt 29 + (dlt 18 + (dlt 27 + sD r)))
      have : dlt 18 = 0 := rfl; have : dlt 26 = 1 := rfl; have : dlt 27 = 1 := rfl; have : dlt 29 = 0 := rfl; omega
    · show m_rw t9 = (rho 29 + (rho 18 + (rho 27 + sR r)))
      have : rho 18 = 0 := rfl; have : rho 26 = 0 := rfl; have : rho 27 = 0 := rfl; have : rho 29 = 0 := rfl; omega
    · show m_md t9 + (mu7 29 + (mu7 18 + (mu7 27 + sM r))) ≤ 3 * m_at t9 + 7 * (r.length + 1 + 1 + 1) + 10
      have : mu7 18 = 5 := rfl; have : mu7 26 = 4 := rfl; have : mu7 27 = 4 := rfl; have : mu7 29 = 6 := rfl; omega

theorem S_28 {s : Mm} {n t : Nat} {r : List It} (H : Hv s ((28, n, t) :: r)) {E : Mm → Prop} : Ok Qh E (b_X6_step 28 n t (w_td s (m_td s - 1))) := by
  obtain ⟨hT, hc, hw0, ha, hC, hS, hJ, hdp, hdl, hrw, hmd, htd, hln, hm16, hI, hD⟩ := Hv_pop H
  have C_t0 := hC n
  generalize ht0 : w_td s (m_td s - 1) = t0 at *
  have b_t0 : m_md t0 = m_md s := by rw [← ht0]
  have a_t0 : m_at t0 = m_at s := by rw [← ht0]
  have d_t0 : m_dp t0 = m_dp s := by rw [← ht0]
  have w_t0 : m_wr t0 = m_wr s := by rw [← ht0]
  have u_t0 : m_rw t0 = m_rw s := by rw [← ht0]
  have v_t0 : m_td t0 = m_td s - 1 := by rw [← ht0]
  have e_t0 : m_ct t0 = m_ct s := by rw [← ht0]
  have F0 := C_t0.2.1
  obtain ⟨m_n_t0, g_n_t0, w_n_t0⟩ : n < m_md t0 ∧ GdS t0 n ∧ W5 t0 n := hI.2.1 rfl
  have ht : t < 4096 := hI.1.1 (show 28 ≠ 42 by decide) (show 28 ≠ 48 by decide)
  have hdp : m_dp s = dlt 28 + sD r := hdp
  have hrw : m_rw s = rho 28 + sR r := hrw
  have hmd : m_md s + mu7 28 + sM r ≤ 3 * m_at s + 7 * r.length + 17 := hmd
  have hand : t &&& 1 ≤ 1 := Nat.and_le_right
  have h01 : (0 &&& 1 : Nat) = 0 := rfl
  have h02 : (1 : Nat) * 256 = 256 := rfl
  have hq1 : dlt 28 = 1 := rfl
  have hq2 : rho 28 = 0 := rfl
  have hq3 : mu7 28 = 4 := rfl
  unfold b_X6_step
  refine Ok_ifl (by decide) (by decide) (fun _ => ?_) (fun q => absurd (by decide) q)
  refine Ok_ifl (by decide) (by decide) (fun q => absurd q (by decide)) (fun _ => ?_)
  refine Ok_ifl (by decide) (by decide) (fun _ => ?_) (fun q => absurd (by decide) q)
  refine Ok_bnc ?_
  try unfold b_X6_typing
  refine Ok_ck (by decide) ?_
  refine Ok_ife (by decide) (by decide) (fun q => absurd q (by decide)) (fun _ => ?_)
  refine Ok_ife (by decide) (by decide) (fun q => absurd q (by decide)) (fun _ => ?_)
  refine Ok_ife (by decide) (by decide) (fun q => absurd q (by decide)) (fun _ => ?_)
  refine Ok_ife (by decide) (by decide) (fun q => absurd q (by decide)) (fun _ => ?_)
  refine Ok_ife (by decide) (by decide) (fun q => absurd q (by decide)) (fun _ => ?_)
  refine Ok_ife (by decide) (by decide) (fun q => absurd q (by decide)) (fun _ => ?_)
  refine Ok_ife (by decide) (by decide) (fun q => absurd q (by decide)) (fun _ => ?_)
  refine Ok_ife (by decide) (by decide) (fun q => absurd q (by decide)) (fun _ => ?_)
  refine Ok_ife (by decide) (by decide) (fun q => absurd q (by decide)) (fun _ => ?_)
  refine Ok_ife (by decide) (by decide) (fun q => absurd q (by decide)) (fun _ => ?_)
  refine Ok_bnc ?_
  try unfold b_X6_methods
  refine Kp_look C_t0 hT (by omega) ?_
  refine Ok_ife (Nat.lt_trans (lo_lt (C_t0.tk hT) _) (by decide)) (by decide) (fun q3 => ?_) (fun q3 => ?_)
  · have z_t4 : m_at t0 < m_ct t0 := lo_ne (Nat.ne_of_gt (show 0 < lo t0 (m_at t0) from by omega))
    refine Kp_at C_t0 (fun t4 C_t4 x_t4 a_t4 b_t4 d_t4 w_t4 u_t4 v_t4 _ _ _ l_t4 => ?_)
    have e_t4 := C_t4.2.2.2.1
    have m_n_t4 : n < m_md t4 := by omega
    have g_n_t4 := (x_t4.2.2.1 n m_n_t0).2.1 w_n_t0 g_n_t0
    have w_n_t4 : W5 t4 n := (x_t4.2.2.1 n m_n_t0).1 w_n_t0
    refine Ok_ck (show (m_dp t4) ≠ 0 from by omega) ?_
    refine Kp_dp C_t4 (fun t5 C_t5 x_t5 a_t5 b_t5 d_t5 w_t5 u_t5 v_t5 _ _ _ l_t5 => ?_)
    have e_t5 := C_t5.2.2.2.1
    have m_n_t5 : n < m_md t5 := by omega
    have g_n_t5 := (x_t5.2.2.1 n m_n_t4).2.1 w_n_t4 g_n_t4
    have w_n_t5 : W5 t5 n := (x_t5.2.2.1 n m_n_t4).1 w_n_t4
    refine Ok_ret (show Ok _ _ _ from ?_)
    refine Ok_ret (show Ok _ _ _ from ?_)
    refine Hv_mk C_t5 hT (by omega) (by omega) (by omega) ?_ ?_ ?_ (by omega) ?_ ?_
    · exact Stk_step (N := n) (pop := (28, n, t)) (new := []) F0 C_t5.1 (fun _ => m_n_t0) (fun q _ h => h (28, n, t) rfl) (fun _ => rfl) (fun y hy hk => ⟨rfl, Mo_nil (n := n) y hy hk⟩) (fun (h : 28 = 3 ∨ 28 = 18 ∨ 28 = 41) => absurd h (by decide)) (fun (h : 28 = 18) => absurd h (by decide)) (fun (h : 28 = 41 ∨ 28 = 42 ∨ 28 = 43) => absurd h (by decide)) r [] (fun y hy => absurd hy List.not_mem_nil) hS
    · exact Aj_tl hJ
    · show m_dp t5 = sD r
      have : dlt 28 = 1 := rfl; omega
    · show m_rw t5 = sR r
      have : rho 28 = 0 := rfl; omega
    · show m_md t5 + sM r ≤ 3 * m_at t5 + 7 * (r.length) + 10
      have : mu7 28 = 4 := rfl; omega
  · refine Kp_child C_t0 m_n_t0 g_n_t0 w_n_t0 (by omega) (by omega) (fun t6 C_t6 x_t6 a_t6 b_t6 d_t6 w_t6 u_t6 v_t6 wn_t6 fn_t6 fp_t6 _ l_t6 => ?_)
    have e_t6 := C_t6.2.2.2.1
    have m_n_t6 : n < m_md t6 := by omega
    have g_n_t6 := (x_t6.2.2.1 n m_n_t0).2.1 w_n_t0 g_n_t0
    have w_n_t6 : W5 t6 n := (x_t6.2.2.1 n m_n_t0).1 w_n_t0
    have f_n_t6 : Fz t6 n := fp_t6
    have m_m_mdt0_t6 : m_md t0 < m_md t6 := by omega
    have g_m_mdt0_t6 : GdS t6 (m_md t0) := Or.inl fn_t6
    have w_m_mdt0_t6 : W5 t6 (m_md t0) := by unfold W5; rw [wn_t6]; decide
    have u_m_mdt0_t6 : Up t6 (m_md t0) := Or.inl fn_t6
    clear fp_t6 fn_t6 wn_t6
    refine Ok_bnc ?_
    try unfold b_X6_name
    refine Kp_look C_t6 hT (by omega) ?_
    refine Ok_ife (Nat.lt_trans (lo_lt (C_t6.tk hT) _) (by decide)) (by decide) (fun q8 => ?_) (fun q8 => ?_)
    · refine Kp_child C_t6 m_m_mdt0_t6 g_m_mdt0_t6 w_m_mdt0_t6 (by omega) (by omega) (fun t9 C_t9 x_t9 a_t9 b_t9 d_t9 w_t9 u_t9 v_t9 wn_t9 fn_t9 fp_t9 _ l_t9 => ?_)
      have e_t9 := C_t9.2.2.2.1
      have m_n_t9 : n < m_md t9 := by omega
      have g_n_t9 := (x_t9.2.2.1 n m_n_t6).2.1 w_n_t6 g_n_t6
      have w_n_t9 : W5 t9 n := (x_t9.2.2.1 n m_n_t6).1 w_n_t6
      have f_n_t9 : Fz t9 n := (x_t9.2.2.1 n m_n_t6).2.2.1 f_n_t6
      have m_m_mdt0_t9 : m_md t0 < m_md t9 := by omega
      have g_m_mdt0_t9 := (x_t9.2.2.1 (m_md t0) m_m_mdt0_t6).2.1 w_m_mdt0_t6 g_m_mdt0_t6
      have w_m_mdt0_t9 : W5 t9 (m_md t0) := (x_t9.2.2.1 (m_md t0) m_m_mdt0_t6).1 w_m_mdt0_t6
      have u_m_mdt0_t9 := (x_t9.2.2.1 (m_md t0) m_m_mdt0_t6).2.2.2.1 u_m_mdt0_t6
      have f_m_mdt0_t9 : Fz t9 (m_md t0) := fp_t9
      have m_m_mdt6_t9 : m_md t6 < m_md t9 := by omega
      have g_m_mdt6_t9 : GdS t9 (m_md t6) := Or.inl fn_t9
      have w_m_mdt6_t9 : W5 t9 (m_md t6) := by unfold W5; rw [wn_t9]; decide
      have u_m_mdt6_t9 : Up t9 (m_md t6) := Or.inl fn_t9
      clear fp_t9 fn_t9 wn_t9
      have z_t10 : m_at t9 < m_ct t9 := lo_ne (Nat.ne_of_gt (show 0 < lo t9 (m_at t9) from by omega))
      refine Kp_at C_t9 (fun t10 C_t10 x_t10 a_t10 b_t10 d_t10 w_t10 u_t10 v_t10 _ _ _ l_t10 => ?_)
      have e_t10 := C_t10.2.2.2.1
      have m_n_t10 : n < m_md t10 := by omega
      have g_n_t10 := (x_t10.2.2.1 n m_n_t9).2.1 w_n_t9 g_n_t9
      have w_n_t10 : W5 t10 n := (x_t10.2.2.1 n m_n_t9).1 w_n_t9
      have f_n_t10 : Fz t10 n := (x_t10.2.2.1 n m_n_t9).2.2.1 f_n_t9
      have m_m_mdt0_t10 : m_md t0 < m_md t10 := by omega
      have g_m_mdt0_t10 := (x_t10.2.2.1 (m_md t0) m_m_mdt0_t9).2.1 w_m_mdt0_t9 g_m_mdt0_t9
      have w_m_mdt0_t10 : W5 t10 (m_md t0) := (x_t10.2.2.1 (m_md t0) m_m_mdt0_t9).1 w_m_mdt0_t9
      have f_m_mdt0_t10 : Fz t10 (m_md t0) := (x_t10.2.2.1 (m_md t0) m_m_mdt0_t9).2.2.1 f_m_mdt0_t9
      have u_m_mdt0_t10 := (x_t10.2.2.1 (m_md t0) m_m_mdt0_t9).2.2.2.1 u_m_mdt0_t9
      have m_m_mdt6_t10 : m_md t6 < m_md t10 := by omega
      have g_m_mdt6_t10 := (x_t10.2.2.1 (m_md t6) m_m_mdt6_t9).2.1 w_m_mdt6_t9 g_m_mdt6_t9
      have w_m_mdt6_t10 : W5 t10 (m_md t6) := (x_t10.2.2.1 (m_md t6) m_m_mdt6_t9).1 w_m_mdt6_t9
      have u_m_mdt6_t10 := (x_t10.2.2.1 (m_md t6) m_m_mdt6_t9).2.2.2.1 u_m_mdt6_t9
      refine Ok_ret (show Ok _ _ _ from ?_)
      refine Kp_push C_t10 (by omega) (fun t11 C_t11 x_t11 a_t11 b_t11 d_t11 w_t11 u_t11 v_t11 _ _ _ l_t11 => ?_)
      have e_t11 := C_t11.2.2.2.1
      have m_n_t11 : n < m_md t11 := by omega
      have g_n_t11 := (x_t11.2.2.1 n m_n_t10).2.1 w_n_t10 g_n_t10
      have w_n_t11 : W5 t11 n := (x_t11.2.2.1 n m_n_t10).1 w_n_t10
      have f_n_t11 : Fz t11 n := (x_t11.2.2.1 n m_n_t10).2.2.1 f_n_t10
      have m_m_mdt0_t11 : m_md t0 < m_md t11 := by omega
      have g_m_mdt0_t11 := (x_t11.2.2.1 (m_md t0) m_m_mdt0_t10).2.1 w_m_mdt0_t10 g_m_mdt0_t10
      have w_m_mdt0_t11 : W5 t11 (m_md t0) := (x_t11.2.2.1 (m_md t0) m_m_mdt0_t10).1 w_m_mdt0_t10
      have f_m_mdt0_t11 : Fz t11 (m_md t0) := (x_t11.2.2.1 (m_md t0) m_m_mdt0_t10).2.2.1 f_m_mdt0_t10
      have u_m_mdt0_t11 := (x_t11.2.2.1 (m_md t0) m_m_mdt0_t10).2.2.2.1 u_m_mdt0_t10
      have m_m_mdt6_t11 : m_md t6 < m_md t11 := by omega
      have g_m_mdt6_t11 := (x_t11.2.2.1 (m_md t6) m_m_mdt6_t10).2.1 w_m_mdt6_t10 g_m_mdt6_t10
      have w_m_mdt6_t11 : W5 t11 (m_md t6) := (x_t11.2.2.1 (m_md t6) m_m_mdt6_t10).1 w_m_mdt6_t10
      have u_m_mdt6_t11 := (x_t11.2.2.1 (m_md t6) m_m_mdt6_t10).2.2.2.1 u_m_mdt6_t10
      refine Kp_push C_t11 (by omega) (fun t12 C_t12 x_t12 a_t12 b_t12 d_t12 w_t12 u_t12 v_t12 _ _ _ l_t12 => ?_)
      have e_t12 := C_t12.2.2.2.1
      have m_n_t12 : n < m_md t12 := by omega
      have g_n_t12 := (x_t12.2.2.1 n m_n_t11).2.1 w_n_t11 g_n_t11
      have w_n_t12 : W5 t12 n := (x_t12.2.2.1 n m_n_t11).1 w_n_t11
      have f_n_t12 : Fz t12 n := (x_t12.2.2.1 n m_n_t11).2.2.1 f_n_t11
      have m_m_mdt0_t12 : m_md t0 < m_md t12 := by omega
      have g_m_mdt0_t12 := (x_t12.2.2.1 (m_md t0) m_m_mdt0_t11).2.1 w_m_mdt0_t11 g_m_mdt0_t11
      have w_m_mdt0_t12 : W5 t12 (m_md t0) := (x_t12.2.2.1 (m_md t0) m_m_mdt0_t11).1 w_m_mdt0_t11
      have f_m_mdt0_t12 : Fz t12 (m_md t0) := (x_t12.2.2.1 (m_md t0) m_m_mdt0_t11).2.2.1 f_m_mdt0_t11
      have u_m_mdt0_t12 := (x_t12.2.2.1 (m_md t0) m_m_mdt0_t11).2.2.2.1 u_m_mdt0_t11
      have m_m_mdt6_t12 : m_md t6 < m_md t12 := by omega
      have g_m_mdt6_t12 := (x_t12.2.2.1 (m_md t6) m_m_mdt6_t11).2.1 w_m_mdt6_t11 g_m_mdt6_t11
      have w_m_mdt6_t12 : W5 t12 (m_md t6) := (x_t12.2.2.1 (m_md t6) m_m_mdt6_t11).1 w_m_mdt6_t11
      have u_m_mdt6_t12 := (x_t12.2.2.1 (m_md t6) m_m_mdt6_t11).2.2.2.1 u_m_mdt6_t11
      refine Ok_ret (show Ok _ _ _ from ?_)
      refine Ok_ret (show Ok _ _ _ from ?_)
      refine Hv_mk C_t12 hT (by omega) (by omega) (by omega) ?_ ?_ ?_ (by omega) ?_ ?_
      · exact ⟨(Io_n (by decide) (by decide) m_m_mdt0_t12 g_m_mdt0_t12 w_m_mdt0_t12 (fun q => absurd q (by decide)) (fun q => absurd q (by decide))), (Nd_0 (by decide) Mo_nil), ⟨(Io_27 (by decide) m_n_t12 g_n_t12 w_n_t12), (Nd_0 (by decide) (Mo_cons (fun q => show n ≤ m_md t0 from by omega) Mo_nil)), Stk_step (N := n) (pop := (28, n, t)) (new := [(27, n, 28), (21, m_md t0, 0)]) F0 C_t12.1 (fun _ => m_n_t0) (fun q _ h => h (28, n, t) rfl) (fun _ => rfl) (fun y hy hk => ⟨rfl, (Mo_cons (fun q => show n ≤ n from by omega) (Mo_cons (fun q => show n ≤ m_md t0 from by omega) Mo_nil)) y hy hk⟩) (fun (h : 28 = 3 ∨ 28 = 18 ∨ 28 = 41) => absurd h (by decide)) (fun (h : 28 = 18) => absurd h (by decide)) (fun (h : 28 = 41 ∨ 28 = 42 ∨ 28 = 43) => absurd h (by decide)) r [] (fun y hy => absurd hy List.not_mem_nil) hS⟩⟩
      · exact (Aj_up (x := (21, m_md t0, 0)) (Aj_sub (y := (27, n, 28)) hJ (Nat.le_of_ble_eq_true rfl)) (Or.inl (Nat.le_of_ble_eq_true rfl)))
      · show m_dp t12 = (dlt 21 + (dlt 27 + sD r))
        have : dlt 21 = 0 := rfl; have : dlt 27 = 1 := rfl; have : dlt 28 = 1 := rfl; omega
      · show m_rw t12 = (rho 21 + (rho 27 + sR r))
        have : rho 21 = 0 := rfl; have : rho 27 = 0 := rfl; have : rho 28 = 0 := rfl; omega
      · show m_md t12 + (mu7 21 + (mu7 27 + sM r)) ≤ 3 * m_at t12 + 7 * (r.length + 1 + 1) + 10
        have : mu7 21 = 3 := rfl; have : mu7 27 = 4 := rfl; have : mu7 28 = 4 := rfl; omega
    · refine Kp_error C_t6 (by omega) (fun t13 C_t13 x_t13 a_t13 b_t13 d_t13 w_t13 wb_t13 u_t13 v_t13 _ _ _ l_t13 => ?_)
      have w_t13 := Nat.pos_of_ne_zero w_t13
      have e_t13 := C_t13.2.2.2.1
      have m_n_t13 : n < m_md t13 := by omega
      have g_n_t13 := (x_t13.2.2.1 n m_n_t6).2.1 w_n_t6 g_n_t6
      have w_n_t13 : W5 t13 n := (x_t13.2.2.1 n m_n_t6).1 w_n_t6
      have f_n_t13 : Fz t13 n := (x_t13.2.2.1 n m_n_t6).2.2.1 f_n_t6
      have m_m_mdt0_t13 : m_md t0 < m_md t13 := by omega
      have g_m_mdt0_t13 := (x_t13.2.2.1 (m_md t0) m_m_mdt0_t6).2.1 w_m_mdt0_t6 g_m_mdt0_t6
      have w_m_mdt0_t13 : W5 t13 (m_md t0) := (x_t13.2.2.1 (m_md t0) m_m_mdt0_t6).1 w_m_mdt0_t6
      have u_m_mdt0_t13 := (x_t13.2.2.1 (m_md t0) m_m_mdt0_t6).2.2.2.1 u_m_mdt0_t6
      refine Kp_child C_t13 m_m_mdt0_t13 g_m_mdt0_t13 w_m_mdt0_t13 (by omega) (by omega) (fun t14 C_t14 x_t14 a_t14 b_t14 d_t14 w_t14 u_t14 v_t14 wn_t14 fn_t14 fp_t14 _ l_t14 => ?_)
      have e_t14 := C_t14.2.2.2.1
      have m_n_t14 : n < m_md t14 := by omega
      have g_n_t14 := (x_t14.2.2.1 n m_n_t13).2.1 w_n_t13 g_n_t13
      have w_n_t14 : W5 t14 n := (x_t14.2.2.1 n m_n_t13).1 w_n_t13
      have f_n_t14 : Fz t14 n := (x_t14.2.2.1 n m_n_t13).2.2.1 f_n_t13
      have m_m_mdt0_t14 : m_md t0 < m_md t14 := by omega
      have g_m_mdt0_t14 := (x_t14.2.2.1 (m_md t0) m_m_mdt0_t13).2.1 w_m_mdt0_t13 g_m_mdt0_t13
      have w_m_mdt0_t14 : W5 t14 (m_md t0) := (x_t14.2.2.1 (m_md t0) m_m_mdt0_t13).1 w_m_mdt0_t13
      have u_m_mdt0_t14 := (x_t14.2.2.1 (m_md t0) m_m_mdt0_t13).2.2.2.1 u_m_mdt0_t13
      have f_m_mdt0_t14 : Fz t14 (m_md t0) := fp_t14
      have m_m_mdt13_t14 : m_md t13 < m_md t14 := by omega
      have g_m_mdt13_t14 : GdS t14 (m_md t13) := Or.inl fn_t14
      have w_m_mdt13_t14 : W5 t14 (m_md t13) := by unfold W5; rw [wn_t14]; decide
      have u_m_mdt13_t14 : Up t14 (m_md t13) := Or.inl fn_t14
      clear fp_t14 fn_t14 wn_t14
      refine Kp_at C_t14 (fun t15 C_t15 x_t15 a_t15 b_t15 d_t15 w_t15 u_t15 v_t15 _ _ _ l_t15 => ?_)
      have e_t15 := C_t15.2.2.2.1
      have m_n_t15 : n < m_md t15 := by omega
      have g_n_t15 := (x_t15.2.2.1 n m_n_t14).2.1 w_n_t14 g_n_t14
      have w_n_t15 : W5 t15 n := (x_t15.2.2.1 n m_n_t14).1 w_n_t14
      have f_n_t15 : Fz t15 n := (x_t15.2.2.1 n m_n_t14).2.2.1 f_n_t14
      have m_m_mdt0_t15 : m_md t0 < m_md t15 := by omega
      have g_m_mdt0_t15 := (x_t15.2.2.1 (m_md t0) m_m_mdt0_t14).2.1 w_m_mdt0_t14 g_m_mdt0_t14
      have w_m_mdt0_t15 : W5 t15 (m_md t0) := (x_t15.2.2.1 (m_md t0) m_m_mdt0_t14).1 w_m_mdt0_t14
      have f_m_mdt0_t15 : Fz t15 (m_md t0) := (x_t15.2.2.1 (m_md t0) m_m_mdt0_t14).2.2.1 f_m_mdt0_t14
      have u_m_mdt0_t15 := (x_t15.2.2.1 (m_md t0) m_m_mdt0_t14).2.2.2.1 u_m_mdt0_t14
      have m_m_mdt13_t15 : m_md t13 < m_md t15 := by omega
      have g_m_mdt13_t15 := (x_t15.2.2.1 (m_md t13) m_m_mdt13_t14).2.1 w_m_mdt13_t14 g_m_mdt13_t14
      have w_m_mdt13_t15 : W5 t15 (m_md t13) := (x_t15.2.2.1 (m_md t13) m_m_mdt13_t14).1 w_m_mdt13_t14
      have u_m_mdt13_t15 := (x_t15.2.2.1 (m_md t13) m_m_mdt13_t14).2.2.2.1 u_m_mdt13_t14
      refine Ok_ret (show Ok _ _ _ from ?_)
      refine Kp_push C_t15 (by omega) (fun t16 C_t16 x_t16 a_t16 b_t16 d_t16 w_t16 u_t16 v_t16 _ _ _ l_t16 => ?_)
      have e_t16 := C_t16.2.2.2.1
      have m_n_t16 : n < m_md t16 := by omega
      have g_n_t16 := (x_t16.2.2.1 n m_n_t15).2.1 w_n_t15 g_n_t15
      have w_n_t16 : W5 t16 n := (x_t16.2.2.1 n m_n_t15).1 w_n_t15
      have f_n_t16 : Fz t16 n := (x_t16.2.2.1 n m_n_t15).2.2.1 f_n_t15
      have m_m_mdt0_t16 : m_md t0 < m_md t16 := by omega
      have g_m_mdt0_t16 := (x_t16.2.2.1 (m_md t0) m_m_mdt0_t15).2.1 w_m_mdt0_t15 g_m_mdt0_t15
      have w_m_mdt0_t16 : W5 t16 (m_md t0) := (x_t16.2.2.1 (m_md t0) m_m_mdt0_t15).1 w_m_mdt0_t15
      have f_m_mdt0_t16 : Fz t16 (m_md t0) := (x_t16.2.2.1 (m_md t0) m_m_mdt0_t15).2.2.1 f_m_mdt0_t15
      have u_m_mdt0_t16 := (x_t16.2.2.1 (m_md t0) m_m_mdt0_t15).2.2.2.1 u_m_mdt0_t15
      have m_m_mdt13_t16 : m_md t13 < m_md t16 := by omega
      have g_m_mdt13_t16 := (x_t16.2.2.1 (m_md t13) m_m_mdt13_t15).2.1 w_m_mdt13_t15 g_m_mdt13_t15
      have w_m_mdt13_t16 : W5 t16 (m_md t13) := (x_t16.2.2.1 (m_md t13) m_m_mdt13_t15).1 w_m_mdt13_t15
      have u_m_mdt13_t16 := (x_t16.2.2.1 (m_md t13) m_m_mdt13_t15).2.2.2.1 u_m_mdt13_t15
      refine Kp_push C_t16 (by omega) (fun t17 C_t17 x_t17 a_t17 b_t17 d_t17 w_t17 u_t17 v_t17 _ _ _ l_t17 => ?_)
      have e_t17 := C_t17.2.2.2.1
      have m_n_t17 : n < m_md t17 := by omega
      have g_n_t17 := (x_t17.2.2.1 n m_n_t16).2.1 w_n_t16 g_n_t16
      have w_n_t17 : W5 t17 n := (x_t17.2.2.1 n m_n_t16).1 w_n_t16
      have f_n_t17 : Fz t17 n := (x_t17.2.2.1 n m_n_t16).2.2.1 f_n_t16
      have m_m_mdt0_t17 : m_md t0 < m_md t17 := by omega
      have g_m_mdt0_t17 := (x_t17.2.2.1 (m_md t0) m_m_mdt0_t16).2.1 w_m_mdt0_t16 g_m_mdt0_t16
      have w_m_mdt0_t17 : W5 t17 (m_md t0) := (x_t17.2.2.1 (m_md t0) m_m_mdt0_t16).1 w_m_mdt0_t16
      have f_m_mdt0_t17 : Fz t17 (m_md t0) := (x_t17.2.2.1 (m_md t0) m_m_mdt0_t16).2.2.1 f_m_mdt0_t16
      have u_m_mdt0_t17 := (x_t17.2.2.1 (m_md t0) m_m_mdt0_t16).2.2.2.1 u_m_mdt0_t16
      have m_m_mdt13_t17 : m_md t13 < m_md t17 := by omega
      have g_m_mdt13_t17 := (x_t17.2.2.1 (m_md t13) m_m_mdt13_t16).2.1 w_m_mdt13_t16 g_m_mdt13_t16
      have w_m_mdt13_t17 : W5 t17 (m_md t13) := (x_t17.2.2.1 (m_md t13) m_m_mdt13_t16).1 w_m_mdt13_t16
      have u_m_mdt13_t17 := (x_t17.2.2.1 (m_md t13) m_m_mdt13_t16).2.2.2.1 u_m_mdt13_t16
      refine Ok_ret (show Ok _ _ _ from ?_)
      refine Ok_ret (show Ok _ _ _ from ?_)
      exact Or.inl ⟨Nat.ne_of_gt (show 0 < m_wr t17 from by omega), by omega⟩

theorem S_29 {s : Mm} {n t : Nat} {r : List It} (H : Hv s ((29, n, t) :: r)) {E : Mm → Prop} : Ok Qh E (b_X6_step 29 n t (w_td s (m_td s - 1))) := by
  obtain ⟨hT, hc, hw0, ha, hC, hS, hJ, hdp, hdl, hrw, hmd, htd, hln, hm16, hI, hD⟩ := Hv_pop H
  have C_t0 := hC n
  generalize ht0 : w_td s (m_td s - 1) = t0 at *
  have b_t0 : m_md t0 = m_md s := by rw [← ht0]
  have a_t0 : m_at t0 = m_at s := by rw [← ht0]
  have d_t0 : m_dp t0 = m_dp s := by rw [← ht0]
  have w_t0 : m_wr t0 = m_wr s := by rw [← ht0]
  have u_t0 : m_rw t0 = m_rw s := by rw [← ht0]
  have v_t0 : m_td t0 = m_td s - 1 := by rw [← ht0]
  have e_t0 : m_ct t0 = m_ct s := by rw [← ht0]
  have F0 := C_t0.2.1
  obtain ⟨m_n_t0, g_n_t0, w_n_t0⟩ : n < m_md t0 ∧ GdS t0 n ∧ W5 t0 n := hI.2.1 rfl
  have ht : t < 4096 := hI.1.1 (show 29 ≠ 42 by decide) (show 29 ≠ 48 by decide)
  have hdp : m_dp s = dlt 29 + sD r := hdp
  have hrw : m_rw s = rho 29 + sR r := hrw
  have hmd : m_md s + mu7 29 + sM r ≤ 3 * m_at s + 7 * r.length + 17 := hmd
  have hand : t &&& 1 ≤ 1 := Nat.and_le_right
  have h01 : (0 &&& 1 : Nat) = 0 := rfl
  have h02 : (1 : Nat) * 256 = 256 := rfl
  have hq1 : dlt 29 = 0 := rfl
  have hq2 : rho 29 = 0 := rfl
  have hq3 : mu7 29 = 6 := rfl
  unfold b_X6_step
  refine Ok_ifl (by decide) (by decide) (fun _ => ?_) (fun q => absurd (by decide) q)
  refine Ok_ifl (by decide) (by decide) (fun q => absurd q (by decide)) (fun _ => ?_)
  refine Ok_ifl (by decide) (by decide) (fun q => absurd q (by decide)) (fun _ => ?_)
  refine Ok_ifl (by decide) (by decide) (fun _ => ?_) (fun q => absurd (by decide) q)
  refine Ok_bnc ?_
  try unfold b_X6_declaring
  refine Ok_ck (by decide) ?_
  refine Ok_ife (by decide) (by decide) (fun _ => ?_) (fun q => absurd (by decide) q)
  refine Ok_bnc ?_
  try unfold b_X6_names
  refine Kp_child C_t0 m_n_t0 g_n_t0 w_n_t0 (by omega) (by omega) (fun t3 C_t3 x_t3 a_t3 b_t3 d_t3 w_t3 u_t3 v_t3 wn_t3 fn_t3 fp_t3 _ l_t3 => ?_)
  have e_t3 := C_t3.2.2.2.1
  have m_n_t3 : n < m_md t3 := by omega
  have g_n_t3 := (x_t3.2.2.1 n m_n_t0).2.1 w_n_t0 g_n_t0
  have w_n_t3 : W5 t3 n := (x_t3.2.2.1 n m_n_t0).1 w_n_t0
  have f_n_t3 : Fz t3 n := fp_t3
  have m_m_mdt0_t3 : m_md t0 < m_md t3 := by omega
  have g_m_mdt0_t3 : GdS t3 (m_md t0) := Or.inl fn_t3
  have w_m_mdt0_t3 : W5 t3 (m_md t0) := by unfold W5; rw [wn_t3]; decide
  have u_m_mdt0_t3 : Up t3 (m_md t0) := Or.inl fn_t3
  clear fp_t3 fn_t3 wn_t3
  refine Ok_bnc ?_
  try unfold b_X6_name
  refine Kp_look C_t3 hT (by omega) ?_
  refine Ok_ife (Nat.lt_trans (lo_lt (C_t3.tk hT) _) (by decide)) (by decide) (fun q5 => ?_) (fun q5 => ?_)
  · refine Kp_child C_t3 m_m_mdt0_t3 g_m_mdt0_t3 w_m_mdt0_t3 (by omega) (by omega) (fun t6 C_t6 x_t6 a_t6 b_t6 d_t6 w_t6 u_t6 v_t6 wn_t6 fn_t6 fp_t6 _ l_t6 => ?_)
    have e_t6 := C_t6.2.2.2.1
    have m_n_t6 : n < m_md t6 := by omega
    have g_n_t6 := (x_t6.2.2.1 n m_n_t3).2.1 w_n_t3 g_n_t3
    have w_n_t6 : W5 t6 n := (x_t6.2.2.1 n m_n_t3).1 w_n_t3
    have f_n_t6 : Fz t6 n := (x_t6.2.2.1 n m_n_t3).2.2.1 f_n_t3
    have m_m_mdt0_t6 : m_md t0 < m_md t6 := by omega
    have g_m_mdt0_t6 := (x_t6.2.2.1 (m_md t0) m_m_mdt0_t3).2.1 w_m_mdt0_t3 g_m_mdt0_t3
    have w_m_mdt0_t6 : W5 t6 (m_md t0) := (x_t6.2.2.1 (m_md t0) m_m_mdt0_t3).1 w_m_mdt0_t3
    have u_m_mdt0_t6 := (x_t6.2.2.1 (m_md t0) m_m_mdt0_t3).2.2.2.1 u_m_mdt0_t3
    have f_m_mdt0_t6 : Fz t6 (m_md t0) := fp_t6
    have m_m_mdt3_t6 : m_md t3 < m_md t6 := by omega
    have g_m_mdt3_t6 : GdS t6 (m_md t3) := Or.inl fn_t6
    have w_m_mdt3_t6 : W5 t6 (m_md t3) := by unfold W5; rw [wn_t6]; decide
    have u_m_mdt3_t6 : Up t6 (m_md t3) := Or.inl fn_t6
    clear fp_t6 fn_t6 wn_t6
    have z_t7 : m_at t6 < m_ct t6 := lo_ne (Nat.ne_of_gt (show 0 < lo t6 (m_at t6) from by omega))
    refine Kp_at C_t6 (fun t7 C_t7 x_t7 a_t7 b_t7 d_t7 w_t7 u_t7 v_t7 _ _ _ l_t7 => ?_)
    have e_t7 := C_t7.2.2.2.1
    have m_n_t7 : n < m_md t7 := by omega
    have g_n_t7 := (x_t7.2.2.1 n m_n_t6).2.1 w_n_t6 g_n_t6
    have w_n_t7 : W5 t7 n := (x_t7.2.2.1 n m_n_t6).1 w_n_t6
    have f_n_t7 : Fz t7 n := (x_t7.2.2.1 n m_n_t6).2.2.1 f_n_t6
    have m_m_mdt0_t7 : m_md t0 < m_md t7 := by omega
    have g_m_mdt0_t7 := (x_t7.2.2.1 (m_md t0) m_m_mdt0_t6).2.1 w_m_mdt0_t6 g_m_mdt0_t6
    have w_m_mdt0_t7 : W5 t7 (m_md t0) := (x_t7.2.2.1 (m_md t0) m_m_mdt0_t6).1 w_m_mdt0_t6
    have f_m_mdt0_t7 : Fz t7 (m_md t0) := (x_t7.2.2.1 (m_md t0) m_m_mdt0_t6).2.2.1 f_m_mdt0_t6
    have u_m_mdt0_t7 := (x_t7.2.2.1 (m_md t0) m_m_mdt0_t6).2.2.2.1 u_m_mdt0_t6
    have m_m_mdt3_t7 : m_md t3 < m_md t7 := by omega
    have g_m_mdt3_t7 := (x_t7.2.2.1 (m_md t3) m_m_mdt3_t6).2.1 w_m_mdt3_t6 g_m_mdt3_t6
    have w_m_mdt3_t7 : W5 t7 (m_md t3) := (x_t7.2.2.1 (m_md t3) m_m_mdt3_t6).1 w_m_mdt3_t6
    have u_m_mdt3_t7 := (x_t7.2.2.1 (m_md t3) m_m_mdt3_t6).2.2.2.1 u_m_mdt3_t6
    refine Ok_ret (show Ok _ _ _ from ?_)
    refine Kp_push C_t7 (by omega) (fun t8 C_t8 x_t8 a_t8 b_t8 d_t8 w_t8 u_t8 v_t8 _ _ _ l_t8 => ?_)
    have e_t8 := C_t8.2.2.2.1
    have m_n_t8 : n < m_md t8 := by omega
    have g_n_t8 := (x_t8.2.2.1 n m_n_t7).2.1 w_n_t7 g_n_t7
    have w_n_t8 : W5 t8 n := (x_t8.2.2.1 n m_n_t7).1 w_n_t7
    have f_n_t8 : Fz t8 n := (x_t8.2.2.1 n m_n_t7).2.2.1 f_n_t7
    have m_m_mdt0_t8 : m_md t0 < m_md t8 := by omega
    have g_m_mdt0_t8 := (x_t8.2.2.1 (m_md t0) m_m_mdt0_t7).2.1 w_m_mdt0_t7 g_m_mdt0_t7
    have w_m_mdt0_t8 : W5 t8 (m_md t0) := (x_t8.2.2.1 (m_md t0) m_m_mdt0_t7).1 w_m_mdt0_t7
    have f_m_mdt0_t8 : Fz t8 (m_md t0) := (x_t8.2.2.1 (m_md t0) m_m_mdt0_t7).2.2.1 f_m_mdt0_t7
    have u_m_mdt0_t8 := (x_t8.2.2.1 (m_md t0) m_m_mdt0_t7).2.2.2.1 u_m_mdt0_t7
    have m_m_mdt3_t8 : m_md t3 < m_md t8 := by omega
    have g_m_mdt3_t8 := (x_t8.2.2.1 (m_md t3) m_m_mdt3_t7).2.1 w_m_mdt3_t7 g_m_mdt3_t7
    have w_m_mdt3_t8 : W5 t8 (m_md t3) := (x_t8.2.2.1 (m_md t3) m_m_mdt3_t7).1 w_m_mdt3_t7
    have u_m_mdt3_t8 := (x_t8.2.2.1 (m_md t3) m_m_mdt3_t7).2.2.2.1 u_m_mdt3_t7
    refine Ok_ret (show Ok _ _ _ from ?_)
    refine Ok_ret (show Ok _ _ _ from ?_)
    refine Hv_mk C_t8 hT (by omega) (by omega) (by omega) ?_ ?_ ?_ (by omega) ?_ ?_
    · exact ⟨(Io_n (by decide) (by decide) m_m_mdt0_t8 g_m_mdt0_t8 w_m_mdt0_t8 (fun q => absurd q (by decide)) (fun q => absurd q (by decide))), (Nd_0 (by decide) Mo_nil), Stk_step (N := n) (pop := (29, n, t)) (new := [(30, m_md t0, 0)]) F0 C_t8.1 (fun _ => m_n_t0) (fun q _ h => h (29, n, t) rfl) (fun _ => rfl) (fun y hy hk => ⟨rfl, (Mo_cons (fun q => show n ≤ m_md t0 from by omega) Mo_nil) y hy hk⟩) (fun (h : 29 = 3 ∨ 29 = 18 ∨ 29 = 41) => absurd h (by decide)) (fun (h : 29 = 18) => absurd h (by decide)) (fun (h : 29 = 41 ∨ 29 = 42 ∨ 29 = 43) => absurd h (by decide)) r [] (fun y hy => absurd hy List.not_mem_nil) hS⟩
    · exact (Aj_sub (y := (30, m_md t0, 0)) hJ (Nat.le_of_ble_eq_true rfl))
    · show m_dp t8 = (dlt 30 + sD r)
      have : dlt 29 = 0 := rfl; have : dlt 30 = 0 := rfl; omega
    · show m_rw t8 = (rho 30 + sR r)
      have : rho 29 = 0 := rfl; have : rho 30 = 0 := rfl; omega
    · show m_md t8 + (mu7 30 + sM r) ≤ 3 * m_at t8 + 7 * (r.length + 1) + 10
      have : mu7 29 = 6 := rfl; have : mu7 30 = 7 := rfl; omega
  · refine Kp_error C_t3 (by omega) (fun t9 C_t9 x_t9 a_t9 b_t9 d_t9 w_t9 wb_t9 u_t9 v_t9 _ _ _ l_t9 => ?_)
    have w_t9 := Nat.pos_of_ne_zero w_t9
    have e_t9 := C_t9.2.2.2.1
    have m_n_t9 : n < m_md t9 := by omega
    have g_n_t9 := (x_t9.2.2.1 n m_n_t3).2.1 w_n_t3 g_n_t3
    have w_n_t9 : W5 t9 n := (x_t9.2.2.1 n m_n_t3).1 w_n_t3
    have f_n_t9 : Fz t9 n := (x_t9.2.2.1 n m_n_t3).2.2.1 f_n_t3
    have m_m_mdt0_t9 : m_md t0 < m_md t9 := by omega
    have g_m_mdt0_t9 := (x_t9.2.2.1 (m_md t0) m_m_mdt0_t3).2.1 w_m_mdt0_t3 g_m_mdt0_t3
    have w_m_mdt0_t9 : W5 t9 (m_md t0) := (x_t9.2.2.1 (m_md t0) m_m_mdt0_t3).1 w_m_mdt0_t3
    have u_m_mdt0_t9 := (x_t9.2.2.1 (m_md t0) m_m_mdt0_t3).2.2.2.1 u_m_mdt0_t3
    refine Kp_child C_t9 m_m_mdt0_t9 g_m_mdt0_t9 w_m_mdt0_t9 (by omega) (by omega) (fun t10 C_t10 x_t10 a_t10 b_t10 d_t10 w_t10 u_t10 v_t10 wn_t10 fn_t10 fp_t10 _ l_t10 => ?_)
    have e_t10 := C_t10.2.2.2.1
    have m_n_t10 : n < m_md t10 := by omega
    have g_n_t10 := (x_t10.2.2.1 n m_n_t9).2.1 w_n_t9 g_n_t9
    have w_n_t10 : W5 t10 n := (x_t10.2.2.1 n m_n_t9).1 w_n_t9
    have f_n_t10 : Fz t10 n := (x_t10.2.2.1 n m_n_t9).2.2.1 f_n_t9
    have m_m_mdt0_t10 : m_md t0 < m_md t10 := by omega
    have g_m_mdt0_t10 := (x_t10.2.2.1 (m_md t0) m_m_mdt0_t9).2.1 w_m_mdt0_t9 g_m_mdt0_t9
    have w_m_mdt0_t10 : W5 t10 (m_md t0) := (x_t10.2.2.1 (m_md t0) m_m_mdt0_t9).1 w_m_mdt0_t9
    have u_m_mdt0_t10 := (x_t10.2.2.1 (m_md t0) m_m_mdt0_t9).2.2.2.1 u_m_mdt0_t9
    have f_m_mdt0_t10 : Fz t10 (m_md t0) := fp_t10
    have m_m_mdt9_t10 : m_md t9 < m_md t10 := by omega
    have g_m_mdt9_t10 : GdS t10 (m_md t9) := Or.inl fn_t10
    have w_m_mdt9_t10 : W5 t10 (m_md t9) := by unfold W5; rw [wn_t10]; decide
    have u_m_mdt9_t10 : Up t10 (m_md t9) := Or.inl fn_t10
    clear fp_t10 fn_t10 wn_t10
    refine Kp_at C_t10 (fun t11 C_t11 x_t11 a_t11 b_t11 d_t11 w_t11 u_t11 v_t11 _ _ _ l_t11 => ?_)
    have e_t11 := C_t11.2.2.2.1
    have m_n_t11 : n < m_md t11 := by omega
    have g_n_t11 := (x_t11.2.2.1 n m_n_t10).2.1 w_n_t10 g_n_t10
    have w_n_t11 : W5 t11 n := (x_t11.2.2.1 n m_n_t10).1 w_n_t10
    have f_n_t11 : Fz t11 n := (x_t11.2.2.1 n m_n_t10).2.2.1 f_n_t10
    have m_m_mdt0_t11 : m_md t0 < m_md t11 := by omega
    have g_m_mdt0_t11 := (x_t11.2.2.1 (m_md t0) m_m_mdt0_t10).2.1 w_m_mdt0_t10 g_m_mdt0_t10
    have w_m_mdt0_t11 : W5 t11 (m_md t0) := (x_t11.2.2.1 (m_md t0) m_m_mdt0_t10).1 w_m_mdt0_t10
    have f_m_mdt0_t11 : Fz t11 (m_md t0) := (x_t11.2.2.1 (m_md t0) m_m_mdt0_t10).2.2.1 f_m_mdt0_t10
    have u_m_mdt0_t11 := (x_t11.2.2.1 (m_md t0) m_m_mdt0_t10).2.2.2.1 u_m_mdt0_t10
    have m_m_mdt9_t11 : m_md t9 < m_md t11 := by omega
    have g_m_mdt9_t11 := (x_t11.2.2.1 (m_md t9) m_m_mdt9_t10).2.1 w_m_mdt9_t10 g_m_mdt9_t10
    have w_m_mdt9_t11 : W5 t11 (m_md t9) := (x_t11.2.2.1 (m_md t9) m_m_mdt9_t10).1 w_m_mdt9_t10
    have u_m_mdt9_t11 := (x_t11.2.2.1 (m_md t9) m_m_mdt9_t10).2.2.2.1 u_m_mdt9_t10
    refine Ok_ret (show Ok _ _ _ from ?_)
    refine Kp_push C_t11 (by omega) (fun t12 C_t12 x_t12 a_t12 b_t12 d_t12 w_t12 u_t12 v_t12 _ _ _ l_t12 => ?_)
    have e_t12 := C_t12.2.2.2.1
    have m_n_t12 : n < m_md t12 := by omega
    have g_n_t12 := (x_t12.2.2.1 n m_n_t11).2.1 w_n_t11 g_n_t11
    have w_n_t12 : W5 t12 n := (x_t12.2.2.1 n m_n_t11).1 w_n_t11
    have f_n_t12 : Fz t12 n := (x_t12.2.2.1 n m_n_t11).2.2.1 f_n_t11
    have m_m_mdt0_t12 : m_md t0 < m_md t12 := by omega
    have g_m_mdt0_t12 := (x_t12.2.2.1 (m_md t0) m_m_mdt0_t11).2.1 w_m_mdt0_t11 g_m_mdt0_t11
    have w_m_mdt0_t12 : W5 t12 (m_md t0) := (x_t12.2.2.1 (m_md t0) m_m_mdt0_t11).1 w_m_mdt0_t11
    have f_m_mdt0_t12 : Fz t12 (m_md t0) := (x_t12.2.2.1 (m_md t0) m_m_mdt0_t11).2.2.1 f_m_mdt0_t11
    have u_m_mdt0_t12 := (x_t12.2.2.1 (m_md t0) m_m_mdt0_t11).2.2.2.1 u_m_mdt0_t11
    have m_m_mdt9_t12 : m_md t9 < m_md t12 := by omega
    have g_m_mdt9_t12 := (x_t12.2.2.1 (m_md t9) m_m_mdt9_t11).2.1 w_m_mdt9_t11 g_m_mdt9_t11
    have w_m_mdt9_t12 : W5 t12 (m_md t9) := (x_t12.2.2.1 (m_md t9) m_m_mdt9_t11).1 w_m_mdt9_t11
    have u_m_mdt9_t12 := (x_t12.2.2.1 (m_md t9) m_m_mdt9_t11).2.2.2.1 u_m_mdt9_t11
    refine Ok_ret (show Ok _ _ _ from ?_)
    refine Ok_ret (show Ok _ _ _ from ?_)
    exact Or.inl ⟨Nat.ne_of_gt (show 0 < m_wr t12 from by omega), by omega⟩

theorem S_30 {s : Mm} {n t : Nat} {r : List It} (H : Hv s ((30, n, t) :: r)) {E : Mm → Prop} : Ok Qh E (b_X6_step 30 n t (w_td s (m_td s - 1))) := by
  obtain ⟨hT, hc, hw0, ha, hC, hS, hJ, hdp, hdl, hrw, hmd, htd, hln, hm16, hI, hD⟩ := Hv_pop H
  have C_t0 := hC n
  generalize ht0 : w_td s (m_td s - 1) = t0 at *
  have b_t0 : m_md t0 = m_md s := by rw [← ht0]
  have a_t0 : m_at t0 = m_at s := by rw [← ht0]
  have d_t0 : m_dp t0 = m_dp s := by rw [← ht0]
  have w_t0 : m_wr t0 = m_wr s := by rw [← ht0]
  have u_t0 : m_rw t0 = m_rw s := by rw [← ht0]
  have v_t0 : m_td t0 = m_td s - 1 := by rw [← ht0]
  have e_t0 : m_ct t0 = m_ct s := by rw [← ht0]
  have F0 := C_t0.2.1
  obtain ⟨m_n_t0, g_n_t0, w_n_t0⟩ : n < m_md t0 ∧ GdS t0 n ∧ W5 t0 n := hI.2.1 rfl
  have ht : t < 4096 := hI.1.1 (show 30 ≠ 42 by decide) (show 30 ≠ 48 by decide)
  have hdp : m_dp s = dlt 30 + sD r := hdp
  have hrw : m_rw s = rho 30 + sR r := hrw
  have hmd : m_md s + mu7 30 + sM r ≤ 3 * m_at s + 7 * r.length + 17 := hmd
  have hand : t &&& 1 ≤ 1 := Nat.and_le_right
  have h01 : (0 &&& 1 : Nat) = 0 := rfl
  have h02 : (1 : Nat) * 256 = 256 := rfl
  have hq1 : dlt 30 = 0 := rfl
  have hq2 : rho 30 = 0 := rfl
  have hq3 : mu7 30 = 7 := rfl
  unfold b_X6_step
  refine Ok_ifl (by decide) (by decide) (fun _ => ?_) (fun q => absurd (by decide) q)
  refine Ok_ifl (by decide) (by decide) (fun q => absurd q (by decide)) (fun _ => ?_)
  refine Ok_ifl (by decide) (by decide) (fun q => absurd q (by decide)) (fun _ => ?_)
  refine Ok_ifl (by decide) (by decide) (fun _ => ?_) (fun q => absurd (by decide) q)
  refine Ok_bnc ?_
  try unfold b_X6_declaring
  refine Ok_ck (by decide) ?_
  refine Ok_ife (by decide) (by decide) (fun q => absurd q (by decide)) (fun _ => ?_)
  refine Ok_ife (by decide) (by decide) (fun _ => ?_) (fun q => absurd (by decide) q)
  refine Ok_bnc ?_
  try unfold b_X6_namesMore
  refine Kp_look C_t0 hT (by omega) ?_
  refine Ok_ife (Nat.lt_trans (lo_lt (C_t0.tk hT) _) (by decide)) (by decide) (fun q3 => ?_) (fun q3 => ?_)
  · have z_t4 : m_at t0 < m_ct t0 := lo_ne (Nat.ne_of_gt (show 0 < lo t0 (m_at t0) from by omega))
    refine Kp_at C_t0 (fun t4 C_t4 x_t4 a_t4 b_t4 d_t4 w_t4 u_t4 v_t4 _ _ _ l_t4 => ?_)
    have e_t4 := C_t4.2.2.2.1
    have m_n_t4 : n < m_md t4 := by omega
    have g_n_t4 := (x_t4.2.2.1 n m_n_t0).2.1 w_n_t0 g_n_t0
    have w_n_t4 : W5 t4 n := (x_t4.2.2.1 n m_n_t0).1 w_n_t0
    refine Ok_bnc ?_
    try unfold b_X6_name
    refine Kp_look C_t4 hT (by omega) ?_
    refine Ok_ife (Nat.lt_trans (lo_lt (C_t4.tk hT) _) (by decide)) (by decide) (fun q6 => ?_) (fun q6 => ?_)
    · refine Kp_child C_t4 m_n_t4 g_n_t4 w_n_t4 (by omega) (by omega) (fun t7 C_t7 x_t7 a_t7 b_t7 d_t7 w_t7 u_t7 v_t7 wn_t7 fn_t7 fp_t7 _ l_t7 => ?_)
      have e_t7 := C_t7.2.2.2.1
      have m_n_t7 : n < m_md t7 := by omega
      have g_n_t7 := (x_t7.2.2.1 n m_n_t4).2.1 w_n_t4 g_n_t4
      have w_n_t7 : W5 t7 n := (x_t7.2.2.1 n m_n_t4).1 w_n_t4
      have f_n_t7 : Fz t7 n := fp_t7
      have m_m_mdt4_t7 : m_md t4 < m_md t7 := by omega
      have g_m_mdt4_t7 : GdS t7 (m_md t4) := Or.inl fn_t7
      have w_m_mdt4_t7 : W5 t7 (m_md t4) := by unfold W5; rw [wn_t7]; decide
      have u_m_mdt4_t7 : Up t7 (m_md t4) := Or.inl fn_t7
      clear fp_t7 fn_t7 wn_t7
      have z_t8 : m_at t7 < m_ct t7 := lo_ne (Nat.ne_of_gt (show 0 < lo t7 (m_at t7) from by omega))
      refine Kp_at C_t7 (fun t8 C_t8 x_t8 a_t8 b_t8 d_t8 w_t8 u_t8 v_t8 _ _ _ l_t8 => ?_)
      have e_t8 := C_t8.2.2.2.1
      have m_n_t8 : n < m_md t8 := by omega
      have g_n_t8 := (x_t8.2.2.1 n m_n_t7).2.1 w_n_t7 g_n_t7
      have w_n_t8 : W5 t8 n := (x_t8.2.2.1 n m_n_t7).1 w_n_t7
      have f_n_t8 : Fz t8 n := (x_t8.2.2.1 n m_n_t7).2.2.1 f_n_t7
      have m_m_mdt4_t8 : m_md t4 < m_md t8 := by omega
      have g_m_mdt4_t8 := (x_t8.2.2.1 (m_md t4) m_m_mdt4_t7).2.1 w_m_mdt4_t7 g_m_mdt4_t7
      have w_m_mdt4_t8 : W5 t8 (m_md t4) := (x_t8.2.2.1 (m_md t4) m_m_mdt4_t7).1 w_m_mdt4_t7
      have u_m_mdt4_t8 := (x_t8.2.2.1 (m_md t4) m_m_mdt4_t7).2.2.2.1 u_m_mdt4_t7
      refine Ok_ret (show Ok _ _ _ from ?_)
      refine Kp_push C_t8 (by omega) (fun t9 C_t9 x_t9 a_t9 b_t9 d_t9 w_t9 u_t9 v_t9 _ _ _ l_t9 => ?_)
      have e_t9 := C_t9.2.2.2.1
      have m_n_t9 : n < m_md t9 := by omega
      have g_n_t9 := (x_t9.2.2.1 n m_n_t8).2.1 w_n_t8 g_n_t8
      have w_n_t9 : W5 t9 n := (x_t9.2.2.1 n m_n_t8).1 w_n_t8
      have f_n_t9 : Fz t9 n := (x_t9.2.2.1 n m_n_t8).2.2.1 f_n_t8
      have m_m_mdt4_t9 : m_md t4 < m_md t9 := by omega
      have g_m_mdt4_t9 := (x_t9.2.2.1 (m_md t4) m_m_mdt4_t8).2.1 w_m_mdt4_t8 g_m_mdt4_t8
      have w_m_mdt4_t9 : W5 t9 (m_md t4) := (x_t9.2.2.1 (m_md t4) m_m_mdt4_t8).1 w_m_mdt4_t8
      have u_m_mdt4_t9 := (x_t9.2.2.1 (m_md t4) m_m_mdt4_t8).2.2.2.1 u_m_mdt4_t8
      refine Ok_ret (show Ok _ _ _ from ?_)
      refine Ok_ret (show Ok _ _ _ from ?_)
      refine Hv_mk C_t9 hT (by omega) (by omega) (by omega) ?_ ?_ ?_ (by omega) ?_ ?_
      · exact ⟨(Io_n (by decide) (by decide) m_n_t9 g_n_t9 w_n_t9 (fun q => absurd q (by decide)) (fun q => absurd q (by decide))), (Nd_0 (by decide) Mo_nil), Stk_step (N := n) (pop := (30, n, t)) (new := [(30, n, 0)]) F0 C_t9.1 (fun _ => m_n_t0) (fun q _ h => h (30, n, t) rfl) (fun _ => rfl) (fun y hy hk => ⟨rfl, (Mo_cons (fun q => show n ≤ n from by omega) Mo_nil) y hy hk⟩) (fun (h : 30 = 3 ∨ 30 = 18 ∨ 30 = 41) => absurd h (by decide)) (fun (h : 30 = 18) => absurd h (by decide)) (fun (h : 30 = 41 ∨ 30 = 42 ∨ 30 = 43) => absurd h (by decide)) r [] (fun y hy => absurd hy List.not_mem_nil) hS⟩
      · exact (Aj_sub (y := (30, n, 0)) hJ (Nat.le_of_ble_eq_true rfl))
      · show m_dp t9 = (dlt 30 + sD r)
        have : dlt 30 = 0 := rfl; omega
      · show m_rw t9 = (rho 30 + sR r)
        have : rho 30 = 0 := rfl; omega
      · show m_md t9 + (mu7 30 + sM r) ≤ 3 * m_at t9 + 7 * (r.length + 1) + 10
        have : mu7 30 = 7 := rfl; omega
    · refine Kp_error C_t4 (by omega) (fun t10 C_t10 x_t10 a_t10 b_t10 d_t10 w_t10 wb_t10 u_t10 v_t10 _ _ _ l_t10 => ?_)
      have w_t10 := Nat.pos_of_ne_zero w_t10
      have e_t10 := C_t10.2.2.2.1
      have m_n_t10 : n < m_md t10 := by omega
      have g_n_t10 := (x_t10.2.2.1 n m_n_t4).2.1 w_n_t4 g_n_t4
      have w_n_t10 : W5 t10 n := (x_t10.2.2.1 n m_n_t4).1 w_n_t4
      refine Kp_child C_t10 m_n_t10 g_n_t10 w_n_t10 (by omega) (by omega) (fun t11 C_t11 x_t11 a_t11 b_t11 d_t11 w_t11 u_t11 v_t11 wn_t11 fn_t11 fp_t11 _ l_t11 => ?_)
      have e_t11 := C_t11.2.2.2.1
      have m_n_t11 : n < m_md t11 := by omega
      have g_n_t11 := (x_t11.2.2.1 n m_n_t10).2.1 w_n_t10 g_n_t10
      have w_n_t11 : W5 t11 n := (x_t11.2.2.1 n m_n_t10).1 w_n_t10
      have f_n_t11 : Fz t11 n := fp_t11
      have m_m_mdt10_t11 : m_md t10 < m_md t11 := by omega
      have g_m_mdt10_t11 : GdS t11 (m_md t10) := Or.inl fn_t11
      have w_m_mdt10_t11 : W5 t11 (m_md t10) := by unfold W5; rw [wn_t11]; decide
      have u_m_mdt10_t11 : Up t11 (m_md t10) := Or.inl fn_t11
      clear fp_t11 fn_t11 wn_t11
      refine Kp_at C_t11 (fun t12 C_t12 x_t12 a_t12 b_t12 d_t12 w_t12 u_t12 v_t12 _ _ _ l_t12 => ?_)
      have e_t12 := C_t12.2.2.2.1
      have m_n_t12 : n < m_md t12 := by omega
      have g_n_t12 := (x_t12.2.2.1 n m_n_t11).2.1 w_n_t11 g_n_t11
      have w_n_t12 : W5 t12 n := (x_t12.2.2.1 n m_n_t11).1 w_n_t11
      have f_n_t12 : Fz t12 n := (x_t12.2.2.1 n m_n_t11).2.2.1 f_n_t11
      have m_m_mdt10_t12 : m_md t10 < m_md t12 := by omega
      have g_m_mdt10_t12 := (x_t12.2.2.1 (m_md t10) m_m_mdt10_t11).2.1 w_m_mdt10_t11 g_m_mdt10_t11
      have w_m_mdt10_t12 : W5 t12 (m_md t10) := (x_t12.2.2.1 (m_md t10) m_m_mdt10_t11).1 w_m_mdt10_t11
      have u_m_mdt10_t12 := (x_t12.2.2.1 (m_md t10) m_m_mdt10_t11).2.2.2.1 u_m_mdt10_t11
      refine Ok_ret (show Ok _ _ _ from ?_)
      refine Kp_push C_t12 (by omega) (fun t13 C_t13 x_t13 a_t13 b_t13 d_t13 w_t13 u_t13 v_t13 _ _ _ l_t13 => ?_)
      have e_t13 := C_t13.2.2.2.1
      have m_n_t13 : n < m_md t13 := by omega
      have g_n_t13 := (x_t13.2.2.1 n m_n_t12).2.1 w_n_t12 g_n_t12
      have w_n_t13 : W5 t13 n := (x_t13.2.2.1 n m_n_t12).1 w_n_t12
      have f_n_t13 : Fz t13 n := (x_t13.2.2.1 n m_n_t12).2.2.1 f_n_t12
      have m_m_mdt10_t13 : m_md t10 < m_md t13 := by omega
      have g_m_mdt10_t13 := (x_t13.2.2.1 (m_md t10) m_m_mdt10_t12).2.1 w_m_mdt10_t12 g_m_mdt10_t12
      have w_m_mdt10_t13 : W5 t13 (m_md t10) := (x_t13.2.2.1 (m_md t10) m_m_mdt10_t12).1 w_m_mdt10_t12
      have u_m_mdt10_t13 := (x_t13.2.2.1 (m_md t10) m_m_mdt10_t12).2.2.2.1 u_m_mdt10_t12
      refine Ok_ret (show Ok _ _ _ from ?_)
      refine Ok_ret (show Ok _ _ _ from ?_)
      exact Or.inl ⟨Nat.ne_of_gt (show 0 < m_wr t13 from by omega), by omega⟩
  · refine Ok_ret (show Ok _ _ _ from ?_)
    refine Ok_ret (show Ok _ _ _ from ?_)
    refine Hv_mk C_t0 hT (by omega) (by omega) (by omega) ?_ ?_ ?_ (by omega) ?_ ?_
    · exact Stk_step (N := n) (pop := (30, n, t)) (new := []) F0 C_t0.1 (fun _ => m_n_t0) (fun q _ h => h (30, n, t) rfl) (fun _ => rfl) (fun y hy hk => ⟨rfl, Mo_nil (n := n) y hy hk⟩) (fun (h : 30 = 3 ∨ 30 = 18 ∨ 30 = 41) => absurd h (by decide)) (fun (h : 30 = 18) => absurd h (by decide)) (fun (h : 30 = 41 ∨ 30 = 42 ∨ 30 = 43) => absurd h (by decide)) r [] (fun y hy => absurd hy List.not_mem_nil) hS
    · exact Aj_tl hJ
    · show m_dp t0 = sD r
      have : dlt 30 = 0 := rfl; omega
    · show m_rw t0 = sR r
      have : rho 30 = 0 := rfl; omega
    · show m_md t0 + sM r ≤ 3 * m_at t0 + 7 * (r.length) + 10
      have : mu7 30 = 7 := rfl; omega

theorem S_32 {s : Mm} {n t : Nat} {r : List It} (H : Hv s ((32, n, t) :: r)) {E : Mm → Prop} : Ok Qh E (b_X6_step 32 n t (w_td s (m_td s - 1))) := by
  obtain ⟨hT, hc, hw0, ha, hC, hS, hJ, hdp, hdl, hrw, hmd, htd, hln, hm16, hI, hD⟩ := Hv_pop H
  have C_t0 := hC n
  generalize ht0 : w_td s (m_td s - 1) = t0 at *
  have b_t0 : m_md t0 = m_md s := by rw [← ht0]
  have a_t0 : m_at t0 = m_at s := by rw [← ht0]
  have d_t0 : m_dp t0 = m_dp s := by rw [← ht0]
  have w_t0 : m_wr t0 = m_wr s := by rw [← ht0]
  have u_t0 : m_rw t0 = m_rw s := by rw [← ht0]
  have v_t0 : m_td t0 = m_td s - 1 := by rw [← ht0]
  have e_t0 : m_ct t0 = m_ct s := by rw [← ht0]
  have F0 := C_t0.2.1
  obtain ⟨m_n_t0, g_n_t0, w_n_t0⟩ : n < m_md t0 ∧ GdS t0 n ∧ W5 t0 n := hI.2.1 rfl
  have ht : t < 4096 := hI.1.1 (show 32 ≠ 42 by decide) (show 32 ≠ 48 by decide)
  have hdp : m_dp s = dlt 32 + sD r := hdp
  have hrw : m_rw s = rho 32 + sR r := hrw
  have hmd : m_md s + mu7 32 + sM r ≤ 3 * m_at s + 7 * r.length + 17 := hmd
  have hand : t &&& 1 ≤ 1 := Nat.and_le_right
  have h01 : (0 &&& 1 : Nat) = 0 := rfl
  have h02 : (1 : Nat) * 256 = 256 := rfl
  have hq1 : dlt 32 = 0 := rfl
  have hq2 : rho 32 = 0 := rfl
  have hq3 : mu7 32 = 7 := rfl
  unfold b_X6_step
  refine Ok_ifl (by decide) (by decide) (fun _ => ?_) (fun q => absurd (by decide) q)
  refine Ok_ifl (by decide) (by decide) (fun q => absurd q (by decide)) (fun _ => ?_)
  refine Ok_ifl (by decide) (by decide) (fun q => absurd q (by decide)) (fun _ => ?_)
  refine Ok_ifl (by decide) (by decide) (fun _ => ?_) (fun q => absurd (by decide) q)
  refine Ok_bnc ?_
  try unfold b_X6_declaring
  refine Ok_ck (by decide) ?_
  refine Ok_ife (by decide) (by decide) (fun q => absurd q (by decide)) (fun _ => ?_)
  refine Ok_ife (by decide) (by decide) (fun q => absurd q (by decide)) (fun _ => ?_)
  refine Ok_ife (by decide) (by decide) (fun q => absurd q (by decide)) (fun _ => ?_)
  refine Ok_ife (by decide) (by decide) (fun _ => ?_) (fun q => absurd (by decide) q)
  refine Ok_bnc ?_
  try unfold b_X6_exprsMore
  refine Kp_look C_t0 hT (by omega) ?_
  refine Ok_ife (Nat.lt_trans (lo_lt (C_t0.tk hT) _) (by decide)) (by decide) (fun q3 => ?_) (fun q3 => ?_)
  · have z_t4 : m_at t0 < m_ct t0 := lo_ne (Nat.ne_of_gt (show 0 < lo t0 (m_at t0) from by omega))
    refine Kp_at C_t0 (fun t4 C_t4 x_t4 a_t4 b_t4 d_t4 w_t4 u_t4 v_t4 _ _ _ l_t4 => ?_)
    have e_t4 := C_t4.2.2.2.1
    have m_n_t4 : n < m_md t4 := by omega
    have g_n_t4 := (x_t4.2.2.1 n m_n_t0).2.1 w_n_t0 g_n_t0
    have w_n_t4 : W5 t4 n := (x_t4.2.2.1 n m_n_t0).1 w_n_t0
    refine Kp_push C_t4 (by omega) (fun t5 C_t5 x_t5 a_t5 b_t5 d_t5 w_t5 u_t5 v_t5 _ _ _ l_t5 => ?_)
    have e_t5 := C_t5.2.2.2.1
    have m_n_t5 : n < m_md t5 := by omega
    have g_n_t5 := (x_t5.2.2.1 n m_n_t4).2.1 w_n_t4 g_n_t4
    have w_n_t5 : W5 t5 n := (x_t5.2.2.1 n m_n_t4).1 w_n_t4
    refine Ok_bnc ?_
    try unfold b_X6_expression
    refine Kp_push C_t5 (by omega) (fun t7 C_t7 x_t7 a_t7 b_t7 d_t7 w_t7 u_t7 v_t7 _ _ _ l_t7 => ?_)
    have e_t7 := C_t7.2.2.2.1
    have m_n_t7 : n < m_md t7 := by omega
    have g_n_t7 := (x_t7.2.2.1 n m_n_t5).2.1 w_n_t5 g_n_t5
    have w_n_t7 : W5 t7 n := (x_t7.2.2.1 n m_n_t5).1 w_n_t5
    refine Kp_push C_t7 (by omega) (fun t8 C_t8 x_t8 a_t8 b_t8 d_t8 w_t8 u_t8 v_t8 _ _ _ l_t8 => ?_)
    have e_t8 := C_t8.2.2.2.1
    have m_n_t8 : n < m_md t8 := by omega
    have g_n_t8 := (x_t8.2.2.1 n m_n_t7).2.1 w_n_t7 g_n_t7
    have w_n_t8 : W5 t8 n := (x_t8.2.2.1 n m_n_t7).1 w_n_t7
    refine Ok_ret (show Ok _ _ _ from ?_)
    refine Ok_ret (show Ok _ _ _ from ?_)
    refine Ok_ret (show Ok _ _ _ from ?_)
    refine Hv_mk C_t8 hT (by omega) (by omega) (by omega) ?_ ?_ ?_ (by omega) ?_ ?_
    · exact ⟨(Io_n (by decide) (show t &&& 1 < 4096 from by omega) m_n_t8 g_n_t8 w_n_t8 (fun q => absurd q (by decide)) (fun q => absurd q (by decide))), (Nd_0 (by decide) Mo_nil), ⟨(Io_2 (by have := or_256 (b := 1) (show (t &&& 1) < 256 from by omega); omega) (by have := or_256 (b := 1) (show (t &&& 1) < 256 from by omega); omega) (by have := or_256 (b := 1) (show (t &&& 1) < 256 from by omega); omega) m_n_t8 g_n_t8 w_n_t8), (Nd_A (by decide) (Mo_cons (fun q => show n ≤ n from by omega) Mo_nil) (Or.inr ⟨(3, n, t &&& 1), List.mem_cons_self, rfl, Or.inl rfl⟩)), ⟨(Io_n (by decide) (show t < 4096 from by omega) m_n_t8 g_n_t8 w_n_t8 (fun q => absurd q (by decide)) (fun q => absurd q (by decide))), (Nd_0 (by decide) (Mo_cons (fun q => show n ≤ n from by omega) (Mo_cons (fun q => show n ≤ n from by omega) Mo_nil))), Stk_step (N := n) (pop := (32, n, t)) (new := [(32, n, t), (2, n, (t &&& 1) ||| (1 * 256)), (3, n, t &&& 1)]) F0 C_t8.1 (fun _ => m_n_t0) (fun q _ h => h (32, n, t) rfl) (fun _ => rfl) (fun y hy hk => ⟨rfl, (Mo_cons (fun q => show n ≤ n from by omega) (Mo_cons (fun q => show n ≤ n from by omega) (Mo_cons (fun q => show n ≤ n from by omega) Mo_nil))) y hy hk⟩) (fun (h : 32 = 3 ∨ 32 = 18 ∨ 32 = 41) => absurd h (by decide)) (fun (h : 32 = 18) => absurd h (by decide)) (fun (h : 32 = 41 ∨ 32 = 42 ∨ 32 = 43) => absurd h (by decide)) r [] (fun y hy => absurd hy List.not_mem_nil) hS⟩⟩⟩
    · exact (Aj_up (x := (3, n, t &&& 1)) (Aj_up (x := (2, n, (t &&& 1) ||| (1 * 256))) (Aj_sub (y := (32, n, t)) hJ (Nat.le_of_ble_eq_true rfl)) (Or.inr (show 9 - ((t &&& 1) ||| (1 * 256)) / 256 < 9 from by have := or_256 (b := 1) (show (t &&& 1) < 256 from by omega); omega))) (Or.inr (show 2 < 9 - ((t &&& 1) ||| (1 * 256)) / 256 from by have := or_256 (b := 1) (show (t &&& 1) < 256 from by omega); omega)))
    · show m_dp t8 = (dlt 3 + (dlt 2 + (dlt 32 + sD r)))
      have : dlt 2 = 0 := rfl; have : dlt 3 = 0 := rfl; have : dlt 32 = 0 := rfl; omega
    · show m_rw t8 = (rho 3 + (rho 2 + (rho 32 + sR r)))
      have : rho 2 = 0 := rfl; have : rho 3 = 0 := rfl; have : rho 32 = 0 := rfl; omega
    · show m_md t8 + (mu7 3 + (mu7 2 + (mu7 32 + sM r))) ≤ 3 * m_at t8 + 7 * (r.length + 1 + 1 + 1) + 10
      have : mu7 2 = 7 := rfl; have : mu7 3 = 5 := rfl; have : mu7 32 = 7 := rfl; omega
  · refine Ok_ret (show Ok _ _ _ from ?_)
    refine Ok_ret (show Ok _ _ _ from ?_)
    refine Hv_mk C_t0 hT (by omega) (by omega) (by omega) ?_ ?_ ?_ (by omega) ?_ ?_
    · exact Stk_step (N := n) (pop := (32, n, t)) (new := []) F0 C_t0.1 (fun _ => m_n_t0) (fun q _ h => h (32, n, t) rfl) (fun _ => rfl) (fun y hy hk => ⟨rfl, Mo_nil (n := n) y hy hk⟩) (fun (h : 32 = 3 ∨ 32 = 18 ∨ 32 = 41) => absurd h (by decide)) (fun (h : 32 = 18) => absurd h (by decide)) (fun (h : 32 = 41 ∨ 32 = 42 ∨ 32 = 43) => absurd h (by decide)) r [] (fun y hy => absurd hy List.not_mem_nil) hS
    · exact Aj_tl hJ
    · show m_dp t0 = sD r
      have : dlt 32 = 0 := rfl; omega
    · show m_rw t0 = sR r
      have : rho 32 = 0 := rfl; omega
    · show m_md t0 + sM r ≤ 3 * m_at t0 + 7 * (r.length) + 10
      have : mu7 32 = 7 := rfl; omega

theorem S_33 {s : Mm} {n t : Nat} {r : List It} (H : Hv s ((33, n, t) :: r)) {E : Mm → Prop} : Ok Qh E (b_X6_step 33 n t (w_td s (m_td s - 1))) := by
  obtain ⟨hT, hc, hw0, ha, hC, hS, hJ, hdp, hdl, hrw, hmd, htd, hln, hm16, hI, hD⟩ := Hv_pop H
  have C_t0 := hC n
  generalize ht0 : w_td s (m_td s - 1) = t0 at *
  have b_t0 : m_md t0 = m_md s := by rw [← ht0]
  have a_t0 : m_at t0 = m_at s := by rw [← ht0]
  have d_t0 : m_dp t0 = m_dp s := by rw [← ht0]
  have w_t0 : m_wr t0 = m_wr s := by rw [← ht0]
  have u_t0 : m_rw t0 = m_rw s := by rw [← ht0]
  have v_t0 : m_td t0 = m_td s - 1 := by rw [← ht0]
  have e_t0 : m_ct t0 = m_ct s := by rw [← ht0]
  have F0 := C_t0.2.1
  obtain ⟨m_n_t0, g_n_t0, w_n_t0⟩ : n < m_md t0 ∧ GdS t0 n ∧ W5 t0 n := hI.2.1 rfl
  have ht : t < 4096 := hI.1.1 (show 33 ≠ 42 by decide) (show 33 ≠ 48 by decide)
  have hdp : m_dp s = dlt 33 + sD r := hdp
  have hrw : m_rw s = rho 33 + sR r := hrw
  have hmd : m_md s + mu7 33 + sM r ≤ 3 * m_at s + 7 * r.length + 17 := hmd
  have hand : t &&& 1 ≤ 1 := Nat.and_le_right
  have h01 : (0 &&& 1 : Nat) = 0 := rfl
  have ht8 : t ≤ 8 := hI.1.2.2.2.2.2.2 (show 33 = 33 ∨ 33 = 34 ∨ 33 = 35 by decide)
  have h02 : (1 : Nat) * 256 = 256 := rfl
  have hq1 : dlt 33 = 0 := rfl
  have hq2 : rho 33 = 0 := rfl
  have hq3 : mu7 33 = 7 := rfl
  unfold b_X6_step
  refine Ok_ifl (by decide) (by decide) (fun _ => ?_) (fun q => absurd (by decide) q)
  refine Ok_ifl (by decide) (by decide) (fun q => absurd q (by decide)) (fun _ => ?_)
  refine Ok_ifl (by decide) (by decide) (fun q => absurd q (by decide)) (fun _ => ?_)
  refine Ok_ifl (by decide) (by decide) (fun _ => ?_) (fun q => absurd (by decide) q)
  refine Ok_bnc ?_
  try unfold b_X6_declaring
  refine Ok_ck (by decide) ?_
  refine Ok_ife (by decide) (by decide) (fun q => absurd q (by decide)) (fun _ => ?_)
  refine Ok_ife (by decide) (by decide) (fun q => absurd q (by decide)) (fun _ => ?_)
  refine Ok_ife (by decide) (by decide) (fun q => absurd q (by decide)) (fun _ => ?_)
  refine Ok_ife (by decide) (by decide) (fun q => absurd q (by decide)) (fun _ => ?_)
  refine Ok_ife (by decide) (by decide) (fun _ => ?_) (fun q => absurd (by decide) q)
  refine Ok_bnc ?_
  try unfold b_X6_spec
  refine Kp_child C_t0 m_n_t0 g_n_t0 w_n_t0 (by omega) (by omega) (fun t3 C_t3 x_t3 a_t3 b_t3 d_t3 w_t3 u_t3 v_t3 wn_t3 fn_t3 fp_t3 _ l_t3 => ?_)
  have e_t3 := C_t3.2.2.2.1
  have m_n_t3 : n < m_md t3 := by omega
  have g_n_t3 := (x_t3.2.2.1 n m_n_t0).2.1 w_n_t0 g_n_t0
  have w_n_t3 : W5 t3 n := (x_t3.2.2.1 n m_n_t0).1 w_n_t0
  have f_n_t3 : Fz t3 n := fp_t3
  have m_m_mdt0_t3 : m_md t0 < m_md t3 := by omega
  have g_m_mdt0_t3 : GdS t3 (m_md t0) := Or.inl fn_t3
  have w_m_mdt0_t3 : W5 t3 (m_md t0) := by unfold W5; rw [wn_t3]; omega
  have u_m_mdt0_t3 : Up t3 (m_md t0) := Or.inl fn_t3
  clear fp_t3 fn_t3 wn_t3
  refine Ok_ife (show t < 2147483648 from by omega) (by decide) (fun q4 => ?_) (fun q4 => ?_)
  · refine Ok_bnc ?_
    try unfold b_X6_name
    refine Kp_look C_t3 hT (by omega) ?_
    refine Ok_ife (Nat.lt_trans (lo_lt (C_t3.tk hT) _) (by decide)) (by decide) (fun q6 => ?_) (fun q6 => ?_)
    · refine Kp_child C_t3 m_m_mdt0_t3 g_m_mdt0_t3 w_m_mdt0_t3 (by omega) (by omega) (fun t7 C_t7 x_t7 a_t7 b_t7 d_t7 w_t7 u_t7 v_t7 wn_t7 fn_t7 fp_t7 _ l_t7 => ?_)
      have e_t7 := C_t7.2.2.2.1
      have m_n_t7 : n < m_md t7 := by omega
      have g_n_t7 := (x_t7.2.2.1 n m_n_t3).2.1 w_n_t3 g_n_t3
      have w_n_t7 : W5 t7 n := (x_t7.2.2.1 n m_n_t3).1 w_n_t3
      have f_n_t7 : Fz t7 n := (x_t7.2.2.1 n m_n_t3).2.2.1 f_n_t3
      have m_m_mdt0_t7 : m_md t0 < m_md t7 := by omega
      have g_m_mdt0_t7 := (x_t7.2.2.1 (m_md t0) m_m_mdt0_t3).2.1 w_m_mdt0_t3 g_m_mdt0_t3
      have w_m_mdt0_t7 : W5 t7 (m_md t0) := (x_t7.2.2.1 (m_md t0) m_m_mdt0_t3).1 w_m_mdt0_t3
      have u_m_mdt0_t7 := (x_t7.2.2.1 (m_md t0) m_m_mdt0_t3).2.2.2.1 u_m_mdt0_t3
      have f_m_mdt0_t7 : Fz t7 (m_md t0) := fp_t7
      have m_m_mdt3_t7 : m_md t3 < m_md t7 := by omega
      have g_m_mdt3_t7 : GdS t7 (m_md t3) := Or.inl fn_t7
      have w_m_mdt3_t7 : W5 t7 (m_md t3) := by unfold W5; rw [wn_t7]; decide
      have u_m_mdt3_t7 : Up t7 (m_md t3) := Or.inl fn_t7
      clear fp_t7 fn_t7 wn_t7
      have z_t8 : m_at t7 < m_ct t7 := lo_ne (Nat.ne_of_gt (show 0 < lo t7 (m_at t7) from by omega))
      refine Kp_at C_t7 (fun t8 C_t8 x_t8 a_t8 b_t8 d_t8 w_t8 u_t8 v_t8 _ _ _ l_t8 => ?_)
      have e_t8 := C_t8.2.2.2.1
      have m_n_t8 : n < m_md t8 := by omega
      have g_n_t8 := (x_t8.2.2.1 n m_n_t7).2.1 w_n_t7 g_n_t7
      have w_n_t8 : W5 t8 n := (x_t8.2.2.1 n m_n_t7).1 w_n_t7
      have f_n_t8 : Fz t8 n := (x_t8.2.2.1 n m_n_t7).2.2.1 f_n_t7
      have m_m_mdt0_t8 : m_md t0 < m_md t8 := by omega
      have g_m_mdt0_t8 := (x_t8.2.2.1 (m_md t0) m_m_mdt0_t7).2.1 w_m_mdt0_t7 g_m_mdt0_t7
      have w_m_mdt0_t8 : W5 t8 (m_md t0) := (x_t8.2.2.1 (m_md t0) m_m_mdt0_t7).1 w_m_mdt0_t7
      have f_m_mdt0_t8 : Fz t8 (m_md t0) := (x_t8.2.2.1 (m_md t0) m_m_mdt0_t7).2.2.1 f_m_mdt0_t7
      have u_m_mdt0_t8 := (x_t8.2.2.1 (m_md t0) m_m_mdt0_t7).2.2.2.1 u_m_mdt0_t7
      have m_m_mdt3_t8 : m_md t3 < m_md t8 := by omega
      have g_m_mdt3_t8 := (x_t8.2.2.1 (m_md t3) m_m_mdt3_t7).2.1 w_m_mdt3_t7 g_m_mdt3_t7
      have w_m_mdt3_t8 : W5 t8 (m_md t3) := (x_t8.2.2.1 (m_md t3) m_m_mdt3_t7).1 w_m_mdt3_t7
      have u_m_mdt3_t8 := (x_t8.2.2.1 (m_md t3) m_m_mdt3_t7).2.2.2.1 u_m_mdt3_t7
      refine Ok_ret (show Ok _ _ _ from ?_)
      refine Kp_push C_t8 (by omega) (fun t9 C_t9 x_t9 a_t9 b_t9 d_t9 w_t9 u_t9 v_t9 _ _ _ l_t9 => ?_)
      have e_t9 := C_t9.2.2.2.1
      have m_n_t9 : n < m_md t9 := by omega
      have g_n_t9 := (x_t9.2.2.1 n m_n_t8).2.1 w_n_t8 g_n_t8
      have w_n_t9 : W5 t9 n := (x_t9.2.2.1 n m_n_t8).1 w_n_t8
      have f_n_t9 : Fz t9 n := (x_t9.2.2.1 n m_n_t8).2.2.1 f_n_t8
      have m_m_mdt0_t9 : m_md t0 < m_md t9 := by omega
      have g_m_mdt0_t9 := (x_t9.2.2.1 (m_md t0) m_m_mdt0_t8).2.1 w_m_mdt0_t8 g_m_mdt0_t8
      have w_m_mdt0_t9 : W5 t9 (m_md t0) := (x_t9.2.2.1 (m_md t0) m_m_mdt0_t8).1 w_m_mdt0_t8
      have f_m_mdt0_t9 : Fz t9 (m_md t0) := (x_t9.2.2.1 (m_md t0) m_m_mdt0_t8).2.2.1 f_m_mdt0_t8
      have u_m_mdt0_t9 := (x_t9.2.2.1 (m_md t0) m_m_mdt0_t8).2.2.2.1 u_m_mdt0_t8
      have m_m_mdt3_t9 : m_md t3 < m_md t9 := by omega
      have g_m_mdt3_t9 := (x_t9.2.2.1 (m_md t3) m_m_mdt3_t8).2.1 w_m_mdt3_t8 g_m_mdt3_t8
      have w_m_mdt3_t9 : W5 t9 (m_md t3) := (x_t9.2.2.1 (m_md t3) m_m_mdt3_t8).1 w_m_mdt3_t8
      have u_m_mdt3_t9 := (x_t9.2.2.1 (m_md t3) m_m_mdt3_t8).2.2.2.1 u_m_mdt3_t8
      refine Ok_ret (show Ok _ _ _ from ?_)
      refine Ok_ret (show Ok _ _ _ from ?_)
      refine Hv_mk C_t9 hT (by omega) (by omega) (by omega) ?_ ?_ ?_ (by omega) ?_ ?_
      · exact ⟨(Io_n (by decide) (by decide) m_m_mdt0_t9 g_m_mdt0_t9 w_m_mdt0_t9 (fun q => absurd q (by decide)) (fun q => absurd q (by decide))), (Nd_0 (by decide) Mo_nil), Stk_step (N := n) (pop := (33, n, t)) (new := [(18, m_md t0, 0)]) F0 C_t9.1 (fun _ => m_n_t0) (fun q _ h => h (33, n, t) rfl) (fun _ => rfl) (fun y hy hk => ⟨rfl, (Mo_cons (fun q => show n ≤ m_md t0 from by omega) Mo_nil) y hy hk⟩) (fun (h : 33 = 3 ∨ 33 = 18 ∨ 33 = 41) => absurd h (by decide)) (fun (h : 33 = 18) => absurd h (by decide)) (fun (h : 33 = 41 ∨ 33 = 42 ∨ 33 = 43) => absurd h (by decide)) r [] (fun y hy => absurd hy List.not_mem_nil) hS⟩
      · exact (Aj_sub (y := (18, m_md t0, 0)) hJ (Nat.le_of_ble_eq_true rfl))
      · show m_dp t9 = (dlt 18 + sD r)
        have : dlt 18 = 0 := rfl; have : dlt 33 = 0 := rfl; omega
      · show m_rw t9 = (rho 18 + sR r)
        have : rho 18 = 0 := rfl; have : rho 33 = 0 := rfl; omega
      · show m_md t9 + (mu7 18 + sM r) ≤ 3 * m_at t9 + 7 * (r.length + 1) + 10
        have : mu7 18 = 5 := rfl; have : mu7 33 = 7 := rfl; omega
    · refine Kp_error C_t3 (by omega) (fun t10 C_t10 x_t10 a_t10 b_t10 d_t10 w_t10 wb_t10 u_t10 v_t10 _ _ _ l_t10 => ?_)
      have w_t10 := Nat.pos_of_ne_zero w_t10
      have e_t10 := C_t10.2.2.2.1
      have m_n_t10 : n < m_md t10 := by omega
      have g_n_t10 := (x_t10.2.2.1 n m_n_t3).2.1 w_n_t3 g_n_t3
      have w_n_t10 : W5 t10 n := (x_t10.2.2.1 n m_n_t3).1 w_n_t3
      have f_n_t10 : Fz t10 n := (x_t10.2.2.1 n m_n_t3).2.2.1 f_n_t3
      have m_m_mdt0_t10 : m_md t0 < m_md t10 := by omega
      have g_m_mdt0_t10 := (x_t10.2.2.1 (m_md t0) m_m_mdt0_t3).2.1 w_m_mdt0_t3 g_m_mdt0_t3
      have w_m_mdt0_t10 : W5 t10 (m_md t0) := (x_t10.2.2.1 (m_md t0) m_m_mdt0_t3).1 w_m_mdt0_t3
      have u_m_mdt0_t10 := (x_t10.2.2.1 (m_md t0) m_m_mdt0_t3).2.2.2.1 u_m_mdt0_t3
      refine Kp_child C_t10 m_m_mdt0_t10 g_m_mdt0_t10 w_m_mdt0_t10 (by omega) (by omega) (fun t11 C_t11 x_t11 a_t11 b_t11 d_t11 w_t11 u_t11 v_t11 wn_t11 fn_t11 fp_t11 _ l_t11 => ?_)
      have e_t11 := C_t11.2.2.2.1
      have m_n_t11 : n < m_md t11 := by omega
      have g_n_t11 := (x_t11.2.2.1 n m_n_t10).2.1 w_n_t10 g_n_t10
      have w_n_t11 : W5 t11 n := (x_t11.2.2.1 n m_n_t10).1 w_n_t10
      have f_n_t11 : Fz t11 n := (x_t11.2.2.1 n m_n_t10).2.2.1 f_n_t10
      have m_m_mdt0_t11 : m_md t0 < m_md t11 := by omega
      have g_m_mdt0_t11 := (x_t11.2.2.1 (m_md t0) m_m_mdt0_t10).2.1 w_m_mdt0_t10 g_m_mdt0_t10
      have w_m_mdt0_t11 : W5 t11 (m_md t0) := (x_t11.2.2.1 (m_md t0) m_m_mdt0_t10).1 w_m_mdt0_t10
      have u_m_mdt0_t11 := (x_t11.2.2.1 (m_md t0) m_m_mdt0_t10).2.2.2.1 u_m_mdt0_t10
      have f_m_mdt0_t11 : Fz t11 (m_md t0) := fp_t11
      have m_m_mdt10_t11 : m_md t10 < m_md t11 := by omega
      have g_m_mdt10_t11 : GdS t11 (m_md t10) := Or.inl fn_t11
      have w_m_mdt10_t11 : W5 t11 (m_md t10) := by unfold W5; rw [wn_t11]; decide
      have u_m_mdt10_t11 : Up t11 (m_md t10) := Or.inl fn_t11
      clear fp_t11 fn_t11 wn_t11
      refine Kp_at C_t11 (fun t12 C_t12 x_t12 a_t12 b_t12 d_t12 w_t12 u_t12 v_t12 _ _ _ l_t12 => ?_)
      have e_t12 := C_t12.2.2.2.1
      have m_n_t12 : n < m_md t12 := by omega
      have g_n_t12 := (x_t12.2.2.1 n m_n_t11).2.1 w_n_t11 g_n_t11
      have w_n_t12 : W5 t12 n := (x_t12.2.2.1 n m_n_t11).1 w_n_t11
      have f_n_t12 : Fz t12 n := (x_t12.2.2.1 n m_n_t11).2.2.1 f_n_t11
      have m_m_mdt0_t12 : m_md t0 < m_md t12 := by omega
      have g_m_mdt0_t12 := (x_t12.2.2.1 (m_md t0) m_m_mdt0_t11).2.1 w_m_mdt0_t11 g_m_mdt0_t11
      have w_m_mdt0_t12 : W5 t12 (m_md t0) := (x_t12.2.2.1 (m_md t0) m_m_mdt0_t11).1 w_m_mdt0_t11
      have f_m_mdt0_t12 : Fz t12 (m_md t0) := (x_t12.2.2.1 (m_md t0) m_m_mdt0_t11).2.2.1 f_m_mdt0_t11
      have u_m_mdt0_t12 := (x_t12.2.2.1 (m_md t0) m_m_mdt0_t11).2.2.2.1 u_m_mdt0_t11
      have m_m_mdt10_t12 : m_md t10 < m_md t12 := by omega
      have g_m_mdt10_t12 := (x_t12.2.2.1 (m_md t10) m_m_mdt10_t11).2.1 w_m_mdt10_t11 g_m_mdt10_t11
      have w_m_mdt10_t12 : W5 t12 (m_md t10) := (x_t12.2.2.1 (m_md t10) m_m_mdt10_t11).1 w_m_mdt10_t11
      have u_m_mdt10_t12 := (x_t12.2.2.1 (m_md t10) m_m_mdt10_t11).2.2.2.1 u_m_mdt10_t11
      refine Ok_ret (show Ok _ _ _ from ?_)
      refine Kp_push C_t12 (by omega) (fun t13 C_t13 x_t13 a_t13 b_t13 d_t13 w_t13 u_t13 v_t13 _ _ _ l_t13 => ?_)
      have e_t13 := C_t13.2.2.2.1
      have m_n_t13 : n < m_md t13 := by omega
      have g_n_t13 := (x_t13.2.2.1 n m_n_t12).2.1 w_n_t12 g_n_t12
      have w_n_t13 : W5 t13 n := (x_t13.2.2.1 n m_n_t12).1 w_n_t12
      have f_n_t13 : Fz t13 n := (x_t13.2.2.1 n m_n_t12).2.2.1 f_n_t12
      have m_m_mdt0_t13 : m_md t0 < m_md t13 := by omega
      have g_m_mdt0_t13 := (x_t13.2.2.1 (m_md t0) m_m_mdt0_t12).2.1 w_m_mdt0_t12 g_m_mdt0_t12
      have w_m_mdt0_t13 : W5 t13 (m_md t0) := (x_t13.2.2.1 (m_md t0) m_m_mdt0_t12).1 w_m_mdt0_t12
      have f_m_mdt0_t13 : Fz t13 (m_md t0) := (x_t13.2.2.1 (m_md t0) m_m_mdt0_t12).2.2.1 f_m_mdt0_t12
      have u_m_mdt0_t13 := (x_t13.2.2.1 (m_md t0) m_m_mdt0_t12).2.2.2.1 u_m_mdt0_t12
      have m_m_mdt10_t13 : m_md t10 < m_md t13 := by omega
      have g_m_mdt10_t13 := (x_t13.2.2.1 (m_md t10) m_m_mdt10_t12).2.1 w_m_mdt10_t12 g_m_mdt10_t12
      have w_m_mdt10_t13 : W5 t13 (m_md t10) := (x_t13.2.2.1 (m_md t10) m_m_mdt10_t12).1 w_m_mdt10_t12
      have u_m_mdt10_t13 := (x_t13.2.2.1 (m_md t10) m_m_mdt10_t12).2.2.2.1 u_m_mdt10_t12
      refine Ok_ret (show Ok _ _ _ from ?_)
      refine Ok_ret (show Ok _ _ _ from ?_)
      exact Or.inl ⟨Nat.ne_of_gt (show 0 < m_wr t13 from by omega), by omega⟩
  · refine Ok_ife (show t < 2147483648 from by omega) (by decide) (fun q14 => ?_) (fun q14 => ?_)
    · refine Kp_push C_t3 (by omega) (fun t15 C_t15 x_t15 a_t15 b_t15 d_t15 w_t15 u_t15 v_t15 _ _ _ l_t15 => ?_)
      have e_t15 := C_t15.2.2.2.1
      have m_n_t15 : n < m_md t15 := by omega
      have g_n_t15 := (x_t15.2.2.1 n m_n_t3).2.1 w_n_t3 g_n_t3
      have w_n_t15 : W5 t15 n := (x_t15.2.2.1 n m_n_t3).1 w_n_t3
      have f_n_t15 : Fz t15 n := (x_t15.2.2.1 n m_n_t3).2.2.1 f_n_t3
      have m_m_mdt0_t15 : m_md t0 < m_md t15 := by omega
      have g_m_mdt0_t15 := (x_t15.2.2.1 (m_md t0) m_m_mdt0_t3).2.1 w_m_mdt0_t3 g_m_mdt0_t3
      have w_m_mdt0_t15 : W5 t15 (m_md t0) := (x_t15.2.2.1 (m_md t0) m_m_mdt0_t3).1 w_m_mdt0_t3
      have u_m_mdt0_t15 := (x_t15.2.2.1 (m_md t0) m_m_mdt0_t3).2.2.2.1 u_m_mdt0_t3
      refine Kp_push C_t15 (by omega) (fun t16 C_t16 x_t16 a_t16 b_t16 d_t16 w_t16 u_t16 v_t16 _ _ _ l_t16 => ?_)
      have e_t16 := C_t16.2.2.2.1
      have m_n_t16 : n < m_md t16 := by omega
      have g_n_t16 := (x_t16.2.2.1 n m_n_t15).2.1 w_n_t15 g_n_t15
      have w_n_t16 : W5 t16 n := (x_t16.2.2.1 n m_n_t15).1 w_n_t15
      have f_n_t16 : Fz t16 n := (x_t16.2.2.1 n m_n_t15).2.2.1 f_n_t15
      have m_m_mdt0_t16 : m_md t0 < m_md t16 := by omega
      have g_m_mdt0_t16 := (x_t16.2.2.1 (m_md t0) m_m_mdt0_t15).2.1 w_m_mdt0_t15 g_m_mdt0_t15
      have w_m_mdt0_t16 : W5 t16 (m_md t0) := (x_t16.2.2.1 (m_md t0) m_m_mdt0_t15).1 w_m_mdt0_t15
      have u_m_mdt0_t16 := (x_t16.2.2.1 (m_md t0) m_m_mdt0_t15).2.2.2.1 u_m_mdt0_t15
      refine Ok_ret (show Ok _ _ _ from ?_)
      refine Ok_ret (show Ok _ _ _ from ?_)
      refine Hv_mk C_t16 hT (by omega) (by omega) (by omega) ?_ ?_ ?_ (by omega) ?_ ?_
      · exact ⟨(Io_n (by decide) (by decide) m_m_mdt0_t16 g_m_mdt0_t16 w_m_mdt0_t16 (fun q => absurd q (by decide)) (fun q => absurd q (by decide))), (Nd_0 (by decide) Mo_nil), ⟨(Io_n (by decide) (by decide) m_m_mdt0_t16 g_m_mdt0_t16 w_m_mdt0_t16 (fun q => absurd q (by decide)) (fun q => absurd q (by decide))), (Nd_0 (by decide) (Mo_cons (fun q => show m_md t0 ≤ m_md t0 from by omega) Mo_nil)), Stk_step (N := n) (pop := (33, n, t)) (new := [(36, m_md t0, 0), (29, m_md t0, 0)]) F0 C_t16.1 (fun _ => m_n_t0) (fun q _ h => h (33, n, t) rfl) (fun _ => rfl) (fun y hy hk => ⟨rfl, (Mo_cons (fun q => show n ≤ m_md t0 from by omega) (Mo_cons (fun q => show n ≤ m_md t0 from by omega) Mo_nil)) y hy hk⟩) (fun (h : 33 = 3 ∨ 33 = 18 ∨ 33 = 41) => absurd h (by decide)) (fun (h : 33 = 18) => absurd h (by decide)) (fun (h : 33 = 41 ∨ 33 = 42 ∨ 33 = 43) => absurd h (by decide)) r [] (fun y hy => absurd hy List.not_mem_nil) hS⟩⟩
      · exact (Aj_up (x := (29, m_md t0, 0)) (Aj_sub (y := (36, m_md t0, 0)) hJ (Nat.le_of_ble_eq_true rfl)) (Or.inr (Nat.le_of_ble_eq_true rfl)))
      · show m_dp t16 = (dlt 29 + (dlt 36 + sD r))
        have : dlt 29 = 0 := rfl; have : dlt 33 = 0 := rfl; have : dlt 36 = 0 := rfl; omega
      · show m_rw t16 = (rho 29 + (rho 36 + sR r))
        have : rho 29 = 0 := rfl; have : rho 33 = 0 := rfl; have : rho 36 = 0 := rfl; omega
      · show m_md t16 + (mu7 29 + (mu7 36 + sM r)) ≤ 3 * m_at t16 + 7 * (r.length + 1 + 1) + 10
        have : mu7 29 = 6 := rfl; have : mu7 33 = 7 := rfl; have : mu7 36 = 7 := rfl; omega
    · refine Kp_push C_t3 (by omega) (fun t17 C_t17 x_t17 a_t17 b_t17 d_t17 w_t17 u_t17 v_t17 _ _ _ l_t17 => ?_)
      have e_t17 := C_t17.2.2.2.1
      have m_n_t17 : n < m_md t17 := by omega
      have g_n_t17 := (x_t17.2.2.1 n m_n_t3).2.1 w_n_t3 g_n_t3
      have w_n_t17 : W5 t17 n := (x_t17.2.2.1 n m_n_t3).1 w_n_t3
      have f_n_t17 : Fz t17 n := (x_t17.2.2.1 n m_n_t3).2.2.1 f_n_t3
      have m_m_mdt0_t17 : m_md t0 < m_md t17 := by omega
      have g_m_mdt0_t17 := (x_t17.2.2.1 (m_md t0) m_m_mdt0_t3).2.1 w_m_mdt0_t3 g_m_mdt0_t3
      have w_m_mdt0_t17 : W5 t17 (m_md t0) := (x_t17.2.2.1 (m_md t0) m_m_mdt0_t3).1 w_m_mdt0_t3
      have u_m_mdt0_t17 := (x_t17.2.2.1 (m_md t0) m_m_mdt0_t3).2.2.2.1 u_m_mdt0_t3
      refine Kp_push C_t17 (by omega) (fun t18 C_t18 x_t18 a_t18 b_t18 d_t18 w_t18 u_t18 v_t18 _ _ _ l_t18 => ?_)
      have e_t18 := C_t18.2.2.2.1
      have m_n_t18 : n < m_md t18 := by omega
      have g_n_t18 := (x_t18.2.2.1 n m_n_t17).2.1 w_n_t17 g_n_t17
      have w_n_t18 : W5 t18 n := (x_t18.2.2.1 n m_n_t17).1 w_n_t17
      have f_n_t18 : Fz t18 n := (x_t18.2.2.1 n m_n_t17).2.2.1 f_n_t17
      have m_m_mdt0_t18 : m_md t0 < m_md t18 := by omega
      have g_m_mdt0_t18 := (x_t18.2.2.1 (m_md t0) m_m_mdt0_t17).2.1 w_m_mdt0_t17 g_m_mdt0_t17
      have w_m_mdt0_t18 : W5 t18 (m_md t0) := (x_t18.2.2.1 (m_md t0) m_m_mdt0_t17).1 w_m_mdt0_t17
      have u_m_mdt0_t18 := (x_t18.2.2.1 (m_md t0) m_m_mdt0_t17).2.2.2.1 u_m_mdt0_t17
      refine Ok_ret (show Ok _ _ _ from ?_)
      refine Ok_ret (show Ok _ _ _ from ?_)
      refine Hv_mk C_t18 hT (by omega) (by omega) (by omega) ?_ ?_ ?_ (by omega) ?_ ?_
      · exact ⟨(Io_n (by decide) (by decide) m_m_mdt0_t18 g_m_mdt0_t18 w_m_mdt0_t18 (fun q => absurd q (by decide)) (fun q => absurd q (by decide))), (Nd_0 (by decide) Mo_nil), ⟨(Io_n (by decide) (by decide) m_m_mdt0_t18 g_m_mdt0_t18 w_m_mdt0_t18 (fun q => absurd q (by decide)) (fun q => absurd q (by decide))), (Nd_0 (by decide) (Mo_cons (fun q => show m_md t0 ≤ m_md t0 from by omega) Mo_nil)), Stk_step (N := n) (pop := (33, n, t)) (new := [(37, m_md t0, 0), (29, m_md t0, 0)]) F0 C_t18.1 (fun _ => m_n_t0) (fun q _ h => h (33, n, t) rfl) (fun _ => rfl) (fun y hy hk => ⟨rfl, (Mo_cons (fun q => show n ≤ m_md t0 from by omega) (Mo_cons (fun q => show n ≤ m_md t0 from by omega) Mo_nil)) y hy hk⟩) (fun (h : 33 = 3 ∨ 33 = 18 ∨ 33 = 41) => absurd h (by decide)) (fun (h : 33 = 18) => absurd h (by decide)) (fun (h : 33 = 41 ∨ 33 = 42 ∨ 33 = 43) => absurd h (by decide)) r [] (fun y hy => absurd hy List.not_mem_nil) hS⟩⟩
      · exact (Aj_up (x := (29, m_md t0, 0)) (Aj_sub (y := (37, m_md t0, 0)) hJ (Nat.le_of_ble_eq_true rfl)) (Or.inr (Nat.le_of_ble_eq_true rfl)))
      · show m_dp t18 = (dlt 29 + (dlt 37 + sD r))
        have : dlt 29 = 0 := rfl; have : dlt 33 = 0 := rfl; have : dlt 37 = 0 := rfl; omega
      · show m_rw t18 = (rho 29 + (rho 37 + sR r))
        have : rho 29 = 0 := rfl; have : rho 33 = 0 := rfl; have : rho 37 = 0 := rfl; omega
      · show m_md t18 + (mu7 29 + (mu7 37 + sM r)) ≤ 3 * m_at t18 + 7 * (r.length + 1 + 1) + 10
        have : mu7 29 = 6 := rfl; have : mu7 33 = 7 := rfl; have : mu7 37 = 5 := rfl; omega

theorem S_34 {s : Mm} {n t : Nat} {r : List It} (H : Hv s ((34, n, t) :: r)) {E : Mm → Prop} : Ok Qh E (b_X6_step 34 n t (w_td s (m_td s - 1))) := by
  obtain ⟨hT, hc, hw0, ha, hC, hS, hJ, hdp, hdl, hrw, hmd, htd, hln, hm16, hI, hD⟩ := Hv_pop H
  have C_t0 := hC n
  generalize ht0 : w_td s (m_td s - 1) = t0 at *
  have b_t0 : m_md t0 = m_md s := by rw [← ht0]
  have a_t0 : m_at t0 = m_at s := by rw [← ht0]
  have d_t0 : m_dp t0 = m_dp s := by rw [← ht0]
  have w_t0 : m_wr t0 = m_wr s := by rw [← ht0]
  have u_t0 : m_rw t0 = m_rw s := by rw [← ht0]
  have v_t0 : m_td t0 = m_td s - 1 := by rw [← ht0]
  have e_t0 : m_ct t0 = m_ct s := by rw [← ht0]
  have F0 := C_t0.2.1
  obtain ⟨m_n_t0, g_n_t0, w_n_t0⟩ : n < m_md t0 ∧ GdS t0 n ∧ W5 t0 n := hI.2.1 rfl
  have ht : t < 4096 := hI.1.1 (show 34 ≠ 42 by decide) (show 34 ≠ 48 by decide)
  have hdp : m_dp s = dlt 34 + sD r := hdp
  have hrw : m_rw s = rho 34 + sR r := hrw
  have hmd : m_md s + mu7 34 + sM r ≤ 3 * m_at s + 7 * r.length + 17 := hmd
  have hand : t &&& 1 ≤ 1 := Nat.and_le_right
  have h01 : (0 &&& 1 : Nat) = 0 := rfl
  have ht8 : t ≤ 8 := hI.1.2.2.2.2.2.2 (show 34 = 33 ∨ 34 = 34 ∨ 34 = 35 by decide)
  have h02 : (1 : Nat) * 256 = 256 := rfl
  have hq1 : dlt 34 = 1 := rfl
  have hq2 : rho 34 = 0 := rfl
  have hq3 : mu7 34 = 4 := rfl
  unfold b_X6_step
  refine Ok_ifl (by decide) (by decide) (fun _ => ?_) (fun q => absurd (by decide) q)
  refine Ok_ifl (by decide) (by decide) (fun q => absurd q (by decide)) (fun _ => ?_)
  refine Ok_ifl (by decide) (by decide) (fun q => absurd q (by decide)) (fun _ => ?_)
  refine Ok_ifl (by decide) (by decide) (fun _ => ?_) (fun q => absurd (by decide) q)
  refine Ok_bnc ?_
  try unfold b_X6_declaring
  refine Ok_ck (by decide) ?_
  refine Ok_ife (by decide) (by decide) (fun q => absurd q (by decide)) (fun _ => ?_)
  refine Ok_ife (by decide) (by decide) (fun q => absurd q (by decide)) (fun _ => ?_)
  refine Ok_ife (by decide) (by decide) (fun q => absurd q (by decide)) (fun _ => ?_)
  refine Ok_ife (by decide) (by decide) (fun q => absurd q (by decide)) (fun _ => ?_)
  refine Ok_ife (by decide) (by decide) (fun q => absurd q (by decide)) (fun _ => ?_)
  refine Ok_ife (by decide) (by decide) (fun _ => ?_) (fun q => absurd (by decide) q)
  refine Ok_bnc ?_
  try unfold b_X6_specs
  refine Kp_look C_t0 hT (by omega) ?_
  refine Ok_ife (Nat.lt_trans (lo_lt (C_t0.tk hT) _) (by decide)) (by decide) (fun q3 => ?_) (fun q3 => ?_)
  · have z_t4 : m_at t0 < m_ct t0 := lo_ne (Nat.ne_of_gt (show 0 < lo t0 (m_at t0) from by omega))
    refine Kp_at C_t0 (fun t4 C_t4 x_t4 a_t4 b_t4 d_t4 w_t4 u_t4 v_t4 _ _ _ l_t4 => ?_)
    have e_t4 := C_t4.2.2.2.1
    have m_n_t4 : n < m_md t4 := by omega
    have g_n_t4 := (x_t4.2.2.1 n m_n_t0).2.1 w_n_t0 g_n_t0
    have w_n_t4 : W5 t4 n := (x_t4.2.2.1 n m_n_t0).1 w_n_t0
    refine Ok_ck (show (m_dp t4) ≠ 0 from by omega) ?_
    refine Kp_dp C_t4 (fun t5 C_t5 x_t5 a_t5 b_t5 d_t5 w_t5 u_t5 v_t5 _ _ _ l_t5 => ?_)
    have e_t5 := C_t5.2.2.2.1
    have m_n_t5 : n < m_md t5 := by omega
    have g_n_t5 := (x_t5.2.2.1 n m_n_t4).2.1 w_n_t4 g_n_t4
    have w_n_t5 : W5 t5 n := (x_t5.2.2.1 n m_n_t4).1 w_n_t4
    refine Ok_ret (show Ok _ _ _ from ?_)
    refine Ok_ret (show Ok _ _ _ from ?_)
    refine Hv_mk C_t5 hT (by omega) (by omega) (by omega) ?_ ?_ ?_ (by omega) ?_ ?_
    · exact Stk_step (N := n) (pop := (34, n, t)) (new := []) F0 C_t5.1 (fun _ => m_n_t0) (fun q _ h => h (34, n, t) rfl) (fun _ => rfl) (fun y hy hk => ⟨rfl, Mo_nil (n := n) y hy hk⟩) (fun (h : 34 = 3 ∨ 34 = 18 ∨ 34 = 41) => absurd h (by decide)) (fun (h : 34 = 18) => absurd h (by decide)) (fun (h : 34 = 41 ∨ 34 = 42 ∨ 34 = 43) => absurd h (by decide)) r [] (fun y hy => absurd hy List.not_mem_nil) hS
    · exact Aj_tl hJ
    · show m_dp t5 = sD r
      have : dlt 34 = 1 := rfl; omega
    · show m_rw t5 = sR r
      have : rho 34 = 0 := rfl; omega
    · show m_md t5 + sM r ≤ 3 * m_at t5 + 7 * (r.length) + 10
      have : mu7 34 = 4 := rfl; omega
  · refine Kp_push C_t0 (by omega) (fun t6 C_t6 x_t6 a_t6 b_t6 d_t6 w_t6 u_t6 v_t6 _ _ _ l_t6 => ?_)
    have e_t6 := C_t6.2.2.2.1
    have m_n_t6 : n < m_md t6 := by omega
    have g_n_t6 := (x_t6.2.2.1 n m_n_t0).2.1 w_n_t0 g_n_t0
    have w_n_t6 : W5 t6 n := (x_t6.2.2.1 n m_n_t0).1 w_n_t0
    refine Kp_push C_t6 (by omega) (fun t7 C_t7 x_t7 a_t7 b_t7 d_t7 w_t7 u_t7 v_t7 _ _ _ l_t7 => ?_)
    have e_t7 := C_t7.2.2.2.1
    have m_n_t7 : n < m_md t7 := by omega
    have g_n_t7 := (x_t7.2.2.1 n m_n_t6).2.1 w_n_t6 g_n_t6
    have w_n_t7 : W5 t7 n := (x_t7.2.2.1 n m_n_t6).1 w_n_t6
    refine Ok_ret (show Ok _ _ _ from ?_)
    refine Ok_ret (show Ok _ _ _ from ?_)
    refine Hv_mk C_t7 hT (by omega) (by omega) (by omega) ?_ ?_ ?_ (by omega) ?_ ?_
    · exact ⟨(Io_n (by decide) (show t < 4096 from by omega) m_n_t7 g_n_t7 w_n_t7 (fun q => absurd q (by decide)) (fun _ => show t ≤ 8 from by omega)), (Nd_0 (by decide) Mo_nil), ⟨(Io_n (by decide) (show t < 4096 from by omega) m_n_t7 g_n_t7 w_n_t7 (fun q => absurd q (by decide)) (fun _ => show t ≤ 8 from by omega)), (Nd_0 (by decide) (Mo_cons (fun q => show n ≤ n from by omega) Mo_nil)), Stk_step (N := n) (pop := (34, n, t)) (new := [(35, n, t), (33, n, t)]) F0 C_t7.1 (fun _ => m_n_t0) (fun q _ h => h (34, n, t) rfl) (fun _ => rfl) (fun y hy hk => ⟨rfl, (Mo_cons (fun q => show n ≤ n from by omega) (Mo_cons (fun q => show n ≤ n from by omega) Mo_nil)) y hy hk⟩) (fun (h : 34 = 3 ∨ 34 = 18 ∨ 34 = 41) => absurd h (by decide)) (fun (h : 34 = 18) => absurd h (by decide)) (fun (h : 34 = 41 ∨ 34 = 42 ∨ 34 = 43) => absurd h (by decide)) r [] (fun y hy => absurd hy List.not_mem_nil) hS⟩⟩
    · exact (Aj_up (x := (33, n, t)) (Aj_sub (y := (35, n, t)) hJ (Nat.le_of_ble_eq_true rfl)) (Or.inl (Nat.le_of_ble_eq_true rfl)))
    · show m_dp t7 = (dlt 33 + (dlt 35 + sD r))
      have : dlt 33 = 0 := rfl; have : dlt 34 = 1 := rfl; have : dlt 35 = 1 := rfl; omega
    · show m_rw t7 = (rho 33 + (rho 35 + sR r))
      have : rho 33 = 0 := rfl; have : rho 34 = 0 := rfl; have : rho 35 = 0 := rfl; omega
    · show m_md t7 + (mu7 33 + (mu7 35 + sM r)) ≤ 3 * m_at t7 + 7 * (r.length + 1 + 1) + 10
      have : mu7 33 = 7 := rfl; have : mu7 34 = 4 := rfl; have : mu7 35 = 4 := rfl; omega

theorem S_35 {s : Mm} {n t : Nat} {r : List It} (H : Hv s ((35, n, t) :: r)) {E : Mm → Prop} : Ok Qh E (b_X6_step 35 n t (w_td s (m_td s - 1))) := by
  obtain ⟨hT, hc, hw0, ha, hC, hS, hJ, hdp, hdl, hrw, hmd, htd, hln, hm16, hI, hD⟩ := Hv_pop H
  have C_t0 := hC n
  generalize ht0 : w_td s (m_td s - 1) = t0 at *
  have b_t0 : m_md t0 = m_md s := by rw [← ht0]
  have a_t0 : m_at t0 = m_at s := by rw [← ht0]
  have d_t0 : m_dp t0 = m_dp s := by rw [← ht0]
  have w_t0 : m_wr t0 = m_wr s := by rw [← ht0]
  have u_t0 : m_rw t0 = m_rw s := by rw [← ht0]
  have v_t0 : m_td t0 = m_td s - 1 := by rw [← ht0]
  have e_t0 : m_ct t0 = m_ct s := by rw [← ht0]
  have F0 := C_t0.2.1
  obtain ⟨m_n_t0, g_n_t0, w_n_t0⟩ : n < m_md t0 ∧ GdS t0 n ∧ W5 t0 n := hI.2.1 rfl
  have ht : t < 4096 := hI.1.1 (show 35 ≠ 42 by decide) (show 35 ≠ 48 by decide)
  have hdp : m_dp s = dlt 35 + sD r := hdp
  have hrw : m_rw s = rho 35 + sR r := hrw
  have hmd : m_md s + mu7 35 + sM r ≤ 3 * m_at s + 7 * r.length + 17 := hmd
  have hand : t &&& 1 ≤ 1 := Nat.and_le_right
  have h01 : (0 &&& 1 : Nat) = 0 := rfl
  have ht8 : t ≤ 8 := hI.1.2.2.2.2.2.2 (show 35 = 33 ∨ 35 = 34 ∨ 35 = 35 by decide)
  have h02 : (1 : Nat) * 256 = 256 := rfl
  have hq1 : dlt 35 = 1 := rfl
  have hq2 : rho 35 = 0 := rfl
  have hq3 : mu7 35 = 4 := rfl
  unfold b_X6_step
  refine Ok_ifl (by decide) (by decide) (fun _ => ?_) (fun q => absurd (by decide) q)
  refine Ok_ifl (by decide) (by decide) (fun q => absurd q (by decide)) (fun _ => ?_)
  refine Ok_ifl (by decide) (by decide) (fun q => absurd q (by decide)) (fun _ => ?_)
  refine Ok_ifl (by decide) (by decide) (fun _ => ?_) (fun q => absurd (by decide) q)
  refine Ok_bnc ?_
  try unfold b_X6_declaring
  refine Ok_ck (by decide) ?_
  refine Ok_ife (by decide) (by decide) (fun q => absurd q (by decide)) (fun _ => ?_)
  refine Ok_ife (by decide) (by decide) (fun q => absurd q (by decide)) (fun _ => ?_)
  refine Ok_ife (by decide) (by decide) (fun q => absurd q (by decide)) (fun _ => ?_)
  refine Ok_ife (by decide) (by decide) (fun q => absurd q (by decide)) (fun _ => ?_)
  refine Ok_ife (by decide) (by decide) (fun q => absurd q (by decide)) (fun _ => ?_)
  refine Ok_ife (by decide) (by decide) (fun q => absurd q (by decide)) (fun _ => ?_)
  refine Ok_ife (by decide) (by decide) (fun _ => ?_) (fun q => absurd (by decide) q)
  refine Ok_bnc ?_
  try unfold b_X6_specsMore
  refine Kp_look C_t0 hT (by omega) ?_
  refine Ok_ife (Nat.lt_trans (lo_lt (C_t0.tk hT) _) (by decide)) (by decide) (fun q3 => ?_) (fun q3 => ?_)
  · refine Kp_push C_t0 (by omega) (fun t4 C_t4 x_t4 a_t4 b_t4 d_t4 w_t4 u_t4 v_t4 _ _ _ l_t4 => ?_)
    have e_t4 := C_t4.2.2.2.1
    have m_n_t4 : n < m_md t4 := by omega
    have g_n_t4 := (x_t4.2.2.1 n m_n_t0).2.1 w_n_t0 g_n_t0
    have w_n_t4 : W5 t4 n := (x_t4.2.2.1 n m_n_t0).1 w_n_t0
    refine Ok_ret (show Ok _ _ _ from ?_)
    refine Ok_ret (show Ok _ _ _ from ?_)
    refine Hv_mk C_t4 hT (by omega) (by omega) (by omega) ?_ ?_ ?_ (by omega) ?_ ?_
    · exact ⟨(Io_n (by decide) (show t < 4096 from by omega) m_n_t4 g_n_t4 w_n_t4 (fun q => absurd q (by decide)) (fun _ => show t ≤ 8 from by omega)), (Nd_0 (by decide) Mo_nil), Stk_step (N := n) (pop := (35, n, t)) (new := [(34, n, t)]) F0 C_t4.1 (fun _ => m_n_t0) (fun q _ h => h (35, n, t) rfl) (fun _ => rfl) (fun y hy hk => ⟨rfl, (Mo_cons (fun q => show n ≤ n from by omega) Mo_nil) y hy hk⟩) (fun (h : 35 = 3 ∨ 35 = 18 ∨ 35 = 41) => absurd h (by decide)) (fun (h : 35 = 18) => absurd h (by decide)) (fun (h : 35 = 41 ∨ 35 = 42 ∨ 35 = 43) => absurd h (by decide)) r [] (fun y hy => absurd hy List.not_mem_nil) hS⟩
    · exact (Aj_sub (y := (34, n, t)) hJ (Nat.le_of_ble_eq_true rfl))
    · show m_dp t4 = (dlt 34 + sD r)
      have : dlt 34 = 1 := rfl; have : dlt 35 = 1 := rfl; omega
    · show m_rw t4 = (rho 34 + sR r)
      have : rho 34 = 0 := rfl; have : rho 35 = 0 := rfl; omega
    · show m_md t4 + (mu7 34 + sM r) ≤ 3 * m_at t4 + 7 * (r.length + 1) + 10
      have : mu7 34 = 4 := rfl; have : mu7 35 = 4 := rfl; omega
  · refine Kp_pass C_t0 hT (by omega) (by decide) (by omega) (fun t5 C_t5 x_t5 a_t5 b_t5 d_t5 w_t5 u_t5 v_t5 _ _ _ l_t5 => ?_)
    have e_t5 := C_t5.2.2.2.1
    rcases w_t5 with ⟨w_t5, y_t5⟩ | ⟨w_t5, wb_t5⟩
    · have z_t5 : m_at t0 < m_ct t0 := lo_ne (Nat.ne_of_gt (show 0 < lo t0 (m_at t0) from by omega))
      have m_n_t5 : n < m_md t5 := by omega
      have g_n_t5 := (x_t5.2.2.1 n m_n_t0).2.1 w_n_t0 g_n_t0
      have w_n_t5 : W5 t5 n := (x_t5.2.2.1 n m_n_t0).1 w_n_t0
      refine Kp_push C_t5 (by omega) (fun t6 C_t6 x_t6 a_t6 b_t6 d_t6 w_t6 u_t6 v_t6 _ _ _ l_t6 => ?_)
      have e_t6 := C_t6.2.2.2.1
      have m_n_t6 : n < m_md t6 := by omega
      have g_n_t6 := (x_t6.2.2.1 n m_n_t5).2.1 w_n_t5 g_n_t5
      have w_n_t6 : W5 t6 n := (x_t6.2.2.1 n m_n_t5).1 w_n_t5
      refine Ok_ret (show Ok _ _ _ from ?_)
      refine Ok_ret (show Ok _ _ _ from ?_)
      refine Hv_mk C_t6 hT (by omega) (by omega) (by omega) ?_ ?_ ?_ (by omega) ?_ ?_
      · exact ⟨(Io_n (by decide) (show t < 4096 from by omega) m_n_t6 g_n_t6 w_n_t6 (fun q => absurd q (by decide)) (fun _ => show t ≤ 8 from by omega)), (Nd_0 (by decide) Mo_nil), Stk_step (N := n) (pop := (35, n, t)) (new := [(34, n, t)]) F0 C_t6.1 (fun _ => m_n_t0) (fun q _ h => h (35, n, t) rfl) (fun _ => rfl) (fun y hy hk => ⟨rfl, (Mo_cons (fun q => show n ≤ n from by omega) Mo_nil) y hy hk⟩) (fun (h : 35 = 3 ∨ 35 = 18 ∨ 35 = 41) => absurd h (by decide)) (fun (h : 35 = 18) => absurd h (by decide)) (fun (h : 35 = 41 ∨ 35 = 42 ∨ 35 = 43) => absurd h (by decide)) r [] (fun y hy => absurd hy List.not_mem_nil) hS⟩
      · exact (Aj_sub (y := (34, n, t)) hJ (Nat.le_of_ble_eq_true rfl))
      · show m_dp t6 = (dlt 34 + sD r)
        have : dlt 34 = 1 := rfl; have : dlt 35 = 1 := rfl; omega
      · show m_rw t6 = (rho 34 + sR r)
        have : rho 34 = 0 := rfl; have : rho 35 = 0 := rfl; omega
      · show m_md t6 + (mu7 34 + sM r) ≤ 3 * m_at t6 + 7 * (r.length + 1) + 10
        have : mu7 34 = 4 := rfl; have : mu7 35 = 4 := rfl; omega
    · have w_t5 := Nat.pos_of_ne_zero w_t5
      have m_n_t5 : n < m_md t5 := by omega
      have g_n_t5 := (x_t5.2.2.1 n m_n_t0).2.1 w_n_t0 g_n_t0
      have w_n_t5 : W5 t5 n := (x_t5.2.2.1 n m_n_t0).1 w_n_t0
      refine Kp_push C_t5 (by omega) (fun t7 C_t7 x_t7 a_t7 b_t7 d_t7 w_t7 u_t7 v_t7 _ _ _ l_t7 => ?_)
      have e_t7 := C_t7.2.2.2.1
      have m_n_t7 : n < m_md t7 := by omega
      have g_n_t7 := (x_t7.2.2.1 n m_n_t5).2.1 w_n_t5 g_n_t5
      have w_n_t7 : W5 t7 n := (x_t7.2.2.1 n m_n_t5).1 w_n_t5
      refine Ok_ret (show Ok _ _ _ from ?_)
      refine Ok_ret (show Ok _ _ _ from ?_)
      exact Or.inl ⟨Nat.ne_of_gt (show 0 < m_wr t7 from by omega), by omega⟩

theorem S_36 {s : Mm} {n t : Nat} {r : List It} (H : Hv s ((36, n, t) :: r)) {E : Mm → Prop} : Ok Qh E (b_X6_step 36 n t (w_td s (m_td s - 1))) := by
  obtain ⟨hT, hc, hw0, ha, hC, hS, hJ, hdp, hdl, hrw, hmd, htd, hln, hm16, hI, hD⟩ := Hv_pop H
  have C_t0 := hC n
  generalize ht0 : w_td s (m_td s - 1) = t0 at *
  have b_t0 : m_md t0 = m_md s := by rw [← ht0]
  have a_t0 : m_at t0 = m_at s := by rw [← ht0]
  have d_t0 : m_dp t0 = m_dp s := by rw [← ht0]
  have w_t0 : m_wr t0 = m_wr s := by rw [← ht0]
  have u_t0 : m_rw t0 = m_rw s := by rw [← ht0]
  have v_t0 : m_td t0 = m_td s - 1 := by rw [← ht0]
  have e_t0 : m_ct t0 = m_ct s := by rw [← ht0]
  have F0 := C_t0.2.1
  obtain ⟨m_n_t0, g_n_t0, w_n_t0⟩ : n < m_md t0 ∧ GdS t0 n ∧ W5 t0 n := hI.2.1 rfl
  have ht : t < 4096 := hI.1.1 (show 36 ≠ 42 by decide) (show 36 ≠ 48 by decide)
  have hdp : m_dp s = dlt 36 + sD r := hdp
  have hrw : m_rw s = rho 36 + sR r := hrw
  have hmd : m_md s + mu7 36 + sM r ≤ 3 * m_at s + 7 * r.length + 17 := hmd
  have hand : t &&& 1 ≤ 1 := Nat.and_le_right
  have h01 : (0 &&& 1 : Nat) = 0 := rfl
  have h02 : (1 : Nat) * 256 = 256 := rfl
  have hq1 : dlt 36 = 0 := rfl
  have hq2 : rho 36 = 0 := rfl
  have hq3 : mu7 36 = 7 := rfl
  unfold b_X6_step
  refine Ok_ifl (by decide) (by decide) (fun _ => ?_) (fun q => absurd (by decide) q)
  refine Ok_ifl (by decide) (by decide) (fun q => absurd q (by decide)) (fun _ => ?_)
  refine Ok_ifl (by decide) (by decide) (fun q => absurd q (by decide)) (fun _ => ?_)
  refine Ok_ifl (by decide) (by decide) (fun _ => ?_) (fun q => absurd (by decide) q)
  refine Ok_bnc ?_
  try unfold b_X6_declaring
  refine Ok_ck (by decide) ?_
  refine Ok_ife (by decide) (by decide) (fun q => absurd q (by decide)) (fun _ => ?_)
  refine Ok_ife (by decide) (by decide) (fun q => absurd q (by decide)) (fun _ => ?_)
  refine Ok_ife (by decide) (by decide) (fun q => absurd q (by decide)) (fun _ => ?_)
  refine Ok_ife (by decide) (by decide) (fun q => absurd q (by decide)) (fun _ => ?_)
  refine Ok_ife (by decide) (by decide) (fun q => absurd q (by decide)) (fun _ => ?_)
  refine Ok_ife (by decide) (by decide) (fun q => absurd q (by decide)) (fun _ => ?_)
  refine Ok_ife (by decide) (by decide) (fun q => absurd q (by decide)) (fun _ => ?_)
  refine Ok_ife (by decide) (by decide) (fun _ => ?_) (fun q => absurd (by decide) q)
  refine Ok_bnc ?_
  try unfold b_X6_constRest
  refine Kp_look C_t0 hT (by omega) ?_
  refine Ok_ife (Nat.lt_trans (lo_lt (C_t0.tk hT) _) (by decide)) (by decide) (fun q3 => ?_) (fun q3 => ?_)
  · refine Ok_bnc ?_
    try unfold b_X6_valued
    refine Kp_look C_t0 hT (by omega) ?_
    refine Ok_ife (Nat.lt_trans (lo_lt (C_t0.tk hT) _) (by decide)) (by decide) (fun q5 => ?_) (fun q5 => ?_)
    · refine Kp_pass C_t0 hT (by omega) (by decide) (by omega) (fun t6 C_t6 x_t6 a_t6 b_t6 d_t6 w_t6 u_t6 v_t6 _ _ _ l_t6 => ?_)
      have e_t6 := C_t6.2.2.2.1
      rcases w_t6 with ⟨w_t6, y_t6⟩ | ⟨w_t6, wb_t6⟩
      · have z_t6 : m_at t0 < m_ct t0 := lo_ne (Nat.ne_of_gt (show 0 < lo t0 (m_at t0) from by omega))
        have m_n_t6 : n < m_md t6 := by omega
        have g_n_t6 := (x_t6.2.2.1 n m_n_t0).2.1 w_n_t0 g_n_t0
        have w_n_t6 : W5 t6 n := (x_t6.2.2.1 n m_n_t0).1 w_n_t0
        refine Ok_bnc ?_
        try unfold b_X6_exprs
        refine Kp_child C_t6 m_n_t6 g_n_t6 w_n_t6 (by omega) (by omega) (fun t8 C_t8 x_t8 a_t8 b_t8 d_t8 w_t8 u_t8 v_t8 wn_t8 fn_t8 fp_t8 _ l_t8 => ?_)
        have e_t8 := C_t8.2.2.2.1
        have m_n_t8 : n < m_md t8 := by omega
        have g_n_t8 := (x_t8.2.2.1 n m_n_t6).2.1 w_n_t6 g_n_t6
        have w_n_t8 : W5 t8 n := (x_t8.2.2.1 n m_n_t6).1 w_n_t6
        have f_n_t8 : Fz t8 n := fp_t8
        have m_m_mdt6_t8 : m_md t6 < m_md t8 := by omega
        have g_m_mdt6_t8 : GdS t8 (m_md t6) := Or.inl fn_t8
        have w_m_mdt6_t8 : W5 t8 (m_md t6) := by unfold W5; rw [wn_t8]; decide
        have u_m_mdt6_t8 : Up t8 (m_md t6) := Or.inl fn_t8
        clear fp_t8 fn_t8 wn_t8
        refine Kp_push C_t8 (by omega) (fun t9 C_t9 x_t9 a_t9 b_t9 d_t9 w_t9 u_t9 v_t9 _ _ _ l_t9 => ?_)
        have e_t9 := C_t9.2.2.2.1
        have m_n_t9 : n < m_md t9 := by omega
        have g_n_t9 := (x_t9.2.2.1 n m_n_t8).2.1 w_n_t8 g_n_t8
        have w_n_t9 : W5 t9 n := (x_t9.2.2.1 n m_n_t8).1 w_n_t8
        have f_n_t9 : Fz t9 n := (x_t9.2.2.1 n m_n_t8).2.2.1 f_n_t8
        have m_m_mdt6_t9 : m_md t6 < m_md t9 := by omega
        have g_m_mdt6_t9 := (x_t9.2.2.1 (m_md t6) m_m_mdt6_t8).2.1 w_m_mdt6_t8 g_m_mdt6_t8
        have w_m_mdt6_t9 : W5 t9 (m_md t6) := (x_t9.2.2.1 (m_md t6) m_m_mdt6_t8).1 w_m_mdt6_t8
        have u_m_mdt6_t9 := (x_t9.2.2.1 (m_md t6) m_m_mdt6_t8).2.2.2.1 u_m_mdt6_t8
        refine Ok_bnc ?_
        try unfold b_X6_expression
        refine Kp_push C_t9 (by omega) (fun t11 C_t11 x_t11 a_t11 b_t11 d_t11 w_t11 u_t11 v_t11 _ _ _ l_t11 => ?_)
        have e_t11 := C_t11.2.2.2.1
        have m_n_t11 : n < m_md t11 := by omega
        have g_n_t11 := (x_t11.2.2.1 n m_n_t9).2.1 w_n_t9 g_n_t9
        have w_n_t11 : W5 t11 n := (x_t11.2.2.1 n m_n_t9).1 w_n_t9
        have f_n_t11 : Fz t11 n := (x_t11.2.2.1 n m_n_t9).2.2.1 f_n_t9
        have m_m_mdt6_t11 : m_md t6 < m_md t11 := by omega
        have g_m_mdt6_t11 := (x_t11.2.2.1 (m_md t6) m_m_mdt6_t9).2.1 w_m_mdt6_t9 g_m_mdt6_t9
        have w_m_mdt6_t11 : W5 t11 (m_md t6) := (x_t11.2.2.1 (m_md t6) m_m_mdt6_t9).1 w_m_mdt6_t9
        have u_m_mdt6_t11 := (x_t11.2.2.1 (m_md t6) m_m_mdt6_t9).2.2.2.1 u_m_mdt6_t9
        refine Kp_push C_t11 (by omega) (fun t12 C_t12 x_t12 a_t12 b_t12 d_t12 w_t12 u_t12 v_t12 _ _ _ l_t12 => ?_)
        have e_t12 := C_t12.2.2.2.1
        have m_n_t12 : n < m_md t12 := by omega
        have g_n_t12 := (x_t12.2.2.1 n m_n_t11).2.1 w_n_t11 g_n_t11
        have w_n_t12 : W5 t12 n := (x_t12.2.2.1 n m_n_t11).1 w_n_t11
        have f_n_t12 : Fz t12 n := (x_t12.2.2.1 n m_n_t11).2.2.1 f_n_t11
        have m_m_mdt6_t12 : m_md t6 < m_md t12 := by omega
        have g_m_mdt6_t12 := (x_t12.2.2.1 (m_md t6) m_m_mdt6_t11).2.1 w_m_mdt6_t11 g_m_mdt6_t11
        have w_m_mdt6_t12 : W5 t12 (m_md t6) := (x_t12.2.2.1 (m_md t6) m_m_mdt6_t11).1 w_m_mdt6_t11
        have u_m_mdt6_t12 := (x_t12.2.2.1 (m_md t6) m_m_mdt6_t11).2.2.2.1 u_m_mdt6_t11
        refine Ok_ret (show Ok _ _ _ from ?_)
        refine Ok_ret (show Ok _ _ _ from ?_)
        refine Ok_ret (show Ok _ _ _ from ?_)
        refine Ok_ret (show Ok _ _ _ from ?_)
        refine Ok_ret (show Ok _ _ _ from ?_)
        refine Hv_mk C_t12 hT (by omega) (by omega) (by omega) ?_ ?_ ?_ (by omega) ?_ ?_
        · exact ⟨(Io_n (by decide) (show 0 &&& 1 < 4096 from by omega) m_m_mdt6_t12 g_m_mdt6_t12 w_m_mdt6_t12 (fun q => absurd q (by decide)) (fun q => absurd q (by decide))), (Nd_0 (by decide) Mo_nil), ⟨(Io_2 (by have := or_256 (b := 1) (show (0 &&& 1) < 256 from by omega); omega) (by have := or_256 (b := 1) (show (0 &&& 1) < 256 from by omega); omega) (by have := or_256 (b := 1) (show (0 &&& 1) < 256 from by omega); omega) m_m_mdt6_t12 g_m_mdt6_t12 w_m_mdt6_t12), (Nd_A (by decide) (Mo_cons (fun q => show m_md t6 ≤ m_md t6 from by omega) Mo_nil) (Or.inr ⟨(3, m_md t6, 0 &&& 1), List.mem_cons_self, rfl, Or.inl rfl⟩)), ⟨(Io_n (by decide) (show 0 &&& 1 < 4096 from by omega) m_m_mdt6_t12 g_m_mdt6_t12 w_m_mdt6_t12 (fun q => absurd q (by decide)) (fun q => absurd q (by decide))), (Nd_0 (by decide) (Mo_cons (fun q => show m_md t6 ≤ m_md t6 from by omega) (Mo_cons (fun q => show m_md t6 ≤ m_md t6 from by omega) Mo_nil))), Stk_step (N := n) (pop := (36, n, t)) (new := [(32, m_md t6, 0 &&& 1), (2, m_md t6, (0 &&& 1) ||| (1 * 256)), (3, m_md t6, 0 &&& 1)]) F0 C_t12.1 (fun _ => m_n_t0) (fun q _ h => h (36, n, t) rfl) (fun _ => rfl) (fun y hy hk => ⟨rfl, (Mo_cons (fun q => show n ≤ m_md t6 from by omega) (Mo_cons (fun q => show n ≤ m_md t6 from by omega) (Mo_cons (fun q => show n ≤ m_md t6 from by omega) Mo_nil))) y hy hk⟩) (fun (h : 36 = 3 ∨ 36 = 18 ∨ 36 = 41) => absurd h (by decide)) (fun (h : 36 = 18) => absurd h (by decide)) (fun (h : 36 = 41 ∨ 36 = 42 ∨ 36 = 43) => absurd h (by decide)) r [] (fun y hy => absurd hy List.not_mem_nil) hS⟩⟩⟩
        · exact (Aj_up (x := (3, m_md t6, 0 &&& 1)) (Aj_up (x := (2, m_md t6, (0 &&& 1) ||| (1 * 256))) (Aj_sub (y := (32, m_md t6, 0 &&& 1)) hJ (Nat.le_of_ble_eq_true rfl)) (Or.inr (show 9 - ((0 &&& 1) ||| (1 * 256)) / 256 < 9 from by have := or_256 (b := 1) (show (0 &&& 1) < 256 from by omega); omega))) (Or.inr (show 2 < 9 - ((0 &&& 1) ||| (1 * 256)) / 256 from by have := or_256 (b := 1) (show (0 &&& 1) < 256 from by omega); omega)))
        · show m_dp t12 = (dlt 3 + (dlt 2 + (dlt 32 + sD r)))
          have : dlt 2 = 0 := rfl; have : dlt 3 = 0 := rfl; have : dlt 32 = 0 := rfl; have : dlt 36 = 0 := rfl; omega
        · show m_rw t12 = (rho 3 + (rho 2 + (rho 32 + sR r)))
          have : rho 2 = 0 := rfl; have : rho 3 = 0 := rfl; have : rho 32 = 0 := rfl; have : rho 36 = 0 := rfl; omega
        · show m_md t12 + (mu7 3 + (mu7 2 + (mu7 32 + sM r))) ≤ 3 * m_at t12 + 7 * (r.length + 1 + 1 + 1) + 10
          have : mu7 2 = 7 := rfl; have : mu7 3 = 5 := rfl; have : mu7 32 = 7 := rfl; have : mu7 36 = 7 := rfl; omega
      · have w_t6 := Nat.pos_of_ne_zero w_t6
        have m_n_t6 : n < m_md t6 := by omega
        have g_n_t6 := (x_t6.2.2.1 n m_n_t0).2.1 w_n_t0 g_n_t0
        have w_n_t6 : W5 t6 n := (x_t6.2.2.1 n m_n_t0).1 w_n_t0
        refine Ok_bnc ?_
        try unfold b_X6_exprs
        refine Kp_child C_t6 m_n_t6 g_n_t6 w_n_t6 (by omega) (by omega) (fun t14 C_t14 x_t14 a_t14 b_t14 d_t14 w_t14 u_t14 v_t14 wn_t14 fn_t14 fp_t14 _ l_t14 => ?_)
        have e_t14 := C_t14.2.2.2.1
        have m_n_t14 : n < m_md t14 := by omega
        have g_n_t14 := (x_t14.2.2.1 n m_n_t6).2.1 w_n_t6 g_n_t6
        have w_n_t14 : W5 t14 n := (x_t14.2.2.1 n m_n_t6).1 w_n_t6
        have f_n_t14 : Fz t14 n := fp_t14
        have m_m_mdt6_t14 : m_md t6 < m_md t14 := by omega
        have g_m_mdt6_t14 : GdS t14 (m_md t6) := Or.inl fn_t14
        have w_m_mdt6_t14 : W5 t14 (m_md t6) := by unfold W5; rw [wn_t14]; decide
        have u_m_mdt6_t14 : Up t14 (m_md t6) := Or.inl fn_t14
        clear fp_t14 fn_t14 wn_t14
        refine Kp_push C_t14 (by omega) (fun t15 C_t15 x_t15 a_t15 b_t15 d_t15 w_t15 u_t15 v_t15 _ _ _ l_t15 => ?_)
        have e_t15 := C_t15.2.2.2.1
        have m_n_t15 : n < m_md t15 := by omega
        have g_n_t15 := (x_t15.2.2.1 n m_n_t14).2.1 w_n_t14 g_n_t14
        have w_n_t15 : W5 t15 n := (x_t15.2.2.1 n m_n_t14).1 w_n_t14
        have f_n_t15 : Fz t15 n := (x_t15.2.2.1 n m_n_t14).2.2.1 f_n_t14
        have m_m_mdt6_t15 : m_md t6 < m_md t15 := by omega
        have g_m_mdt6_t15 := (x_t15.2.2.1 (m_md t6) m_m_mdt6_t14).2.1 w_m_mdt6_t14 g_m_mdt6_t14
        have w_m_mdt6_t15 : W5 t15 (m_md t6) := (x_t15.2.2.1 (m_md t6) m_m_mdt6_t14).1 w_m_mdt6_t14
        have u_m_mdt6_t15 := (x_t15.2.2.1 (m_md t6) m_m_mdt6_t14).2.2.2.1 u_m_mdt6_t14
        refine Ok_bnc ?_
        try unfold b_X6_expression
        refine Kp_push C_t15 (by omega) (fun t17 C_t17 x_t17 a_t17 b_t17 d_t17 w_t17 u_t17 v_t17 _ _ _ l_t17 => ?_)
        have e_t17 := C_t17.2.2.2.1
        have m_n_t17 : n < m_md t17 := by omega
        have g_n_t17 := (x_t17.2.2.1 n m_n_t15).2.1 w_n_t15 g_n_t15
        have w_n_t17 : W5 t17 n := (x_t17.2.2.1 n m_n_t15).1 w_n_t15
        have f_n_t17 : Fz t17 n := (x_t17.2.2.1 n m_n_t15).2.2.1 f_n_t15
        have m_m_mdt6_t17 : m_md t6 < m_md t17 := by omega
        have g_m_mdt6_t17 := (x_t17.2.2.1 (m_md t6) m_m_mdt6_t15).2.1 w_m_mdt6_t15 g_m_mdt6_t15
        have w_m_mdt6_t17 : W5 t17 (m_md t6) := (x_t17.2.2.1 (m_md t6) m_m_mdt6_t15).1 w_m_mdt6_t15
        have u_m_mdt6_t17 := (x_t17.2.2.1 (m_md t6) m_m_mdt6_t15).2.2.2.1 u_m_mdt6_t15
        refine Kp_push C_t17 (by omega) (fun t18 C_t18 x_t18 a_t18 b_t18 d_t18 w_t18 u_t18 v_t18 _ _ _ l_t18 => ?_)
        have e_t18 := C_t18.2.2.2.1
        have m_n_t18 : n < m_md t18 := by omega
        have g_n_t18 := (x_t18.2.2.1 n m_n_t17).2.1 w_n_t17 g_n_t17
        have w_n_t18 : W5 t18 n := (x_t18.2.2.1 n m_n_t17).1 w_n_t17
        have f_n_t18 : Fz t18 n := (x_t18.2.2.1 n m_n_t17).2.2.1 f_n_t17
        have m_m_mdt6_t18 : m_md t6 < m_md t18 := by omega
        have g_m_mdt6_t18 := (x_t18.2.2.1 (m_md t6) m_m_mdt6_t17).2.1 w_m_mdt6_t17 g_m_mdt6_t17
        have w_m_mdt6_t18 : W5 t18 (m_md t6) := (x_t18.2.2.1 (m_md t6) m_m_mdt6_t17).1 w_m_mdt6_t17
        have u_m_mdt6_t18 := (x_t18.2.2.1 (m_md t6) m_m_mdt6_t17).2.2.2.1 u_m_mdt6_t17
        refine Ok_ret (show Ok _ _ _ from ?_)
        refine Ok_ret (show Ok _ _ _ from ?_)
        refine Ok_ret (show Ok _ _ _ from ?_)
        refine Ok_ret (show Ok _ _ _ from ?_)
        refine Ok_ret (show Ok _ _ _ from ?_)
        exact Or.inl ⟨Nat.ne_of_gt (show 0 < m_wr t18 from by omega), by omega⟩
    · refine Ok_ife (by decide) (by decide) (fun q => absurd q (by decide)) (fun _ => ?_)
      refine Ok_ret (show Ok _ _ _ from ?_)
      refine Ok_ret (show Ok _ _ _ from ?_)
      refine Ok_ret (show Ok _ _ _ from ?_)
      refine Hv_mk C_t0 hT (by omega) (by omega) (by omega) ?_ ?_ ?_ (by omega) ?_ ?_
      · exact Stk_step (N := n) (pop := (36, n, t)) (new := []) F0 C_t0.1 (fun _ => m_n_t0) (fun q _ h => h (36, n, t) rfl) (fun _ => rfl) (fun y hy hk => ⟨rfl, Mo_nil (n := n) y hy hk⟩) (fun (h : 36 = 3 ∨ 36 = 18 ∨ 36 = 41) => absurd h (by decide)) (fun (h : 36 = 18) => absurd h (by decide)) (fun (h : 36 = 41 ∨ 36 = 42 ∨ 36 = 43) => absurd h (by decide)) r [] (fun y hy => absurd hy List.not_mem_nil) hS
      · exact Aj_tl hJ
      · show m_dp t0 = sD r
        have : dlt 36 = 0 := rfl; omega
      · show m_rw t0 = sR r
        have : rho 36 = 0 := rfl; omega
      · show m_md t0 + sM r ≤ 3 * m_at t0 + 7 * (r.length) + 10
        have : mu7 36 = 7 := rfl; omega
  · refine Kp_look C_t0 hT (by omega) ?_
    refine Ok_ck (Nat.lt_trans (lo_lt (C_t0.tk hT) _) (by decide)) ?_
    refine Ok_ifz (f6_beginsType _) (fun q19 => ?_) (fun q19 => ?_)
    · refine Ok_bnc ?_
      try unfold b_X6_valued
      refine Kp_look C_t0 hT (by omega) ?_
      refine Ok_ife (Nat.lt_trans (lo_lt (C_t0.tk hT) _) (by decide)) (by decide) (fun q21 => ?_) (fun q21 => ?_)
      · refine Kp_pass C_t0 hT (by omega) (by decide) (by omega) (fun t22 C_t22 x_t22 a_t22 b_t22 d_t22 w_t22 u_t22 v_t22 _ _ _ l_t22 => ?_)
        have e_t22 := C_t22.2.2.2.1
        rcases w_t22 with ⟨w_t22, y_t22⟩ | ⟨w_t22, wb_t22⟩
        · have z_t22 : m_at t0 < m_ct t0 := lo_ne (Nat.ne_of_gt (show 0 < lo t0 (m_at t0) from by omega))
          have m_n_t22 : n < m_md t22 := by omega
          have g_n_t22 := (x_t22.2.2.1 n m_n_t0).2.1 w_n_t0 g_n_t0
          have w_n_t22 : W5 t22 n := (x_t22.2.2.1 n m_n_t0).1 w_n_t0
          refine Ok_bnc ?_
          try unfold b_X6_exprs
          refine Kp_child C_t22 m_n_t22 g_n_t22 w_n_t22 (by omega) (by omega) (fun t24 C_t24 x_t24 a_t24 b_t24 d_t24 w_t24 u_t24 v_t24 wn_t24 fn_t24 fp_t24 _ l_t24 => ?_)
          have e_t24 := C_t24.2.2.2.1
          have m_n_t24 : n < m_md t24 := by omega
          have g_n_t24 := (x_t24.2.2.1 n m_n_t22).2.1 w_n_t22 g_n_t22
          have w_n_t24 : W5 t24 n := (x_t24.2.2.1 n m_n_t22).1 w_n_t22
          have f_n_t24 : Fz t24 n := fp_t24
          have m_m_mdt22_t24 : m_md t22 < m_md t24 := by omega
          have g_m_mdt22_t24 : GdS t24 (m_md t22) := Or.inl fn_t24
          have w_m_mdt22_t24 : W5 t24 (m_md t22) := by unfold W5; rw [wn_t24]; decide
          have u_m_mdt22_t24 : Up t24 (m_md t22) := Or.inl fn_t24
          clear fp_t24 fn_t24 wn_t24
          refine Kp_push C_t24 (by omega) (fun t25 C_t25 x_t25 a_t25 b_t25 d_t25 w_t25 u_t25 v_t25 _ _ _ l_t25 => ?_)
          have e_t25 := C_t25.2.2.2.1
          have m_n_t25 : n < m_md t25 := by omega
          have g_n_t25 := (x_t25.2.2.1 n m_n_t24).2.1 w_n_t24 g_n_t24
          have w_n_t25 : W5 t25 n := (x_t25.2.2.1 n m_n_t24).1 w_n_t24
          have f_n_t25 : Fz t25 n := (x_t25.2.2.1 n m_n_t24).2.2.1 f_n_t24
          have m_m_mdt22_t25 : m_md t22 < m_md t25 := by omega
          have g_m_mdt22_t25 := (x_t25.2.2.1 (m_md t22) m_m_mdt22_t24).2.1 w_m_mdt22_t24 g_m_mdt22_t24
          have w_m_mdt22_t25 : W5 t25 (m_md t22) := (x_t25.2.2.1 (m_md t22) m_m_mdt22_t24).1 w_m_mdt22_t24
          have u_m_mdt22_t25 := (x_t25.2.2.1 (m_md t22) m_m_mdt22_t24).2.2.2.1 u_m_mdt22_t24
          refine Ok_bnc ?_
          try unfold b_X6_expression
          refine Kp_push C_t25 (by omega) (fun t27 C_t27 x_t27 a_t27 b_t27 d_t27 w_t27 u_t27 v_t27 _ _ _ l_t27 => ?_)
          have e_t27 := C_t27.2.2.2.1
          have m_n_t27 : n < m_md t27 := by omega
          have g_n_t27 := (x_t27.2.2.1 n m_n_t25).2.1 w_n_t25 g_n_t25
          have w_n_t27 : W5 t27 n := (x_t27.2.2.1 n m_n_t25).1 w_n_t25
          have f_n_t27 : Fz t27 n := (x_t27.2.2.1 n m_n_t25).2.2.1 f_n_t25
          have m_m_mdt22_t27 : m_md t22 < m_md t27 := by omega
          have g_m_mdt22_t27 := (x_t27.2.2.1 (m_md t22) m_m_mdt22_t25).2.1 w_m_mdt22_t25 g_m_mdt22_t25
          have w_m_mdt22_t27 : W5 t27 (m_md t22) := (x_t27.2.2.1 (m_md t22) m_m_mdt22_t25).1 w_m_mdt22_t25
          have u_m_mdt22_t27 := (x_t27.2.2.1 (m_md t22) m_m_mdt22_t25).2.2.2.1 u_m_mdt22_t25
          refine Kp_push C_t27 (by omega) (fun t28 C_t28 x_t28 a_t28 b_t28 d_t28 w_t28 u_t28 v_t28 _ _ _ l_t28 => ?_)
          have e_t28 := C_t28.2.2.2.1
          have m_n_t28 : n < m_md t28 := by omega
          have g_n_t28 := (x_t28.2.2.1 n m_n_t27).2.1 w_n_t27 g_n_t27
          have w_n_t28 : W5 t28 n := (x_t28.2.2.1 n m_n_t27).1 w_n_t27
          have f_n_t28 : Fz t28 n := (x_t28.2.2.1 n m_n_t27).2.2.1 f_n_t27
          have m_m_mdt22_t28 : m_md t22 < m_md t28 := by omega
          have g_m_mdt22_t28 := (x_t28.2.2.1 (m_md t22) m_m_mdt22_t27).2.1 w_m_mdt22_t27 g_m_mdt22_t27
          have w_m_mdt22_t28 : W5 t28 (m_md t22) := (x_t28.2.2.1 (m_md t22) m_m_mdt22_t27).1 w_m_mdt22_t27
          have u_m_mdt22_t28 := (x_t28.2.2.1 (m_md t22) m_m_mdt22_t27).2.2.2.1 u_m_mdt22_t27
          refine Ok_ret (show Ok _ _ _ from ?_)
          refine Ok_ret (show Ok _ _ _ from ?_)
          refine Ok_ret (show Ok _ _ _ from ?_)
          refine Ok_ret (show Ok _ _ _ from ?_)
          refine Ok_ret (show Ok _ _ _ from ?_)
          refine Hv_mk C_t28 hT (by omega) (by omega) (by omega) ?_ ?_ ?_ (by omega) ?_ ?_
          · exact ⟨(Io_n (by decide) (show 0 &&& 1 < 4096 from by omega) m_m_mdt22_t28 g_m_mdt22_t28 w_m_mdt22_t28 (fun q => absurd q (by decide)) (fun q => absurd q (by decide))), (Nd_0 (by decide) Mo_nil), ⟨(Io_2 (by have := or_256 (b := 1) (show (0 &&& 1) < 256 from by omega); omega) (by have := or_256 (b := 1) (show (0 &&& 1) < 256 from by omega); omega) (by have := or_256 (b := 1) (show (0 &&& 1) < 256 from by omega); omega) m_m_mdt22_t28 g_m_mdt22_t28 w_m_mdt22_t28), (Nd_A (by decide) (Mo_cons (fun q => show m_md t22 ≤ m_md t22 from by omega) Mo_nil) (Or.inr ⟨(3, m_md t22, 0 &&& 1), List.mem_cons_self, rfl, Or.inl rfl⟩)), ⟨(Io_n (by decide) (show 0 &&& 1 < 4096 from by omega) m_m_mdt22_t28 g_m_mdt22_t28 w_m_mdt22_t28 (fun q => absurd q (by decide)) (fun q => absurd q (by decide))), (Nd_0 (by decide) (Mo_cons (fun q => show m_md t22 ≤ m_md t22 from by omega) (Mo_cons (fun q => show m_md t22 ≤ m_md t22 from by omega) Mo_nil))), Stk_step (N := n) (pop := (36, n, t)) (new := [(32, m_md t22, 0 &&& 1), (2, m_md t22, (0 &&& 1) ||| (1 * 256)), (3, m_md t22, 0 &&& 1)]) F0 C_t28.1 (fun _ => m_n_t0) (fun q _ h => h (36, n, t) rfl) (fun _ => rfl) (fun y hy hk => ⟨rfl, (Mo_cons (fun q => show n ≤ m_md t22 from by omega) (Mo_cons (fun q => show n ≤ m_md t22 from by omega) (Mo_cons (fun q => show n ≤ m_md t22 from by omega) Mo_nil))) y hy hk⟩) (fun (h : 36 = 3 ∨ 36 = 18 ∨ 36 = 41) => absurd h (by decide)) (fun (h : 36 = 18) => absurd h (by decide)) (fun (h : 36 = 41 ∨ 36 = 42 ∨ 36 = 43) => absurd h (by decide)) r [] (fun y hy => absurd hy List.not_mem_nil) hS⟩⟩⟩
          · exact (Aj_up (x := (3, m_md t22, 0 &&& 1)) (Aj_up (x := (2, m_md t22, (0 &&& 1) ||| (1 * 256))) (Aj_sub (y := (32, m_md t22, 0 &&& 1)) hJ (Nat.le_of_ble_eq_true rfl)) (Or.inr (show 9 - ((0 &&& 1) ||| (1 * 256)) / 256 < 9 from by have := or_256 (b := 1) (show (0 &&& 1) < 256 from by omega); omega))) (Or.inr (show 2 < 9 - ((0 &&& 1) ||| (1 * 256)) / 256 from by have := or_256 (b := 1) (show (0 &&& 1) < 256 from by omega); omega)))
          · show m_dp t28 = (dlt 3 + (dlt 2 + (dlt 32 + sD r)))
            have : dlt 2 = 0 := rfl; have : dlt 3 = 0 := rfl; have : dlt 32 = 0 := rfl; have : dlt 36 = 0 := rfl; omega
          · show m_rw t28 = (rho 3 + (rho 2 + (rho 32 + sR r)))
            have : rho 2 = 0 := rfl; have : rho 3 = 0 := rfl; have : rho 32 = 0 := rfl; have : rho 36 = 0 := rfl; omega
          · show m_md t28 + (mu7 3 + (mu7 2 + (mu7 32 + sM r))) ≤ 3 * m_at t28 + 7 * (r.length + 1 + 1 + 1) + 10
            have : mu7 2 = 7 := rfl; have : mu7 3 = 5 := rfl; have : mu7 32 = 7 := rfl; have : mu7 36 = 7 := rfl; omega
        · have w_t22 := Nat.pos_of_ne_zero w_t22
          have m_n_t22 : n < m_md t22 := by omega
          have g_n_t22 := (x_t22.2.2.1 n m_n_t0).2.1 w_n_t0 g_n_t0
          have w_n_t22 : W5 t22 n := (x_t22.2.2.1 n m_n_t0).1 w_n_t0
          refine Ok_bnc ?_
          try unfold b_X6_exprs
          refine Kp_child C_t22 m_n_t22 g_n_t22 w_n_t22 (by omega) (by omega) (fun t30 C_t30 x_t30 a_t30 b_t30 d_t30 w_t30 u_t30 v_t30 wn_t30 fn_t30 fp_t30 _ l_t30 => ?_)
          have e_t30 := C_t30.2.2.2.1
          have m_n_t30 : n < m_md t30 := by omega
          have g_n_t30 := (x_t30.2.2.1 n m_n_t22).2.1 w_n_t22 g_n_t22
          have w_n_t30 : W5 t30 n := (x_t30.2.2.1 n m_n_t22).1 w_n_t22
          have f_n_t30 : Fz t30 n := fp_t30
          have m_m_mdt22_t30 : m_md t22 < m_md t30 := by omega
          have g_m_mdt22_t30 : GdS t30 (m_md t22) := Or.inl fn_t30
          have w_m_mdt22_t30 : W5 t30 (m_md t22) := by unfold W5; rw [wn_t30]; decide
          have u_m_mdt22_t30 : Up t30 (m_md t22) := Or.inl fn_t30
          clear fp_t30 fn_t30 wn_t30
          refine Kp_push C_t30 (by omega) (fun t31 C_t31 x_t31 a_t31 b_t31 d_t31 w_t31 u_t31 v_t31 _ _ _ l_t31 => ?_)
          have e_t31 := C_t31.2.2.2.1
          have m_n_t31 : n < m_md t31 := by omega
          have g_n_t31 := (x_t31.2.2.1 n m_n_t30).2.1 w_n_t30 g_n_t30
          have w_n_t31 : W5 t31 n := (x_t31.2.2.1 n m_n_t30).1 w_n_t30
          have f_n_t31 : Fz t31 n := (x_t31.2.2.1 n m_n_t30).2.2.1 f_n_t30
          have m_m_mdt22_t31 : m_md t22 < m_md t31 := by omega
          have g_m_mdt22_t31 := (x_t31.2.2.1 (m_md t22) m_m_mdt22_t30).2.1 w_m_mdt22_t30 g_m_mdt22_t30
          have w_m_mdt22_t31 : W5 t31 (m_md t22) := (x_t31.2.2.1 (m_md t22) m_m_mdt22_t30).1 w_m_mdt22_t30
          have u_m_mdt22_t31 := (x_t31.2.2.1 (m_md t22) m_m_mdt22_t30).2.2.2.1 u_m_mdt22_t30
          refine Ok_bnc ?_
          try unfold b_X6_expression
          refine Kp_push C_t31 (by omega) (fun t33 C_t33 x_t33 a_t33 b_t33 d_t33 w_t33 u_t33 v_t33 _ _ _ l_t33 => ?_)
          have e_t33 := C_t33.2.2.2.1
          have m_n_t33 : n < m_md t33 := by omega
          have g_n_t33 := (x_t33.2.2.1 n m_n_t31).2.1 w_n_t31 g_n_t31
          have w_n_t33 : W5 t33 n := (x_t33.2.2.1 n m_n_t31).1 w_n_t31
          have f_n_t33 : Fz t33 n := (x_t33.2.2.1 n m_n_t31).2.2.1 f_n_t31
          have m_m_mdt22_t33 : m_md t22 < m_md t33 := by omega
          have g_m_mdt22_t33 := (x_t33.2.2.1 (m_md t22) m_m_mdt22_t31).2.1 w_m_mdt22_t31 g_m_mdt22_t31
          have w_m_mdt22_t33 : W5 t33 (m_md t22) := (x_t33.2.2.1 (m_md t22) m_m_mdt22_t31).1 w_m_mdt22_t31
          have u_m_mdt22_t33 := (x_t33.2.2.1 (m_md t22) m_m_mdt22_t31).2.2.2.1 u_m_mdt22_t31
          refine Kp_push C_t33 (by omega) (fun t34 C_t34 x_t34 a_t34 b_t34 d_t34 w_t34 u_t34 v_t34 _ _ _ l_t34 => ?_)
          have e_t34 := C_t34.2.2.2.1
          have m_n_t34 : n < m_md t34 := by omega
          have g_n_t34 := (x_t34.2.2.1 n m_n_t33).2.1 w_n_t33 g_n_t33
          have w_n_t34 : W5 t34 n := (x_t34.2.2.1 n m_n_t33).1 w_n_t33
          have f_n_t34 : Fz t34 n := (x_t34.2.2.1 n m_n_t33).2.2.1 f_n_t33
          have m_m_mdt22_t34 : m_md t22 < m_md t34 := by omega
          have g_m_mdt22_t34 := (x_t34.2.2.1 (m_md t22) m_m_mdt22_t33).2.1 w_m_mdt22_t33 g_m_mdt22_t33
          have w_m_mdt22_t34 : W5 t34 (m_md t22) := (x_t34.2.2.1 (m_md t22) m_m_mdt22_t33).1 w_m_mdt22_t33
          have u_m_mdt22_t34 := (x_t34.2.2.1 (m_md t22) m_m_mdt22_t33).2.2.2.1 u_m_mdt22_t33
          refine Ok_ret (show Ok _ _ _ from ?_)
          refine Ok_ret (show Ok _ _ _ from ?_)
          refine Ok_ret (show Ok _ _ _ from ?_)
          refine Ok_ret (show Ok _ _ _ from ?_)
          refine Ok_ret (show Ok _ _ _ from ?_)
          exact Or.inl ⟨Nat.ne_of_gt (show 0 < m_wr t34 from by omega), by omega⟩
      · refine Ok_ife (by decide) (by decide) (fun q => absurd q (by decide)) (fun _ => ?_)
        refine Ok_ret (show Ok _ _ _ from ?_)
        refine Ok_ret (show Ok _ _ _ from ?_)
        refine Ok_ret (show Ok _ _ _ from ?_)
        refine Hv_mk C_t0 hT (by omega) (by omega) (by omega) ?_ ?_ ?_ (by omega) ?_ ?_
        · exact Stk_step (N := n) (pop := (36, n, t)) (new := []) F0 C_t0.1 (fun _ => m_n_t0) (fun q _ h => h (36, n, t) rfl) (fun _ => rfl) (fun y hy hk => ⟨rfl, Mo_nil (n := n) y hy hk⟩) (fun (h : 36 = 3 ∨ 36 = 18 ∨ 36 = 41) => absurd h (by decide)) (fun (h : 36 = 18) => absurd h (by decide)) (fun (h : 36 = 41 ∨ 36 = 42 ∨ 36 = 43) => absurd h (by decide)) r [] (fun y hy => absurd hy List.not_mem_nil) hS
        · exact Aj_tl hJ
        · show m_dp t0 = sD r
          have : dlt 36 = 0 := rfl; omega
        · show m_rw t0 = sR r
          have : rho 36 = 0 := rfl; omega
        · show m_md t0 + sM r ≤ 3 * m_at t0 + 7 * (r.length) + 10
          have : mu7 36 = 7 := rfl; omega
    · have q19n := Nat.pos_of_ne_zero (n6_beginsType q19)
      refine Kp_push C_t0 (by omega) (fun t35 C_t35 x_t35 a_t35 b_t35 d_t35 w_t35 u_t35 v_t35 _ _ _ l_t35 => ?_)
      have e_t35 := C_t35.2.2.2.1
      have m_n_t35 : n < m_md t35 := by omega
      have g_n_t35 := (x_t35.2.2.1 n m_n_t0).2.1 w_n_t0 g_n_t0
      have w_n_t35 : W5 t35 n := (x_t35.2.2.1 n m_n_t0).1 w_n_t0
      refine Kp_push C_t35 (by omega) (fun t36 C_t36 x_t36 a_t36 b_t36 d_t36 w_t36 u_t36 v_t36 _ _ _ l_t36 => ?_)
      have e_t36 := C_t36.2.2.2.1
      have m_n_t36 : n < m_md t36 := by omega
      have g_n_t36 := (x_t36.2.2.1 n m_n_t35).2.1 w_n_t35 g_n_t35
      have w_n_t36 : W5 t36 n := (x_t36.2.2.1 n m_n_t35).1 w_n_t35
      refine Ok_ret (show Ok _ _ _ from ?_)
      refine Ok_ret (show Ok _ _ _ from ?_)
      refine Hv_mk C_t36 hT (by omega) (by omega) (by omega) ?_ ?_ ?_ (by omega) ?_ ?_
      · exact ⟨(Io_n (by decide) (by decide) m_n_t36 g_n_t36 w_n_t36 (fun q => absurd q (by decide)) (fun q => absurd q (by decide))), (Nd_0 (by decide) Mo_nil), ⟨(Io_n (by decide) (by decide) m_n_t36 g_n_t36 w_n_t36 (fun q => absurd q (by decide)) (fun q => absurd q (by decide))), (Nd_0 (by decide) (Mo_cons (fun q => show n ≤ n from by omega) Mo_nil)), Stk_step (N := n) (pop := (36, n, t)) (new := [(58, n, 1), (18, n, 0)]) F0 C_t36.1 (fun _ => m_n_t0) (fun q _ h => h (36, n, t) rfl) (fun _ => rfl) (fun y hy hk => ⟨rfl, (Mo_cons (fun q => show n ≤ n from by omega) (Mo_cons (fun q => show n ≤ n from by omega) Mo_nil)) y hy hk⟩) (fun (h : 36 = 3 ∨ 36 = 18 ∨ 36 = 41) => absurd h (by decide)) (fun (h : 36 = 18) => absurd h (by decide)) (fun (h : 36 = 41 ∨ 36 = 42 ∨ 36 = 43) => absurd h (by decide)) r [] (fun y hy => absurd hy List.not_mem_nil) hS⟩⟩
      · exact (Aj_up (x := (18, n, 0)) (Aj_sub (y := (58, n, 1)) hJ (Nat.le_of_ble_eq_true rfl)) (Or.inr (Nat.le_of_ble_eq_true rfl)))
      · show m_dp t36 = (dlt 18 + (dlt 58 + sD r))
        have : dlt 18 = 0 := rfl; have : dlt 36 = 0 := rfl; have : dlt 58 = 0 := rfl; omega
      · show m_rw t36 = (rho 18 + (rho 58 + sR r))
        have : rho 18 = 0 := rfl; have : rho 36 = 0 := rfl; have : rho 58 = 0 := rfl; omega
      · show m_md t36 + (mu7 18 + (mu7 58 + sM r)) ≤ 3 * m_at t36 + 7 * (r.length + 1 + 1) + 10
        have : mu7 18 = 5 := rfl; have : mu7 36 = 7 := rfl; have : mu7 58 = 7 := rfl; omega

