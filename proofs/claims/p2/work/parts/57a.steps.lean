/-! The steps of the reference, one by one. -/
theorem S_9 {s : Mm} {n t : Nat} {r : List It} (H : Hv s ((9, n, t) :: r)) {E : Mm → Prop} : Ok Qh E (b_X6_step 9 n t (w_td s (m_td s - 1))) := by
  obtain ⟨hT, hc, hw0, ha, hC, hS, hJ, hdp, hdl, hrw, hmd, htd, hln, hm16, hI, hD⟩ := Hv_pop H
  have C_t0 := hC n
  generalize ht0 : w_td s (m_td s - 1) = t0 at *
  have b_t0 : m_md t0 = m_md s := by rw [← ht0]
  have a_t0 : m_at t0 = m_at s := by rw [← ht0]
  have d_t0 : m_dp t0 = m_dp s := by rw [← ht0]
  have w_t0 : m_wr t0 = m_wr s := by rw [← ht0]
  have u_t0 : m_rw t0 = m_rw s := by rw [← ht0]
  have v_t0 : m_td t0 = m_td s - 1 := by rw [← ht0]
  have e_t0 : m_ct t0 = m_ct s := by rw [← ht0]
  have F0 := C_t0.2.1
  obtain ⟨m_n_t0, g_n_t0, w_n_t0⟩ : n < m_md t0 ∧ GdS t0 n ∧ W5 t0 n := hI.2.1 rfl
  have ht : t < 4096 := hI.1.1 (show 9 ≠ 42 by decide) (show 9 ≠ 48 by decide)
  have hdp : m_dp s = dlt 9 + sD r := hdp
  have hrw : m_rw s = rho 9 + sR r := hrw
  have hmd : m_md s + mu7 9 + sM r ≤ 3 * m_at s + 7 * r.length + 17 := hmd
  have hand : t &&& 1 ≤ 1 := Nat.and_le_right
  have h01 : (0 &&& 1 : Nat) = 0 := rfl
  have h02 : (1 : Nat) * 256 = 256 := rfl
  have hq1 : dlt 9 = 1 := rfl
  have hq2 : rho 9 = 0 := rfl
  have hq3 : mu7 9 = 4 := rfl
  unfold b_X6_step
  refine Ok_ifl (by decide) (by decide) (fun _ => ?_) (fun q => absurd (by decide) q)
  refine Ok_ifl (by decide) (by decide) (fun _ => ?_) (fun q => absurd (by decide) q)
  refine Ok_bnc ?_
  try unfold b_X6_value_
  refine Ok_ck (by decide) ?_
  refine Ok_ife (by decide) (by decide) (fun q => absurd q (by decide)) (fun _ => ?_)
  refine Ok_ife (by decide) (by decide) (fun q => absurd q (by decide)) (fun _ => ?_)
  refine Ok_ife (by decide) (by decide) (fun q => absurd q (by decide)) (fun _ => ?_)
  refine Ok_ife (by decide) (by decide) (fun q => absurd q (by decide)) (fun _ => ?_)
  refine Ok_ife (by decide) (by decide) (fun _ => ?_) (fun q => absurd (by decide) q)
  refine Ok_bnc ?_
  try unfold b_X6_args
  refine Kp_look C_t0 hT (by omega) ?_
  refine Ok_ife (Nat.lt_trans (lo_lt (C_t0.tk hT) _) (by decide)) (by decide) (fun q3 => ?_) (fun q3 => ?_)
  · have z_t4 : m_at t0 < m_ct t0 := lo_ne (Nat.ne_of_gt (show 0 < lo t0 (m_at t0) from by omega))
    refine Kp_at C_t0 (fun t4 C_t4 x_t4 a_t4 b_t4 d_t4 w_t4 u_t4 v_t4 _ _ _ l_t4 => ?_)
    have e_t4 := C_t4.2.2.2.1
    have m_n_t4 : n < m_md t4 := by omega
    have g_n_t4 := (x_t4.2.2.1 n m_n_t0).2.1 w_n_t0 g_n_t0
    have w_n_t4 : W5 t4 n := (x_t4.2.2.1 n m_n_t0).1 w_n_t0
    refine Ok_ck (show (m_dp t4) ≠ 0 from by omega) ?_
    refine Kp_dp C_t4 (fun t5 C_t5 x_t5 a_t5 b_t5 d_t5 w_t5 u_t5 v_t5 _ _ _ l_t5 => ?_)
    have e_t5 := C_t5.2.2.2.1
    have m_n_t5 : n < m_md t5 := by omega
    have g_n_t5 := (x_t5.2.2.1 n m_n_t4).2.1 w_n_t4 g_n_t4
    have w_n_t5 : W5 t5 n := (x_t5.2.2.1 n m_n_t4).1 w_n_t4
    refine Ok_ret (show Ok _ _ _ from ?_)
    refine Ok_ret (show Ok _ _ _ from ?_)
    refine Hv_mk C_t5 hT (by omega) (by omega) (by omega) ?_ ?_ ?_ (by omega) ?_ ?_
    · exact Stk_step (N := n) (pop := (9, n, t)) (new := []) F0 C_t5.1 (fun _ => m_n_t0) (fun q _ h => h (9, n, t) rfl) (fun _ => rfl) (fun y hy hk => ⟨rfl, Mo_nil (n := n) y hy hk⟩) (fun (h : 9 = 3 ∨ 9 = 18 ∨ 9 = 41) => absurd h (by decide)) (fun (h : 9 = 18) => absurd h (by decide)) (fun (h : 9 = 41 ∨ 9 = 42 ∨ 9 = 43) => absurd h (by decide)) r [] (fun y hy => absurd hy List.not_mem_nil) hS
    · exact Aj_tl hJ
    · show m_dp t5 = sD r
      have : dlt 9 = 1 := rfl; omega
    · show m_rw t5 = sR r
      have : rho 9 = 0 := rfl; omega
    · show m_md t5 + sM r ≤ 3 * m_at t5 + 7 * (r.length) + 10
      have : mu7 9 = 4 := rfl; omega
  · refine Kp_push C_t0 (by omega) (fun t6 C_t6 x_t6 a_t6 b_t6 d_t6 w_t6 u_t6 v_t6 _ _ _ l_t6 => ?_)
    have e_t6 := C_t6.2.2.2.1
    have m_n_t6 : n < m_md t6 := by omega
    have g_n_t6 := (x_t6.2.2.1 n m_n_t0).2.1 w_n_t0 g_n_t0
    have w_n_t6 : W5 t6 n := (x_t6.2.2.1 n m_n_t0).1 w_n_t0
    refine Ok_bnc ?_
    try unfold b_X6_expression
    refine Kp_push C_t6 (by omega) (fun t8 C_t8 x_t8 a_t8 b_t8 d_t8 w_t8 u_t8 v_t8 _ _ _ l_t8 => ?_)
    have e_t8 := C_t8.2.2.2.1
    have m_n_t8 : n < m_md t8 := by omega
    have g_n_t8 := (x_t8.2.2.1 n m_n_t6).2.1 w_n_t6 g_n_t6
    have w_n_t8 : W5 t8 n := (x_t8.2.2.1 n m_n_t6).1 w_n_t6
    refine Kp_push C_t8 (by omega) (fun t9 C_t9 x_t9 a_t9 b_t9 d_t9 w_t9 u_t9 v_t9 _ _ _ l_t9 => ?_)
    have e_t9 := C_t9.2.2.2.1
    have m_n_t9 : n < m_md t9 := by omega
    have g_n_t9 := (x_t9.2.2.1 n m_n_t8).2.1 w_n_t8 g_n_t8
    have w_n_t9 : W5 t9 n := (x_t9.2.2.1 n m_n_t8).1 w_n_t8
    refine Ok_ret (show Ok _ _ _ from ?_)
    refine Ok_ret (show Ok _ _ _ from ?_)
    refine Ok_ret (show Ok _ _ _ from ?_)
    refine Hv_mk C_t9 hT (by omega) (by omega) (by omega) ?_ ?_ ?_ (by omega) ?_ ?_
    · exact ⟨(Io_n (by decide) (by decide) m_n_t9 g_n_t9 w_n_t9 (fun q => absurd q (by decide)) (fun q => absurd q (by decide))), (Nd_0 (by decide) Mo_nil), ⟨(Io_2 (by have := or_256 (b := 1) (show 0 < 256 from by omega); omega) (by have := or_256 (b := 1) (show 0 < 256 from by omega); omega) (by have := or_256 (b := 1) (show 0 < 256 from by omega); omega) m_n_t9 g_n_t9 w_n_t9), (Nd_A (by decide) (Mo_cons (fun q => show n ≤ n from by omega) Mo_nil) (Or.inr ⟨(3, n, 0), List.mem_cons_self, rfl, Or.inl rfl⟩)), ⟨(Io_n (by decide) (by decide) m_n_t9 g_n_t9 w_n_t9 (fun q => absurd q (by decide)) (fun q => absurd q (by decide))), (Nd_0 (by decide) (Mo_cons (fun q => show n ≤ n from by omega) (Mo_cons (fun q => show n ≤ n from by omega) Mo_nil))), Stk_step (N := n) (pop := (9, n, t)) (new := [(10, n, 0), (2, n, 0 ||| (1 * 256)), (3, n, 0)]) F0 C_t9.1 (fun _ => m_n_t0) (fun q _ h => h (9, n, t) rfl) (fun _ => rfl) (fun y hy hk => ⟨rfl, (Mo_cons (fun q => show n ≤ n from by omega) (Mo_cons (fun q => show n ≤ n from by omega) (Mo_cons (fun q => show n ≤ n from by omega) Mo_nil))) y hy hk⟩) (fun (h : 9 = 3 ∨ 9 = 18 ∨ 9 = 41) => absurd h (by decide)) (fun (h : 9 = 18) => absurd h (by decide)) (fun (h : 9 = 41 ∨ 9 = 42 ∨ 9 = 43) => absurd h (by decide)) r [] (fun y hy => absurd hy List.not_mem_nil) hS⟩⟩⟩
    · exact (Aj_up (x := (3, n, 0)) (Aj_up (x := (2, n, 0 ||| (1 * 256))) (Aj_sub (y := (10, n, 0)) hJ (Nat.le_of_ble_eq_true rfl)) (Or.inl (Nat.le_of_ble_eq_true rfl))) (Or.inr (show 2 < 9 - (0 ||| (1 * 256)) / 256 from by have := or_256 (b := 1) (show 0 < 256 from by omega); omega)))
    · show m_dp t9 = (dlt 3 + (dlt 2 + (dlt 10 + sD r)))
      have : dlt 10 = 1 := rfl; have : dlt 2 = 0 := rfl; have : dlt 3 = 0 := rfl; have : dlt 9 = 1 := rfl; omega
    · show m_rw t9 = (rho 3 + (rho 2 + (rho 10 + sR r)))
      have : rho 10 = 0 := rfl; have : rho 2 = 0 := rfl; have : rho 3 = 0 := rfl; have : rho 9 = 0 := rfl; omega
    · show m_md t9 + (mu7 3 + (mu7 2 + (mu7 10 + sM r))) ≤ 3 * m_at t9 + 7 * (r.length + 1 + 1 + 1) + 10
      have : mu7 10 = 4 := rfl; have : mu7 2 = 7 := rfl; have : mu7 3 = 5 := rfl; have : mu7 9 = 4 := rfl; omega

theorem S_10 {s : Mm} {n t : Nat} {r : List It} (H : Hv s ((10, n, t) :: r)) {E : Mm → Prop} : Ok Qh E (b_X6_step 10 n t (w_td s (m_td s - 1))) := by
  obtain ⟨hT, hc, hw0, ha, hC, hS, hJ, hdp, hdl, hrw, hmd, htd, hln, hm16, hI, hD⟩ := Hv_pop H
  have C_t0 := hC n
  generalize ht0 : w_td s (m_td s - 1) = t0 at *
  have b_t0 : m_md t0 = m_md s := by rw [← ht0]
  have a_t0 : m_at t0 = m_at s := by rw [← ht0]
  have d_t0 : m_dp t0 = m_dp s := by rw [← ht0]
  have w_t0 : m_wr t0 = m_wr s := by rw [← ht0]
  have u_t0 : m_rw t0 = m_rw s := by rw [← ht0]
  have v_t0 : m_td t0 = m_td s - 1 := by rw [← ht0]
  have e_t0 : m_ct t0 = m_ct s := by rw [← ht0]
  have F0 := C_t0.2.1
  obtain ⟨m_n_t0, g_n_t0, w_n_t0⟩ : n < m_md t0 ∧ GdS t0 n ∧ W5 t0 n := hI.2.1 rfl
  have ht : t < 4096 := hI.1.1 (show 10 ≠ 42 by decide) (show 10 ≠ 48 by decide)
  have hdp : m_dp s = dlt 10 + sD r := hdp
  have hrw : m_rw s = rho 10 + sR r := hrw
  have hmd : m_md s + mu7 10 + sM r ≤ 3 * m_at s + 7 * r.length + 17 := hmd
  have hand : t &&& 1 ≤ 1 := Nat.and_le_right
  have h01 : (0 &&& 1 : Nat) = 0 := rfl
  have h02 : (1 : Nat) * 256 = 256 := rfl
  have hq1 : dlt 10 = 1 := rfl
  have hq2 : rho 10 = 0 := rfl
  have hq3 : mu7 10 = 4 := rfl
  unfold b_X6_step
  refine Ok_ifl (by decide) (by decide) (fun _ => ?_) (fun q => absurd (by decide) q)
  refine Ok_ifl (by decide) (by decide) (fun _ => ?_) (fun q => absurd (by decide) q)
  refine Ok_bnc ?_
  try unfold b_X6_value_
  refine Ok_ck (by decide) ?_
  refine Ok_ife (by decide) (by decide) (fun q => absurd q (by decide)) (fun _ => ?_)
  refine Ok_ife (by decide) (by decide) (fun q => absurd q (by decide)) (fun _ => ?_)
  refine Ok_ife (by decide) (by decide) (fun q => absurd q (by decide)) (fun _ => ?_)
  refine Ok_ife (by decide) (by decide) (fun q => absurd q (by decide)) (fun _ => ?_)
  refine Ok_ife (by decide) (by decide) (fun q => absurd q (by decide)) (fun _ => ?_)
  refine Ok_ife (by decide) (by decide) (fun _ => ?_) (fun q => absurd (by decide) q)
  refine Ok_bnc ?_
  try unfold b_X6_argsMore
  refine Kp_look C_t0 hT (by omega) ?_
  refine Ok_ife (Nat.lt_trans (lo_lt (C_t0.tk hT) _) (by decide)) (by decide) (fun q3 => ?_) (fun q3 => ?_)
  · refine Kp_child C_t0 m_n_t0 g_n_t0 w_n_t0 (by omega) (by omega) (fun t4 C_t4 x_t4 a_t4 b_t4 d_t4 w_t4 u_t4 v_t4 wn_t4 fn_t4 fp_t4 _ l_t4 => ?_)
    have e_t4 := C_t4.2.2.2.1
    have m_n_t4 : n < m_md t4 := by omega
    have g_n_t4 := (x_t4.2.2.1 n m_n_t0).2.1 w_n_t0 g_n_t0
    have w_n_t4 : W5 t4 n := (x_t4.2.2.1 n m_n_t0).1 w_n_t0
    have f_n_t4 : Fz t4 n := fp_t4
    have m_m_mdt0_t4 : m_md t0 < m_md t4 := by omega
    have g_m_mdt0_t4 : GdS t4 (m_md t0) := Or.inl fn_t4
    have w_m_mdt0_t4 : W5 t4 (m_md t0) := by unfold W5; rw [wn_t4]; decide
    have u_m_mdt0_t4 : Up t4 (m_md t0) := Or.inl fn_t4
    clear fp_t4 fn_t4 wn_t4
    have z_t5 : m_at t4 < m_ct t4 := lo_ne (Nat.ne_of_gt (show 0 < lo t4 (m_at t4) from by omega))
    refine Kp_at C_t4 (fun t5 C_t5 x_t5 a_t5 b_t5 d_t5 w_t5 u_t5 v_t5 _ _ _ l_t5 => ?_)
    have e_t5 := C_t5.2.2.2.1
    have m_n_t5 : n < m_md t5 := by omega
    have g_n_t5 := (x_t5.2.2.1 n m_n_t4).2.1 w_n_t4 g_n_t4
    have w_n_t5 : W5 t5 n := (x_t5.2.2.1 n m_n_t4).1 w_n_t4
    have f_n_t5 : Fz t5 n := (x_t5.2.2.1 n m_n_t4).2.2.1 f_n_t4
    have m_m_mdt0_t5 : m_md t0 < m_md t5 := by omega
    have g_m_mdt0_t5 := (x_t5.2.2.1 (m_md t0) m_m_mdt0_t4).2.1 w_m_mdt0_t4 g_m_mdt0_t4
    have w_m_mdt0_t5 : W5 t5 (m_md t0) := (x_t5.2.2.1 (m_md t0) m_m_mdt0_t4).1 w_m_mdt0_t4
    have u_m_mdt0_t5 := (x_t5.2.2.1 (m_md t0) m_m_mdt0_t4).2.2.2.1 u_m_mdt0_t4
    refine Kp_look C_t5 hT (by omega) ?_
    refine Ok_ife (Nat.lt_trans (lo_lt (C_t5.tk hT) _) (by decide)) (by decide) (fun q6 => ?_) (fun q6 => ?_)
    · have z_t7 : m_at t5 < m_ct t5 := lo_ne (Nat.ne_of_gt (show 0 < lo t5 (m_at t5) from by omega))
      refine Kp_at C_t5 (fun t7 C_t7 x_t7 a_t7 b_t7 d_t7 w_t7 u_t7 v_t7 _ _ _ l_t7 => ?_)
      have e_t7 := C_t7.2.2.2.1
      have m_n_t7 : n < m_md t7 := by omega
      have g_n_t7 := (x_t7.2.2.1 n m_n_t5).2.1 w_n_t5 g_n_t5
      have w_n_t7 : W5 t7 n := (x_t7.2.2.1 n m_n_t5).1 w_n_t5
      have f_n_t7 : Fz t7 n := (x_t7.2.2.1 n m_n_t5).2.2.1 f_n_t5
      have m_m_mdt0_t7 : m_md t0 < m_md t7 := by omega
      have g_m_mdt0_t7 := (x_t7.2.2.1 (m_md t0) m_m_mdt0_t5).2.1 w_m_mdt0_t5 g_m_mdt0_t5
      have w_m_mdt0_t7 : W5 t7 (m_md t0) := (x_t7.2.2.1 (m_md t0) m_m_mdt0_t5).1 w_m_mdt0_t5
      have u_m_mdt0_t7 := (x_t7.2.2.1 (m_md t0) m_m_mdt0_t5).2.2.2.1 u_m_mdt0_t5
      refine Kp_pass C_t7 hT (by omega) (by decide) (by omega) (fun t8 C_t8 x_t8 a_t8 b_t8 d_t8 w_t8 u_t8 v_t8 _ _ _ l_t8 => ?_)
      have e_t8 := C_t8.2.2.2.1
      rcases w_t8 with ⟨w_t8, y_t8⟩ | ⟨w_t8, wb_t8⟩
      · have z_t8 : m_at t7 < m_ct t7 := lo_ne (Nat.ne_of_gt (show 0 < lo t7 (m_at t7) from by omega))
        have m_n_t8 : n < m_md t8 := by omega
        have g_n_t8 := (x_t8.2.2.1 n m_n_t7).2.1 w_n_t7 g_n_t7
        have w_n_t8 : W5 t8 n := (x_t8.2.2.1 n m_n_t7).1 w_n_t7
        have f_n_t8 : Fz t8 n := (x_t8.2.2.1 n m_n_t7).2.2.1 f_n_t7
        have m_m_mdt0_t8 : m_md t0 < m_md t8 := by omega
        have g_m_mdt0_t8 := (x_t8.2.2.1 (m_md t0) m_m_mdt0_t7).2.1 w_m_mdt0_t7 g_m_mdt0_t7
        have w_m_mdt0_t8 : W5 t8 (m_md t0) := (x_t8.2.2.1 (m_md t0) m_m_mdt0_t7).1 w_m_mdt0_t7
        have u_m_mdt0_t8 := (x_t8.2.2.1 (m_md t0) m_m_mdt0_t7).2.2.2.1 u_m_mdt0_t7
        refine Ok_ck (show (m_dp t8) ≠ 0 from by omega) ?_
        refine Kp_dp C_t8 (fun t9 C_t9 x_t9 a_t9 b_t9 d_t9 w_t9 u_t9 v_t9 _ _ _ l_t9 => ?_)
        have e_t9 := C_t9.2.2.2.1
        have m_n_t9 : n < m_md t9 := by omega
        have g_n_t9 := (x_t9.2.2.1 n m_n_t8).2.1 w_n_t8 g_n_t8
        have w_n_t9 : W5 t9 n := (x_t9.2.2.1 n m_n_t8).1 w_n_t8
        have f_n_t9 : Fz t9 n := (x_t9.2.2.1 n m_n_t8).2.2.1 f_n_t8
        have m_m_mdt0_t9 : m_md t0 < m_md t9 := by omega
        have g_m_mdt0_t9 := (x_t9.2.2.1 (m_md t0) m_m_mdt0_t8).2.1 w_m_mdt0_t8 g_m_mdt0_t8
        have w_m_mdt0_t9 : W5 t9 (m_md t0) := (x_t9.2.2.1 (m_md t0) m_m_mdt0_t8).1 w_m_mdt0_t8
        have u_m_mdt0_t9 := (x_t9.2.2.1 (m_md t0) m_m_mdt0_t8).2.2.2.1 u_m_mdt0_t8
        refine Ok_ret (show Ok _ _ _ from ?_)
        refine Ok_ret (show Ok _ _ _ from ?_)
        refine Hv_mk C_t9 hT (by omega) (by omega) (by omega) ?_ ?_ ?_ (by omega) ?_ ?_
        · exact Stk_step (N := n) (pop := (10, n, t)) (new := []) F0 C_t9.1 (fun _ => m_n_t0) (fun q _ h => h (10, n, t) rfl) (fun _ => rfl) (fun y hy hk => ⟨rfl, Mo_nil (n := n) y hy hk⟩) (fun (h : 10 = 3 ∨ 10 = 18 ∨ 10 = 41) => absurd h (by decide)) (fun (h : 10 = 18) => absurd h (by decide)) (fun (h : 10 = 41 ∨ 10 = 42 ∨ 10 = 43) => absurd h (by decide)) r [] (fun y hy => absurd hy List.not_mem_nil) hS
        · exact Aj_tl hJ
        · show m_dp t9 = sD r
          have : dlt 10 = 1 := rfl; omega
        · show m_rw t9 = sR r
          have : rho 10 = 0 := rfl; omega
        · show m_md t9 + sM r ≤ 3 * m_at t9 + 7 * (r.length) + 10
          have : mu7 10 = 4 := rfl; omega
      · have w_t8 := Nat.pos_of_ne_zero w_t8
        have m_n_t8 : n < m_md t8 := by omega
        have g_n_t8 := (x_t8.2.2.1 n m_n_t7).2.1 w_n_t7 g_n_t7
        have w_n_t8 : W5 t8 n := (x_t8.2.2.1 n m_n_t7).1 w_n_t7
        have f_n_t8 : Fz t8 n := (x_t8.2.2.1 n m_n_t7).2.2.1 f_n_t7
        have m_m_mdt0_t8 : m_md t0 < m_md t8 := by omega
        have g_m_mdt0_t8 := (x_t8.2.2.1 (m_md t0) m_m_mdt0_t7).2.1 w_m_mdt0_t7 g_m_mdt0_t7
        have w_m_mdt0_t8 : W5 t8 (m_md t0) := (x_t8.2.2.1 (m_md t0) m_m_mdt0_t7).1 w_m_mdt0_t7
        have u_m_mdt0_t8 := (x_t8.2.2.1 (m_md t0) m_m_mdt0_t7).2.2.2.1 u_m_mdt0_t7
        refine Ok_ck (show (m_dp t8) ≠ 0 from by omega) ?_
        refine Kp_dp C_t8 (fun t10 C_t10 x_t10 a_t10 b_t10 d_t10 w_t10 u_t10 v_t10 _ _ _ l_t10 => ?_)
        have e_t10 := C_t10.2.2.2.1
        have m_n_t10 : n < m_md t10 := by omega
        have g_n_t10 := (x_t10.2.2.1 n m_n_t8).2.1 w_n_t8 g_n_t8
        have w_n_t10 : W5 t10 n := (x_t10.2.2.1 n m_n_t8).1 w_n_t8
        have f_n_t10 : Fz t10 n := (x_t10.2.2.1 n m_n_t8).2.2.1 f_n_t8
        have m_m_mdt0_t10 : m_md t0 < m_md t10 := by omega
        have g_m_mdt0_t10 := (x_t10.2.2.1 (m_md t0) m_m_mdt0_t8).2.1 w_m_mdt0_t8 g_m_mdt0_t8
        have w_m_mdt0_t10 : W5 t10 (m_md t0) := (x_t10.2.2.1 (m_md t0) m_m_mdt0_t8).1 w_m_mdt0_t8
        have u_m_mdt0_t10 := (x_t10.2.2.1 (m_md t0) m_m_mdt0_t8).2.2.2.1 u_m_mdt0_t8
        refine Ok_ret (show Ok _ _ _ from ?_)
        refine Ok_ret (show Ok _ _ _ from ?_)
        exact Or.inl ⟨Nat.ne_of_gt (show 0 < m_wr t10 from by omega), by omega⟩
    · refine Kp_pass C_t5 hT (by omega) (by decide) (by omega) (fun t11 C_t11 x_t11 a_t11 b_t11 d_t11 w_t11 u_t11 v_t11 _ _ _ l_t11 => ?_)
      have e_t11 := C_t11.2.2.2.1
      rcases w_t11 with ⟨w_t11, y_t11⟩ | ⟨w_t11, wb_t11⟩
      · have z_t11 : m_at t5 < m_ct t5 := lo_ne (Nat.ne_of_gt (show 0 < lo t5 (m_at t5) from by omega))
        have m_n_t11 : n < m_md t11 := by omega
        have g_n_t11 := (x_t11.2.2.1 n m_n_t5).2.1 w_n_t5 g_n_t5
        have w_n_t11 : W5 t11 n := (x_t11.2.2.1 n m_n_t5).1 w_n_t5
        have f_n_t11 : Fz t11 n := (x_t11.2.2.1 n m_n_t5).2.2.1 f_n_t5
        have m_m_mdt0_t11 : m_md t0 < m_md t11 := by omega
        have g_m_mdt0_t11 := (x_t11.2.2.1 (m_md t0) m_m_mdt0_t5).2.1 w_m_mdt0_t5 g_m_mdt0_t5
        have w_m_mdt0_t11 : W5 t11 (m_md t0) := (x_t11.2.2.1 (m_md t0) m_m_mdt0_t5).1 w_m_mdt0_t5
        have u_m_mdt0_t11 := (x_t11.2.2.1 (m_md t0) m_m_mdt0_t5).2.2.2.1 u_m_mdt0_t5
        refine Ok_ck (show (m_dp t11) ≠ 0 from by omega) ?_
        refine Kp_dp C_t11 (fun t12 C_t12 x_t12 a_t12 b_t12 d_t12 w_t12 u_t12 v_t12 _ _ _ l_t12 => ?_)
        have e_t12 := C_t12.2.2.2.1
        have m_n_t12 : n < m_md t12 := by omega
        have g_n_t12 := (x_t12.2.2.1 n m_n_t11).2.1 w_n_t11 g_n_t11
        have w_n_t12 : W5 t12 n := (x_t12.2.2.1 n m_n_t11).1 w_n_t11
        have f_n_t12 : Fz t12 n := (x_t12.2.2.1 n m_n_t11).2.2.1 f_n_t11
        have m_m_mdt0_t12 : m_md t0 < m_md t12 := by omega
        have g_m_mdt0_t12 := (x_t12.2.2.1 (m_md t0) m_m_mdt0_t11).2.1 w_m_mdt0_t11 g_m_mdt0_t11
        have w_m_mdt0_t12 : W5 t12 (m_md t0) := (x_t12.2.2.1 (m_md t0) m_m_mdt0_t11).1 w_m_mdt0_t11
        have u_m_mdt0_t12 := (x_t12.2.2.1 (m_md t0) m_m_mdt0_t11).2.2.2.1 u_m_mdt0_t11
        refine Ok_ret (show Ok _ _ _ from ?_)
        refine Ok_ret (show Ok _ _ _ from ?_)
        refine Hv_mk C_t12 hT (by omega) (by omega) (by omega) ?_ ?_ ?_ (by omega) ?_ ?_
        · exact Stk_step (N := n) (pop := (10, n, t)) (new := []) F0 C_t12.1 (fun _ => m_n_t0) (fun q _ h => h (10, n, t) rfl) (fun _ => rfl) (fun y hy hk => ⟨rfl, Mo_nil (n := n) y hy hk⟩) (fun (h : 10 = 3 ∨ 10 = 18 ∨ 10 = 41) => absurd h (by decide)) (fun (h : 10 = 18) => absurd h (by decide)) (fun (h : 10 = 41 ∨ 10 = 42 ∨ 10 = 43) => absurd h (by decide)) r [] (fun y hy => absurd hy List.not_mem_nil) hS
        · exact Aj_tl hJ
        · show m_dp t12 = sD r
          have : dlt 10 = 1 := rfl; omega
        · show m_rw t12 = sR r
          have : rho 10 = 0 := rfl; omega
        · show m_md t12 + sM r ≤ 3 * m_at t12 + 7 * (r.length) + 10
          have : mu7 10 = 4 := rfl; omega
      · have w_t11 := Nat.pos_of_ne_zero w_t11
        have m_n_t11 : n < m_md t11 := by omega
        have g_n_t11 := (x_t11.2.2.1 n m_n_t5).2.1 w_n_t5 g_n_t5
        have w_n_t11 : W5 t11 n := (x_t11.2.2.1 n m_n_t5).1 w_n_t5
        have f_n_t11 : Fz t11 n := (x_t11.2.2.1 n m_n_t5).2.2.1 f_n_t5
        have m_m_mdt0_t11 : m_md t0 < m_md t11 := by omega
        have g_m_mdt0_t11 := (x_t11.2.2.1 (m_md t0) m_m_mdt0_t5).2.1 w_m_mdt0_t5 g_m_mdt0_t5
        have w_m_mdt0_t11 : W5 t11 (m_md t0) := (x_t11.2.2.1 (m_md t0) m_m_mdt0_t5).1 w_m_mdt0_t5
        have u_m_mdt0_t11 := (x_t11.2.2.1 (m_md t0) m_m_mdt0_t5).2.2.2.1 u_m_mdt0_t5
        refine Ok_ck (show (m_dp t11) ≠ 0 from by omega) ?_
        refine Kp_dp C_t11 (fun t13 C_t13 x_t13 a_t13 b_t13 d_t13 w_t13 u_t13 v_t13 _ _ _ l_t13 => ?_)
        have e_t13 := C_t13.2.2.2.1
        have m_n_t13 : n < m_md t13 := by omega
        have g_n_t13 := (x_t13.2.2.1 n m_n_t11).2.1 w_n_t11 g_n_t11
        have w_n_t13 : W5 t13 n := (x_t13.2.2.1 n m_n_t11).1 w_n_t11
        have f_n_t13 : Fz t13 n := (x_t13.2.2.1 n m_n_t11).2.2.1 f_n_t11
        have m_m_mdt0_t13 : m_md t0 < m_md t13 := by omega
        have g_m_mdt0_t13 := (x_t13.2.2.1 (m_md t0) m_m_mdt0_t11).2.1 w_m_mdt0_t11 g_m_mdt0_t11
        have w_m_mdt0_t13 : W5 t13 (m_md t0) := (x_t13.2.2.1 (m_md t0) m_m_mdt0_t11).1 w_m_mdt0_t11
        have u_m_mdt0_t13 := (x_t13.2.2.1 (m_md t0) m_m_mdt0_t11).2.2.2.1 u_m_mdt0_t11
        refine Ok_ret (show Ok _ _ _ from ?_)
        refine Ok_ret (show Ok _ _ _ from ?_)
        exact Or.inl ⟨Nat.ne_of_gt (show 0 < m_wr t13 from by omega), by omega⟩
  · refine Kp_look C_t0 hT (by omega) ?_
    refine Ok_ife (Nat.lt_trans (lo_lt (C_t0.tk hT) _) (by decide)) (by decide) (fun q14 => ?_) (fun q14 => ?_)
    · have z_t15 : m_at t0 < m_ct t0 := lo_ne (Nat.ne_of_gt (show 0 < lo t0 (m_at t0) from by omega))
      refine Kp_at C_t0 (fun t15 C_t15 x_t15 a_t15 b_t15 d_t15 w_t15 u_t15 v_t15 _ _ _ l_t15 => ?_)
      have e_t15 := C_t15.2.2.2.1
      have m_n_t15 : n < m_md t15 := by omega
      have g_n_t15 := (x_t15.2.2.1 n m_n_t0).2.1 w_n_t0 g_n_t0
      have w_n_t15 : W5 t15 n := (x_t15.2.2.1 n m_n_t0).1 w_n_t0
      refine Kp_push C_t15 (by omega) (fun t16 C_t16 x_t16 a_t16 b_t16 d_t16 w_t16 u_t16 v_t16 _ _ _ l_t16 => ?_)
      have e_t16 := C_t16.2.2.2.1
      have m_n_t16 : n < m_md t16 := by omega
      have g_n_t16 := (x_t16.2.2.1 n m_n_t15).2.1 w_n_t15 g_n_t15
      have w_n_t16 : W5 t16 n := (x_t16.2.2.1 n m_n_t15).1 w_n_t15
      refine Ok_ret (show Ok _ _ _ from ?_)
      refine Ok_ret (show Ok _ _ _ from ?_)
      refine Hv_mk C_t16 hT (by omega) (by omega) (by omega) ?_ ?_ ?_ (by omega) ?_ ?_
      · exact ⟨(Io_n (by decide) (by decide) m_n_t16 g_n_t16 w_n_t16 (fun q => absurd q (by decide)) (fun q => absurd q (by decide))), (Nd_0 (by decide) Mo_nil), Stk_step (N := n) (pop := (10, n, t)) (new := [(9, n, 0)]) F0 C_t16.1 (fun _ => m_n_t0) (fun q _ h => h (10, n, t) rfl) (fun _ => rfl) (fun y hy hk => ⟨rfl, (Mo_cons (fun q => show n ≤ n from by omega) Mo_nil) y hy hk⟩) (fun (h : 10 = 3 ∨ 10 = 18 ∨ 10 = 41) => absurd h (by decide)) (fun (h : 10 = 18) => absurd h (by decide)) (fun (h : 10 = 41 ∨ 10 = 42 ∨ 10 = 43) => absurd h (by decide)) r [] (fun y hy => absurd hy List.not_mem_nil) hS⟩
      · exact (Aj_sub (y := (9, n, 0)) hJ (Nat.le_of_ble_eq_true rfl))
      · show m_dp t16 = (dlt 9 + sD r)
        have : dlt 10 = 1 := rfl; have : dlt 9 = 1 := rfl; omega
      · show m_rw t16 = (rho 9 + sR r)
        have : rho 10 = 0 := rfl; have : rho 9 = 0 := rfl; omega
      · show m_md t16 + (mu7 9 + sM r) ≤ 3 * m_at t16 + 7 * (r.length + 1) + 10
        have : mu7 10 = 4 := rfl; have : mu7 9 = 4 := rfl; omega
    · refine Kp_pass C_t0 hT (by omega) (by decide) (by omega) (fun t17 C_t17 x_t17 a_t17 b_t17 d_t17 w_t17 u_t17 v_t17 _ _ _ l_t17 => ?_)
      have e_t17 := C_t17.2.2.2.1
      rcases w_t17 with ⟨w_t17, y_t17⟩ | ⟨w_t17, wb_t17⟩
      · have z_t17 : m_at t0 < m_ct t0 := lo_ne (Nat.ne_of_gt (show 0 < lo t0 (m_at t0) from by omega))
        have m_n_t17 : n < m_md t17 := by omega
        have g_n_t17 := (x_t17.2.2.1 n m_n_t0).2.1 w_n_t0 g_n_t0
        have w_n_t17 : W5 t17 n := (x_t17.2.2.1 n m_n_t0).1 w_n_t0
        refine Ok_ck (show (m_dp t17) ≠ 0 from by omega) ?_
        refine Kp_dp C_t17 (fun t18 C_t18 x_t18 a_t18 b_t18 d_t18 w_t18 u_t18 v_t18 _ _ _ l_t18 => ?_)
        have e_t18 := C_t18.2.2.2.1
        have m_n_t18 : n < m_md t18 := by omega
        have g_n_t18 := (x_t18.2.2.1 n m_n_t17).2.1 w_n_t17 g_n_t17
        have w_n_t18 : W5 t18 n := (x_t18.2.2.1 n m_n_t17).1 w_n_t17
        refine Ok_ret (show Ok _ _ _ from ?_)
        refine Ok_ret (show Ok _ _ _ from ?_)
        refine Hv_mk C_t18 hT (by omega) (by omega) (by omega) ?_ ?_ ?_ (by omega) ?_ ?_
        · exact Stk_step (N := n) (pop := (10, n, t)) (new := []) F0 C_t18.1 (fun _ => m_n_t0) (fun q _ h => h (10, n, t) rfl) (fun _ => rfl) (fun y hy hk => ⟨rfl, Mo_nil (n := n) y hy hk⟩) (fun (h : 10 = 3 ∨ 10 = 18 ∨ 10 = 41) => absurd h (by decide)) (fun (h : 10 = 18) => absurd h (by decide)) (fun (h : 10 = 41 ∨ 10 = 42 ∨ 10 = 43) => absurd h (by decide)) r [] (fun y hy => absurd hy List.not_mem_nil) hS
        · exact Aj_tl hJ
        · show m_dp t18 = sD r
          have : dlt 10 = 1 := rfl; omega
        · show m_rw t18 = sR r
          have : rho 10 = 0 := rfl; omega
        · show m_md t18 + sM r ≤ 3 * m_at t18 + 7 * (r.length) + 10
          have : mu7 10 = 4 := rfl; omega
      · have w_t17 := Nat.pos_of_ne_zero w_t17
        have m_n_t17 : n < m_md t17 := by omega
        have g_n_t17 := (x_t17.2.2.1 n m_n_t0).2.1 w_n_t0 g_n_t0
        have w_n_t17 : W5 t17 n := (x_t17.2.2.1 n m_n_t0).1 w_n_t0
        refine Ok_ck (show (m_dp t17) ≠ 0 from by omega) ?_
        refine Kp_dp C_t17 (fun t19 C_t19 x_t19 a_t19 b_t19 d_t19 w_t19 u_t19 v_t19 _ _ _ l_t19 => ?_)
        have e_t19 := C_t19.2.2.2.1
        have m_n_t19 : n < m_md t19 := by omega
        have g_n_t19 := (x_t19.2.2.1 n m_n_t17).2.1 w_n_t17 g_n_t17
        have w_n_t19 : W5 t19 n := (x_t19.2.2.1 n m_n_t17).1 w_n_t17
        refine Ok_ret (show Ok _ _ _ from ?_)
        refine Ok_ret (show Ok _ _ _ from ?_)
        exact Or.inl ⟨Nat.ne_of_gt (show 0 < m_wr t19 from by omega), by omega⟩

theorem S_12 {s : Mm} {n t : Nat} {r : List It} (H : Hv s ((12, n, t) :: r)) {E : Mm → Prop} : Ok Qh E (b_X6_step 12 n t (w_td s (m_td s - 1))) := by
  obtain ⟨hT, hc, hw0, ha, hC, hS, hJ, hdp, hdl, hrw, hmd, htd, hln, hm16, hI, hD⟩ := Hv_pop H
  have C_t0 := hC n
  generalize ht0 : w_td s (m_td s - 1) = t0 at *
  have b_t0 : m_md t0 = m_md s := by rw [← ht0]
  have a_t0 : m_at t0 = m_at s := by rw [← ht0]
  have d_t0 : m_dp t0 = m_dp s := by rw [← ht0]
  have w_t0 : m_wr t0 = m_wr s := by rw [← ht0]
  have u_t0 : m_rw t0 = m_rw s := by rw [← ht0]
  have v_t0 : m_td t0 = m_td s - 1 := by rw [← ht0]
  have e_t0 : m_ct t0 = m_ct s := by rw [← ht0]
  have F0 := C_t0.2.1
  obtain ⟨m_n_t0, g_n_t0, w_n_t0⟩ : n < m_md t0 ∧ GdS t0 n ∧ W5 t0 n := hI.2.1 rfl
  have ht : t < 4096 := hI.1.1 (show 12 ≠ 42 by decide) (show 12 ≠ 48 by decide)
  have hdp : m_dp s = dlt 12 + sD r := hdp
  have hrw : m_rw s = rho 12 + sR r := hrw
  have hmd : m_md s + mu7 12 + sM r ≤ 3 * m_at s + 7 * r.length + 17 := hmd
  have hand : t &&& 1 ≤ 1 := Nat.and_le_right
  have h01 : (0 &&& 1 : Nat) = 0 := rfl
  have h02 : (1 : Nat) * 256 = 256 := rfl
  have hq1 : dlt 12 = 1 := rfl
  have hq2 : rho 12 = 0 := rfl
  have hq3 : mu7 12 = 5 := rfl
  unfold b_X6_step
  refine Ok_ifl (by decide) (by decide) (fun _ => ?_) (fun q => absurd (by decide) q)
  refine Ok_ifl (by decide) (by decide) (fun _ => ?_) (fun q => absurd (by decide) q)
  refine Ok_bnc ?_
  try unfold b_X6_value_
  refine Ok_ck (by decide) ?_
  refine Ok_ife (by decide) (by decide) (fun q => absurd q (by decide)) (fun _ => ?_)
  refine Ok_ife (by decide) (by decide) (fun q => absurd q (by decide)) (fun _ => ?_)
  refine Ok_ife (by decide) (by decide) (fun q => absurd q (by decide)) (fun _ => ?_)
  refine Ok_ife (by decide) (by decide) (fun q => absurd q (by decide)) (fun _ => ?_)
  refine Ok_ife (by decide) (by decide) (fun q => absurd q (by decide)) (fun _ => ?_)
  refine Ok_ife (by decide) (by decide) (fun q => absurd q (by decide)) (fun _ => ?_)
  refine Ok_ife (by decide) (by decide) (fun q => absurd q (by decide)) (fun _ => ?_)
  refine Ok_ife (by decide) (by decide) (fun _ => ?_) (fun q => absurd (by decide) q)
  refine Ok_bnc ?_
  try unfold b_X6_sliced
  refine Kp_look C_t0 hT (by omega) ?_
  refine Ok_ife (Nat.lt_trans (lo_lt (C_t0.tk hT) _) (by decide)) (by decide) (fun q3 => ?_) (fun q3 => ?_)
  · refine Kp_child C_t0 m_n_t0 g_n_t0 w_n_t0 (by omega) (by omega) (fun t4 C_t4 x_t4 a_t4 b_t4 d_t4 w_t4 u_t4 v_t4 wn_t4 fn_t4 fp_t4 _ l_t4 => ?_)
    have e_t4 := C_t4.2.2.2.1
    have m_n_t4 : n < m_md t4 := by omega
    have g_n_t4 := (x_t4.2.2.1 n m_n_t0).2.1 w_n_t0 g_n_t0
    have w_n_t4 : W5 t4 n := (x_t4.2.2.1 n m_n_t0).1 w_n_t0
    have f_n_t4 : Fz t4 n := fp_t4
    have m_m_mdt0_t4 : m_md t0 < m_md t4 := by omega
    have g_m_mdt0_t4 : GdS t4 (m_md t0) := Or.inl fn_t4
    have w_m_mdt0_t4 : W5 t4 (m_md t0) := by unfold W5; rw [wn_t4]; decide
    have u_m_mdt0_t4 : Up t4 (m_md t0) := Or.inl fn_t4
    clear fp_t4 fn_t4 wn_t4
    have z_t5 : m_at t4 < m_ct t4 := lo_ne (Nat.ne_of_gt (show 0 < lo t4 (m_at t4) from by omega))
    refine Kp_at C_t4 (fun t5 C_t5 x_t5 a_t5 b_t5 d_t5 w_t5 u_t5 v_t5 _ _ _ l_t5 => ?_)
    have e_t5 := C_t5.2.2.2.1
    have m_n_t5 : n < m_md t5 := by omega
    have g_n_t5 := (x_t5.2.2.1 n m_n_t4).2.1 w_n_t4 g_n_t4
    have w_n_t5 : W5 t5 n := (x_t5.2.2.1 n m_n_t4).1 w_n_t4
    have f_n_t5 : Fz t5 n := (x_t5.2.2.1 n m_n_t4).2.2.1 f_n_t4
    have m_m_mdt0_t5 : m_md t0 < m_md t5 := by omega
    have g_m_mdt0_t5 := (x_t5.2.2.1 (m_md t0) m_m_mdt0_t4).2.1 w_m_mdt0_t4 g_m_mdt0_t4
    have w_m_mdt0_t5 : W5 t5 (m_md t0) := (x_t5.2.2.1 (m_md t0) m_m_mdt0_t4).1 w_m_mdt0_t4
    have u_m_mdt0_t5 := (x_t5.2.2.1 (m_md t0) m_m_mdt0_t4).2.2.2.1 u_m_mdt0_t4
    refine Ok_ck (show (m_dp t5) ≠ 0 from by omega) ?_
    refine Kp_dp C_t5 (fun t6 C_t6 x_t6 a_t6 b_t6 d_t6 w_t6 u_t6 v_t6 _ _ _ l_t6 => ?_)
    have e_t6 := C_t6.2.2.2.1
    have m_n_t6 : n < m_md t6 := by omega
    have g_n_t6 := (x_t6.2.2.1 n m_n_t5).2.1 w_n_t5 g_n_t5
    have w_n_t6 : W5 t6 n := (x_t6.2.2.1 n m_n_t5).1 w_n_t5
    have f_n_t6 : Fz t6 n := (x_t6.2.2.1 n m_n_t5).2.2.1 f_n_t5
    have m_m_mdt0_t6 : m_md t0 < m_md t6 := by omega
    have g_m_mdt0_t6 := (x_t6.2.2.1 (m_md t0) m_m_mdt0_t5).2.1 w_m_mdt0_t5 g_m_mdt0_t5
    have w_m_mdt0_t6 : W5 t6 (m_md t0) := (x_t6.2.2.1 (m_md t0) m_m_mdt0_t5).1 w_m_mdt0_t5
    have u_m_mdt0_t6 := (x_t6.2.2.1 (m_md t0) m_m_mdt0_t5).2.2.2.1 u_m_mdt0_t5
    refine Ok_ret (show Ok _ _ _ from ?_)
    refine Ok_ret (show Ok _ _ _ from ?_)
    refine Hv_mk C_t6 hT (by omega) (by omega) (by omega) ?_ ?_ ?_ (by omega) ?_ ?_
    · exact Stk_step (N := n) (pop := (12, n, t)) (new := []) F0 C_t6.1 (fun _ => m_n_t0) (fun q _ h => h (12, n, t) rfl) (fun _ => rfl) (fun y hy hk => ⟨rfl, Mo_nil (n := n) y hy hk⟩) (fun (h : 12 = 3 ∨ 12 = 18 ∨ 12 = 41) => absurd h (by decide)) (fun (h : 12 = 18) => absurd h (by decide)) (fun (h : 12 = 41 ∨ 12 = 42 ∨ 12 = 43) => absurd h (by decide)) r [] (fun y hy => absurd hy List.not_mem_nil) hS
    · exact Aj_tl hJ
    · show m_dp t6 = sD r
      have : dlt 12 = 1 := rfl; omega
    · show m_rw t6 = sR r
      have : rho 12 = 0 := rfl; omega
    · show m_md t6 + sM r ≤ 3 * m_at t6 + 7 * (r.length) + 10
      have : mu7 12 = 5 := rfl; omega
  · refine Kp_push C_t0 (by omega) (fun t7 C_t7 x_t7 a_t7 b_t7 d_t7 w_t7 u_t7 v_t7 _ _ _ l_t7 => ?_)
    have e_t7 := C_t7.2.2.2.1
    have m_n_t7 : n < m_md t7 := by omega
    have g_n_t7 := (x_t7.2.2.1 n m_n_t0).2.1 w_n_t0 g_n_t0
    have w_n_t7 : W5 t7 n := (x_t7.2.2.1 n m_n_t0).1 w_n_t0
    refine Ok_bnc ?_
    try unfold b_X6_expression
    refine Kp_push C_t7 (by omega) (fun t9 C_t9 x_t9 a_t9 b_t9 d_t9 w_t9 u_t9 v_t9 _ _ _ l_t9 => ?_)
    have e_t9 := C_t9.2.2.2.1
    have m_n_t9 : n < m_md t9 := by omega
    have g_n_t9 := (x_t9.2.2.1 n m_n_t7).2.1 w_n_t7 g_n_t7
    have w_n_t9 : W5 t9 n := (x_t9.2.2.1 n m_n_t7).1 w_n_t7
    refine Kp_push C_t9 (by omega) (fun t10 C_t10 x_t10 a_t10 b_t10 d_t10 w_t10 u_t10 v_t10 _ _ _ l_t10 => ?_)
    have e_t10 := C_t10.2.2.2.1
    have m_n_t10 : n < m_md t10 := by omega
    have g_n_t10 := (x_t10.2.2.1 n m_n_t9).2.1 w_n_t9 g_n_t9
    have w_n_t10 : W5 t10 n := (x_t10.2.2.1 n m_n_t9).1 w_n_t9
    refine Ok_ret (show Ok _ _ _ from ?_)
    refine Ok_ret (show Ok _ _ _ from ?_)
    refine Ok_ret (show Ok _ _ _ from ?_)
    refine Hv_mk C_t10 hT (by omega) (by omega) (by omega) ?_ ?_ ?_ (by omega) ?_ ?_
    · exact ⟨(Io_n (by decide) (by decide) m_n_t10 g_n_t10 w_n_t10 (fun q => absurd q (by decide)) (fun q => absurd q (by decide))), (Nd_0 (by decide) Mo_nil), ⟨(Io_2 (by have := or_256 (b := 1) (show 0 < 256 from by omega); omega) (by have := or_256 (b := 1) (show 0 < 256 from by omega); omega) (by have := or_256 (b := 1) (show 0 < 256 from by omega); omega) m_n_t10 g_n_t10 w_n_t10), (Nd_A (by decide) (Mo_cons (fun q => show n ≤ n from by omega) Mo_nil) (Or.inr ⟨(3, n, 0), List.mem_cons_self, rfl, Or.inl rfl⟩)), ⟨(Io_n (by decide) (by decide) m_n_t10 g_n_t10 w_n_t10 (fun q => absurd q (by decide)) (fun q => absurd q (by decide))), (Nd_0 (by decide) (Mo_cons (fun q => show n ≤ n from by omega) (Mo_cons (fun q => show n ≤ n from by omega) Mo_nil))), Stk_step (N := n) (pop := (12, n, t)) (new := [(13, n, 0), (2, n, 0 ||| (1 * 256)), (3, n, 0)]) F0 C_t10.1 (fun _ => m_n_t0) (fun q _ h => h (12, n, t) rfl) (fun _ => rfl) (fun y hy hk => ⟨rfl, (Mo_cons (fun q => show n ≤ n from by omega) (Mo_cons (fun q => show n ≤ n from by omega) (Mo_cons (fun q => show n ≤ n from by omega) Mo_nil))) y hy hk⟩) (fun (h : 12 = 3 ∨ 12 = 18 ∨ 12 = 41) => absurd h (by decide)) (fun (h : 12 = 18) => absurd h (by decide)) (fun (h : 12 = 41 ∨ 12 = 42 ∨ 12 = 43) => absurd h (by decide)) r [] (fun y hy => absurd hy List.not_mem_nil) hS⟩⟩⟩
    · exact (Aj_up (x := (3, n, 0)) (Aj_up (x := (2, n, 0 ||| (1 * 256))) (Aj_sub (y := (13, n, 0)) hJ (Nat.le_of_ble_eq_true rfl)) (Or.inl (Nat.le_of_ble_eq_true rfl))) (Or.inr (show 2 < 9 - (0 ||| (1 * 256)) / 256 from by have := or_256 (b := 1) (show 0 < 256 from by omega); omega)))
    · show m_dp t10 = (dlt 3 + (dlt 2 + (dlt 13 + sD r)))
      have : dlt 12 = 1 := rfl; have : dlt 13 = 1 := rfl; have : dlt 2 = 0 := rfl; have : dlt 3 = 0 := rfl; omega
    · show m_rw t10 = (rho 3 + (rho 2 + (rho 13 + sR r)))
      have : rho 12 = 0 := rfl; have : rho 13 = 0 := rfl; have : rho 2 = 0 := rfl; have : rho 3 = 0 := rfl; omega
    · show m_md t10 + (mu7 3 + (mu7 2 + (mu7 13 + sM r))) ≤ 3 * m_at t10 + 7 * (r.length + 1 + 1 + 1) + 10
      have : mu7 12 = 5 := rfl; have : mu7 13 = 4 := rfl; have : mu7 2 = 7 := rfl; have : mu7 3 = 5 := rfl; omega

theorem S_13 {s : Mm} {n t : Nat} {r : List It} (H : Hv s ((13, n, t) :: r)) {E : Mm → Prop} : Ok Qh E (b_X6_step 13 n t (w_td s (m_td s - 1))) := by
  obtain ⟨hT, hc, hw0, ha, hC, hS, hJ, hdp, hdl, hrw, hmd, htd, hln, hm16, hI, hD⟩ := Hv_pop H
  have C_t0 := hC n
  generalize ht0 : w_td s (m_td s - 1) = t0 at *
  have b_t0 : m_md t0 = m_md s := by rw [← ht0]
  have a_t0 : m_at t0 = m_at s := by rw [← ht0]
  have d_t0 : m_dp t0 = m_dp s := by rw [← ht0]
  have w_t0 : m_wr t0 = m_wr s := by rw [← ht0]
  have u_t0 : m_rw t0 = m_rw s := by rw [← ht0]
  have v_t0 : m_td t0 = m_td s - 1 := by rw [← ht0]
  have e_t0 : m_ct t0 = m_ct s := by rw [← ht0]
  have F0 := C_t0.2.1
  obtain ⟨m_n_t0, g_n_t0, w_n_t0⟩ : n < m_md t0 ∧ GdS t0 n ∧ W5 t0 n := hI.2.1 rfl
  have ht : t < 4096 := hI.1.1 (show 13 ≠ 42 by decide) (show 13 ≠ 48 by decide)
  have hdp : m_dp s = dlt 13 + sD r := hdp
  have hrw : m_rw s = rho 13 + sR r := hrw
  have hmd : m_md s + mu7 13 + sM r ≤ 3 * m_at s + 7 * r.length + 17 := hmd
  have hand : t &&& 1 ≤ 1 := Nat.and_le_right
  have h01 : (0 &&& 1 : Nat) = 0 := rfl
  have h02 : (1 : Nat) * 256 = 256 := rfl
  have hq1 : dlt 13 = 1 := rfl
  have hq2 : rho 13 = 0 := rfl
  have hq3 : mu7 13 = 4 := rfl
  unfold b_X6_step
  refine Ok_ifl (by decide) (by decide) (fun _ => ?_) (fun q => absurd (by decide) q)
  refine Ok_ifl (by decide) (by decide) (fun _ => ?_) (fun q => absurd (by decide) q)
  refine Ok_bnc ?_
  try unfold b_X6_value_
  refine Ok_ck (by decide) ?_
  refine Ok_ife (by decide) (by decide) (fun q => absurd q (by decide)) (fun _ => ?_)
  refine Ok_ife (by decide) (by decide) (fun q => absurd q (by decide)) (fun _ => ?_)
  refine Ok_ife (by decide) (by decide) (fun q => absurd q (by decide)) (fun _ => ?_)
  refine Ok_ife (by decide) (by decide) (fun q => absurd q (by decide)) (fun _ => ?_)
  refine Ok_ife (by decide) (by decide) (fun q => absurd q (by decide)) (fun _ => ?_)
  refine Ok_ife (by decide) (by decide) (fun q => absurd q (by decide)) (fun _ => ?_)
  refine Ok_ife (by decide) (by decide) (fun q => absurd q (by decide)) (fun _ => ?_)
  refine Ok_ife (by decide) (by decide) (fun q => absurd q (by decide)) (fun _ => ?_)
  refine Ok_ife (by decide) (by decide) (fun _ => ?_) (fun q => absurd (by decide) q)
  refine Ok_bnc ?_
  try unfold b_X6_sliceMore
  refine Kp_look C_t0 hT (by omega) ?_
  refine Ok_ife (Nat.lt_trans (lo_lt (C_t0.tk hT) _) (by decide)) (by decide) (fun q3 => ?_) (fun q3 => ?_)
  · have z_t4 : m_at t0 < m_ct t0 := lo_ne (Nat.ne_of_gt (show 0 < lo t0 (m_at t0) from by omega))
    refine Kp_at C_t0 (fun t4 C_t4 x_t4 a_t4 b_t4 d_t4 w_t4 u_t4 v_t4 _ _ _ l_t4 => ?_)
    have e_t4 := C_t4.2.2.2.1
    have m_n_t4 : n < m_md t4 := by omega
    have g_n_t4 := (x_t4.2.2.1 n m_n_t0).2.1 w_n_t0 g_n_t0
    have w_n_t4 : W5 t4 n := (x_t4.2.2.1 n m_n_t0).1 w_n_t0
    refine Kp_push C_t4 (by omega) (fun t5 C_t5 x_t5 a_t5 b_t5 d_t5 w_t5 u_t5 v_t5 _ _ _ l_t5 => ?_)
    have e_t5 := C_t5.2.2.2.1
    have m_n_t5 : n < m_md t5 := by omega
    have g_n_t5 := (x_t5.2.2.1 n m_n_t4).2.1 w_n_t4 g_n_t4
    have w_n_t5 : W5 t5 n := (x_t5.2.2.1 n m_n_t4).1 w_n_t4
    refine Ok_bnc ?_
    try unfold b_X6_expression
    refine Kp_push C_t5 (by omega) (fun t7 C_t7 x_t7 a_t7 b_t7 d_t7 w_t7 u_t7 v_t7 _ _ _ l_t7 => ?_)
    have e_t7 := C_t7.2.2.2.1
    have m_n_t7 : n < m_md t7 := by omega
    have g_n_t7 := (x_t7.2.2.1 n m_n_t5).2.1 w_n_t5 g_n_t5
    have w_n_t7 : W5 t7 n := (x_t7.2.2.1 n m_n_t5).1 w_n_t5
    refine Kp_push C_t7 (by omega) (fun t8 C_t8 x_t8 a_t8 b_t8 d_t8 w_t8 u_t8 v_t8 _ _ _ l_t8 => ?_)
    have e_t8 := C_t8.2.2.2.1
    have m_n_t8 : n < m_md t8 := by omega
    have g_n_t8 := (x_t8.2.2.1 n m_n_t7).2.1 w_n_t7 g_n_t7
    have w_n_t8 : W5 t8 n := (x_t8.2.2.1 n m_n_t7).1 w_n_t7
    refine Ok_ret (show Ok _ _ _ from ?_)
    refine Ok_ret (show Ok _ _ _ from ?_)
    refine Ok_ret (show Ok _ _ _ from ?_)
    refine Hv_mk C_t8 hT (by omega) (by omega) (by omega) ?_ ?_ ?_ (by omega) ?_ ?_
    · exact ⟨(Io_n (by decide) (by decide) m_n_t8 g_n_t8 w_n_t8 (fun q => absurd q (by decide)) (fun q => absurd q (by decide))), (Nd_0 (by decide) Mo_nil), ⟨(Io_2 (by have := or_256 (b := 1) (show 0 < 256 from by omega); omega) (by have := or_256 (b := 1) (show 0 < 256 from by omega); omega) (by have := or_256 (b := 1) (show 0 < 256 from by omega); omega) m_n_t8 g_n_t8 w_n_t8), (Nd_A (by decide) (Mo_cons (fun q => show n ≤ n from by omega) Mo_nil) (Or.inr ⟨(3, n, 0), List.mem_cons_self, rfl, Or.inl rfl⟩)), ⟨(Io_78 (by decide) (by decide) (by decide)), (Nd_x (by decide)), Stk_step (N := n) (pop := (13, n, t)) (new := [(8, 81, 0), (2, n, 0 ||| (1 * 256)), (3, n, 0)]) F0 C_t8.1 (fun _ => m_n_t0) (fun q _ h => h (13, n, t) rfl) (fun _ => rfl) (fun y hy hk => ⟨rfl, (Mo_cons (fun q => absurd q (by decide)) (Mo_cons (fun q => show n ≤ n from by omega) (Mo_cons (fun q => show n ≤ n from by omega) Mo_nil))) y hy hk⟩) (fun (h : 13 = 3 ∨ 13 = 18 ∨ 13 = 41) => absurd h (by decide)) (fun (h : 13 = 18) => absurd h (by decide)) (fun (h : 13 = 41 ∨ 13 = 42 ∨ 13 = 43) => absurd h (by decide)) r [] (fun y hy => absurd hy List.not_mem_nil) hS⟩⟩⟩
    · exact (Aj_up (x := (3, n, 0)) (Aj_up (x := (2, n, 0 ||| (1 * 256))) (Aj_sub (y := (8, 81, 0)) hJ (Nat.le_of_ble_eq_true rfl)) (Or.inl (Nat.le_of_ble_eq_true rfl))) (Or.inr (show 2 < 9 - (0 ||| (1 * 256)) / 256 from by have := or_256 (b := 1) (show 0 < 256 from by omega); omega)))
    · show m_dp t8 = (dlt 3 + (dlt 2 + (dlt 8 + sD r)))
      have : dlt 13 = 1 := rfl; have : dlt 2 = 0 := rfl; have : dlt 3 = 0 := rfl; have : dlt 8 = 1 := rfl; omega
    · show m_rw t8 = (rho 3 + (rho 2 + (rho 8 + sR r)))
      have : rho 13 = 0 := rfl; have : rho 2 = 0 := rfl; have : rho 3 = 0 := rfl; have : rho 8 = 0 := rfl; omega
    · show m_md t8 + (mu7 3 + (mu7 2 + (mu7 8 + sM r))) ≤ 3 * m_at t8 + 7 * (r.length + 1 + 1 + 1) + 10
      have : mu7 13 = 4 := rfl; have : mu7 2 = 7 := rfl; have : mu7 3 = 5 := rfl; have : mu7 8 = 4 := rfl; omega
  · refine Kp_pass C_t0 hT (by omega) (by decide) (by omega) (fun t9 C_t9 x_t9 a_t9 b_t9 d_t9 w_t9 u_t9 v_t9 _ _ _ l_t9 => ?_)
    have e_t9 := C_t9.2.2.2.1
    rcases w_t9 with ⟨w_t9, y_t9⟩ | ⟨w_t9, wb_t9⟩
    · have z_t9 : m_at t0 < m_ct t0 := lo_ne (Nat.ne_of_gt (show 0 < lo t0 (m_at t0) from by omega))
      have m_n_t9 : n < m_md t9 := by omega
      have g_n_t9 := (x_t9.2.2.1 n m_n_t0).2.1 w_n_t0 g_n_t0
      have w_n_t9 : W5 t9 n := (x_t9.2.2.1 n m_n_t0).1 w_n_t0
      refine Ok_ck (show (m_dp t9) ≠ 0 from by omega) ?_
      refine Kp_dp C_t9 (fun t10 C_t10 x_t10 a_t10 b_t10 d_t10 w_t10 u_t10 v_t10 _ _ _ l_t10 => ?_)
      have e_t10 := C_t10.2.2.2.1
      have m_n_t10 : n < m_md t10 := by omega
      have g_n_t10 := (x_t10.2.2.1 n m_n_t9).2.1 w_n_t9 g_n_t9
      have w_n_t10 : W5 t10 n := (x_t10.2.2.1 n m_n_t9).1 w_n_t9
      refine Ok_ret (show Ok _ _ _ from ?_)
      refine Ok_ret (show Ok _ _ _ from ?_)
      refine Hv_mk C_t10 hT (by omega) (by omega) (by omega) ?_ ?_ ?_ (by omega) ?_ ?_
      · exact Stk_step (N := n) (pop := (13, n, t)) (new := []) F0 C_t10.1 (fun _ => m_n_t0) (fun q _ h => h (13, n, t) rfl) (fun _ => rfl) (fun y hy hk => ⟨rfl, Mo_nil (n := n) y hy hk⟩) (fun (h : 13 = 3 ∨ 13 = 18 ∨ 13 = 41) => absurd h (by decide)) (fun (h : 13 = 18) => absurd h (by decide)) (fun (h : 13 = 41 ∨ 13 = 42 ∨ 13 = 43) => absurd h (by decide)) r [] (fun y hy => absurd hy List.not_mem_nil) hS
      · exact Aj_tl hJ
      · show m_dp t10 = sD r
        have : dlt 13 = 1 := rfl; omega
      · show m_rw t10 = sR r
        have : rho 13 = 0 := rfl; omega
      · show m_md t10 + sM r ≤ 3 * m_at t10 + 7 * (r.length) + 10
        have : mu7 13 = 4 := rfl; omega
    · have w_t9 := Nat.pos_of_ne_zero w_t9
      have m_n_t9 : n < m_md t9 := by omega
      have g_n_t9 := (x_t9.2.2.1 n m_n_t0).2.1 w_n_t0 g_n_t0
      have w_n_t9 : W5 t9 n := (x_t9.2.2.1 n m_n_t0).1 w_n_t0
      refine Ok_ck (show (m_dp t9) ≠ 0 from by omega) ?_
      refine Kp_dp C_t9 (fun t11 C_t11 x_t11 a_t11 b_t11 d_t11 w_t11 u_t11 v_t11 _ _ _ l_t11 => ?_)
      have e_t11 := C_t11.2.2.2.1
      have m_n_t11 : n < m_md t11 := by omega
      have g_n_t11 := (x_t11.2.2.1 n m_n_t9).2.1 w_n_t9 g_n_t9
      have w_n_t11 : W5 t11 n := (x_t11.2.2.1 n m_n_t9).1 w_n_t9
      refine Ok_ret (show Ok _ _ _ from ?_)
      refine Ok_ret (show Ok _ _ _ from ?_)
      exact Or.inl ⟨Nat.ne_of_gt (show 0 < m_wr t11 from by omega), by omega⟩

theorem S_14 {s : Mm} {n t : Nat} {r : List It} (H : Hv s ((14, n, t) :: r)) {E : Mm → Prop} : Ok Qh E (b_X6_step 14 n t (w_td s (m_td s - 1))) := by
  obtain ⟨hT, hc, hw0, ha, hC, hS, hJ, hdp, hdl, hrw, hmd, htd, hln, hm16, hI, hD⟩ := Hv_pop H
  have C_t0 := hC n
  generalize ht0 : w_td s (m_td s - 1) = t0 at *
  have b_t0 : m_md t0 = m_md s := by rw [← ht0]
  have a_t0 : m_at t0 = m_at s := by rw [← ht0]
  have d_t0 : m_dp t0 = m_dp s := by rw [← ht0]
  have w_t0 : m_wr t0 = m_wr s := by rw [← ht0]
  have u_t0 : m_rw t0 = m_rw s := by rw [← ht0]
  have v_t0 : m_td t0 = m_td s - 1 := by rw [← ht0]
  have e_t0 : m_ct t0 = m_ct s := by rw [← ht0]
  have F0 := C_t0.2.1
  obtain ⟨m_n_t0, g_n_t0, w_n_t0⟩ : n < m_md t0 ∧ GdS t0 n ∧ W5 t0 n := hI.2.1 rfl
  have ht : t < 4096 := hI.1.1 (show 14 ≠ 42 by decide) (show 14 ≠ 48 by decide)
  have hdp : m_dp s = dlt 14 + sD r := hdp
  have hrw : m_rw s = rho 14 + sR r := hrw
  have hmd : m_md s + mu7 14 + sM r ≤ 3 * m_at s + 7 * r.length + 17 := hmd
  have hand : t &&& 1 ≤ 1 := Nat.and_le_right
  have h01 : (0 &&& 1 : Nat) = 0 := rfl
  have h02 : (1 : Nat) * 256 = 256 := rfl
  have hq1 : dlt 14 = 1 := rfl
  have hq2 : rho 14 = 0 := rfl
  have hq3 : mu7 14 = 4 := rfl
  unfold b_X6_step
  refine Ok_ifl (by decide) (by decide) (fun _ => ?_) (fun q => absurd (by decide) q)
  refine Ok_ifl (by decide) (by decide) (fun _ => ?_) (fun q => absurd (by decide) q)
  refine Ok_bnc ?_
  try unfold b_X6_value_
  refine Ok_ck (by decide) ?_
  refine Ok_ife (by decide) (by decide) (fun q => absurd q (by decide)) (fun _ => ?_)
  refine Ok_ife (by decide) (by decide) (fun q => absurd q (by decide)) (fun _ => ?_)
  refine Ok_ife (by decide) (by decide) (fun q => absurd q (by decide)) (fun _ => ?_)
  refine Ok_ife (by decide) (by decide) (fun q => absurd q (by decide)) (fun _ => ?_)
  refine Ok_ife (by decide) (by decide) (fun q => absurd q (by decide)) (fun _ => ?_)
  refine Ok_ife (by decide) (by decide) (fun q => absurd q (by decide)) (fun _ => ?_)
  refine Ok_ife (by decide) (by decide) (fun q => absurd q (by decide)) (fun _ => ?_)
  refine Ok_ife (by decide) (by decide) (fun q => absurd q (by decide)) (fun _ => ?_)
  refine Ok_ife (by decide) (by decide) (fun q => absurd q (by decide)) (fun _ => ?_)
  refine Ok_ife (by decide) (by decide) (fun _ => ?_) (fun q => absurd (by decide) q)
  refine Ok_bnc ?_
  try unfold b_X6_elements
  refine Kp_look C_t0 hT (by omega) ?_
  refine Ok_ife (Nat.lt_trans (lo_lt (C_t0.tk hT) _) (by decide)) (by decide) (fun q3 => ?_) (fun q3 => ?_)
  · have z_t4 : m_at t0 < m_ct t0 := lo_ne (Nat.ne_of_gt (show 0 < lo t0 (m_at t0) from by omega))
    refine Kp_at C_t0 (fun t4 C_t4 x_t4 a_t4 b_t4 d_t4 w_t4 u_t4 v_t4 _ _ _ l_t4 => ?_)
    have e_t4 := C_t4.2.2.2.1
    have m_n_t4 : n < m_md t4 := by omega
    have g_n_t4 := (x_t4.2.2.1 n m_n_t0).2.1 w_n_t0 g_n_t0
    have w_n_t4 : W5 t4 n := (x_t4.2.2.1 n m_n_t0).1 w_n_t0
    refine Ok_ck (show (m_dp t4) ≠ 0 from by omega) ?_
    refine Kp_dp C_t4 (fun t5 C_t5 x_t5 a_t5 b_t5 d_t5 w_t5 u_t5 v_t5 _ _ _ l_t5 => ?_)
    have e_t5 := C_t5.2.2.2.1
    have m_n_t5 : n < m_md t5 := by omega
    have g_n_t5 := (x_t5.2.2.1 n m_n_t4).2.1 w_n_t4 g_n_t4
    have w_n_t5 : W5 t5 n := (x_t5.2.2.1 n m_n_t4).1 w_n_t4
    refine Ok_ret (show Ok _ _ _ from ?_)
    refine Ok_ret (show Ok _ _ _ from ?_)
    refine Hv_mk C_t5 hT (by omega) (by omega) (by omega) ?_ ?_ ?_ (by omega) ?_ ?_
    · exact Stk_step (N := n) (pop := (14, n, t)) (new := []) F0 C_t5.1 (fun _ => m_n_t0) (fun q _ h => h (14, n, t) rfl) (fun _ => rfl) (fun y hy hk => ⟨rfl, Mo_nil (n := n) y hy hk⟩) (fun (h : 14 = 3 ∨ 14 = 18 ∨ 14 = 41) => absurd h (by decide)) (fun (h : 14 = 18) => absurd h (by decide)) (fun (h : 14 = 41 ∨ 14 = 42 ∨ 14 = 43) => absurd h (by decide)) r [] (fun y hy => absurd hy List.not_mem_nil) hS
    · exact Aj_tl hJ
    · show m_dp t5 = sD r
      have : dlt 14 = 1 := rfl; omega
    · show m_rw t5 = sR r
      have : rho 14 = 0 := rfl; omega
    · show m_md t5 + sM r ≤ 3 * m_at t5 + 7 * (r.length) + 10
      have : mu7 14 = 4 := rfl; omega
  · refine Kp_child C_t0 m_n_t0 g_n_t0 w_n_t0 (by omega) (by omega) (fun t6 C_t6 x_t6 a_t6 b_t6 d_t6 w_t6 u_t6 v_t6 wn_t6 fn_t6 fp_t6 _ l_t6 => ?_)
    have e_t6 := C_t6.2.2.2.1
    have m_n_t6 : n < m_md t6 := by omega
    have g_n_t6 := (x_t6.2.2.1 n m_n_t0).2.1 w_n_t0 g_n_t0
    have w_n_t6 : W5 t6 n := (x_t6.2.2.1 n m_n_t0).1 w_n_t0
    have f_n_t6 : Fz t6 n := fp_t6
    have m_m_mdt0_t6 : m_md t0 < m_md t6 := by omega
    have g_m_mdt0_t6 : GdS t6 (m_md t0) := Or.inl fn_t6
    have w_m_mdt0_t6 : W5 t6 (m_md t0) := by unfold W5; rw [wn_t6]; decide
    have u_m_mdt0_t6 : Up t6 (m_md t0) := Or.inl fn_t6
    clear fp_t6 fn_t6 wn_t6
    refine Kp_push C_t6 (by omega) (fun t7 C_t7 x_t7 a_t7 b_t7 d_t7 w_t7 u_t7 v_t7 _ _ _ l_t7 => ?_)
    have e_t7 := C_t7.2.2.2.1
    have m_n_t7 : n < m_md t7 := by omega
    have g_n_t7 := (x_t7.2.2.1 n m_n_t6).2.1 w_n_t6 g_n_t6
    have w_n_t7 : W5 t7 n := (x_t7.2.2.1 n m_n_t6).1 w_n_t6
    have f_n_t7 : Fz t7 n := (x_t7.2.2.1 n m_n_t6).2.2.1 f_n_t6
    have m_m_mdt0_t7 : m_md t0 < m_md t7 := by omega
    have g_m_mdt0_t7 := (x_t7.2.2.1 (m_md t0) m_m_mdt0_t6).2.1 w_m_mdt0_t6 g_m_mdt0_t6
    have w_m_mdt0_t7 : W5 t7 (m_md t0) := (x_t7.2.2.1 (m_md t0) m_m_mdt0_t6).1 w_m_mdt0_t6
    have u_m_mdt0_t7 := (x_t7.2.2.1 (m_md t0) m_m_mdt0_t6).2.2.2.1 u_m_mdt0_t6
    refine Kp_push C_t7 (by omega) (fun t8 C_t8 x_t8 a_t8 b_t8 d_t8 w_t8 u_t8 v_t8 _ _ _ l_t8 => ?_)
    have e_t8 := C_t8.2.2.2.1
    have m_n_t8 : n < m_md t8 := by omega
    have g_n_t8 := (x_t8.2.2.1 n m_n_t7).2.1 w_n_t7 g_n_t7
    have w_n_t8 : W5 t8 n := (x_t8.2.2.1 n m_n_t7).1 w_n_t7
    have f_n_t8 : Fz t8 n := (x_t8.2.2.1 n m_n_t7).2.2.1 f_n_t7
    have m_m_mdt0_t8 : m_md t0 < m_md t8 := by omega
    have g_m_mdt0_t8 := (x_t8.2.2.1 (m_md t0) m_m_mdt0_t7).2.1 w_m_mdt0_t7 g_m_mdt0_t7
    have w_m_mdt0_t8 : W5 t8 (m_md t0) := (x_t8.2.2.1 (m_md t0) m_m_mdt0_t7).1 w_m_mdt0_t7
    have u_m_mdt0_t8 := (x_t8.2.2.1 (m_md t0) m_m_mdt0_t7).2.2.2.1 u_m_mdt0_t7
    refine Kp_push C_t8 (by omega) (fun t9 C_t9 x_t9 a_t9 b_t9 d_t9 w_t9 u_t9 v_t9 _ _ _ l_t9 => ?_)
    have e_t9 := C_t9.2.2.2.1
    have m_n_t9 : n < m_md t9 := by omega
    have g_n_t9 := (x_t9.2.2.1 n m_n_t8).2.1 w_n_t8 g_n_t8
    have w_n_t9 : W5 t9 n := (x_t9.2.2.1 n m_n_t8).1 w_n_t8
    have f_n_t9 : Fz t9 n := (x_t9.2.2.1 n m_n_t8).2.2.1 f_n_t8
    have m_m_mdt0_t9 : m_md t0 < m_md t9 := by omega
    have g_m_mdt0_t9 := (x_t9.2.2.1 (m_md t0) m_m_mdt0_t8).2.1 w_m_mdt0_t8 g_m_mdt0_t8
    have w_m_mdt0_t9 : W5 t9 (m_md t0) := (x_t9.2.2.1 (m_md t0) m_m_mdt0_t8).1 w_m_mdt0_t8
    have u_m_mdt0_t9 := (x_t9.2.2.1 (m_md t0) m_m_mdt0_t8).2.2.2.1 u_m_mdt0_t8
    refine Ok_ret (show Ok _ _ _ from ?_)
    refine Ok_ret (show Ok _ _ _ from ?_)
    refine Hv_mk C_t9 hT (by omega) (by omega) (by omega) ?_ ?_ ?_ (by omega) ?_ ?_
    · exact ⟨(Io_n (by decide) (by decide) m_m_mdt0_t9 g_m_mdt0_t9 w_m_mdt0_t9 (fun q => absurd q (by decide)) (fun q => absurd q (by decide))), (Nd_0 (by decide) Mo_nil), ⟨(Io_n (by decide) (by decide) m_m_mdt0_t9 g_m_mdt0_t9 w_m_mdt0_t9 (fun q => absurd q (by decide)) (fun q => absurd q (by decide))), (Nd_0 (by decide) (Mo_cons (fun q => show m_md t0 ≤ m_md t0 from by omega) Mo_nil)), ⟨(Io_n (by decide) (by decide) m_n_t9 g_n_t9 w_n_t9 (fun q => absurd q (by decide)) (fun q => absurd q (by decide))), (Nd_0 (by decide) (Mo_cons (fun q => show n ≤ m_md t0 from by omega) (Mo_cons (fun q => show n ≤ m_md t0 from by omega) Mo_nil))), Stk_step (N := n) (pop := (14, n, t)) (new := [(15, n, 0), (16, m_md t0, 0), (17, m_md t0, 0)]) F0 C_t9.1 (fun _ => m_n_t0) (fun q _ h => h (14, n, t) rfl) (fun _ => rfl) (fun y hy hk => ⟨rfl, (Mo_cons (fun q => show n ≤ n from by omega) (Mo_cons (fun q => show n ≤ m_md t0 from by omega) (Mo_cons (fun q => show n ≤ m_md t0 from by omega) Mo_nil))) y hy hk⟩) (fun (h : 14 = 3 ∨ 14 = 18 ∨ 14 = 41) => absurd h (by decide)) (fun (h : 14 = 18) => absurd h (by decide)) (fun (h : 14 = 41 ∨ 14 = 42 ∨ 14 = 43) => absurd h (by decide)) r [] (fun y hy => absurd hy List.not_mem_nil) hS⟩⟩⟩
    · exact (Aj_up (x := (17, m_md t0, 0)) (Aj_up (x := (16, m_md t0, 0)) (Aj_sub (y := (15, n, 0)) hJ (Nat.le_of_ble_eq_true rfl)) (Or.inl (Nat.le_of_ble_eq_true rfl))) (Or.inr (Nat.le_of_ble_eq_true rfl)))
    · show m_dp t9 = (dlt 17 + (dlt 16 + (dlt 15 + sD r)))
      have : dlt 14 = 1 := rfl; have : dlt 15 = 1 := rfl; have : dlt 16 = 0 := rfl; have : dlt 17 = 0 := rfl; omega
    · show m_rw t9 = (rho 17 + (rho 16 + (rho 15 + sR r)))
      have : rho 14 = 0 := rfl; have : rho 15 = 0 := rfl; have : rho 16 = 0 := rfl; have : rho 17 = 0 := rfl; omega
    · show m_md t9 + (mu7 17 + (mu7 16 + (mu7 15 + sM r))) ≤ 3 * m_at t9 + 7 * (r.length + 1 + 1 + 1) + 10
      have : mu7 14 = 4 := rfl; have : mu7 15 = 4 := rfl; have : mu7 16 = 7 := rfl; have : mu7 17 = 5 := rfl; omega

theorem S_15 {s : Mm} {n t : Nat} {r : List It} (H : Hv s ((15, n, t) :: r)) {E : Mm → Prop} : Ok Qh E (b_X6_step 15 n t (w_td s (m_td s - 1))) := by
  obtain ⟨hT, hc, hw0, ha, hC, hS, hJ, hdp, hdl, hrw, hmd, htd, hln, hm16, hI, hD⟩ := Hv_pop H
  have C_t0 := hC n
  generalize ht0 : w_td s (m_td s - 1) = t0 at *
  have b_t0 : m_md t0 = m_md s := by rw [← ht0]
  have a_t0 : m_at t0 = m_at s := by rw [← ht0]
  have d_t0 : m_dp t0 = m_dp s := by rw [← ht0]
  have w_t0 : m_wr t0 = m_wr s := by rw [← ht0]
  have u_t0 : m_rw t0 = m_rw s := by rw [← ht0]
  have v_t0 : m_td t0 = m_td s - 1 := by rw [← ht0]
  have e_t0 : m_ct t0 = m_ct s := by rw [← ht0]
  have F0 := C_t0.2.1
  obtain ⟨m_n_t0, g_n_t0, w_n_t0⟩ : n < m_md t0 ∧ GdS t0 n ∧ W5 t0 n := hI.2.1 rfl
  have ht : t < 4096 := hI.1.1 (show 15 ≠ 42 by decide) (show 15 ≠ 48 by decide)
  have hdp : m_dp s = dlt 15 + sD r := hdp
  have hrw : m_rw s = rho 15 + sR r := hrw
  have hmd : m_md s + mu7 15 + sM r ≤ 3 * m_at s + 7 * r.length + 17 := hmd
  have hand : t &&& 1 ≤ 1 := Nat.and_le_right
  have h01 : (0 &&& 1 : Nat) = 0 := rfl
  have h02 : (1 : Nat) * 256 = 256 := rfl
  have hq1 : dlt 15 = 1 := rfl
  have hq2 : rho 15 = 0 := rfl
  have hq3 : mu7 15 = 4 := rfl
  unfold b_X6_step
  refine Ok_ifl (by decide) (by decide) (fun _ => ?_) (fun q => absurd (by decide) q)
  refine Ok_ifl (by decide) (by decide) (fun _ => ?_) (fun q => absurd (by decide) q)
  refine Ok_bnc ?_
  try unfold b_X6_value_
  refine Ok_ck (by decide) ?_
  refine Ok_ife (by decide) (by decide) (fun q => absurd q (by decide)) (fun _ => ?_)
  refine Ok_ife (by decide) (by decide) (fun q => absurd q (by decide)) (fun _ => ?_)
  refine Ok_ife (by decide) (by decide) (fun q => absurd q (by decide)) (fun _ => ?_)
  refine Ok_ife (by decide) (by decide) (fun q => absurd q (by decide)) (fun _ => ?_)
  refine Ok_ife (by decide) (by decide) (fun q => absurd q (by decide)) (fun _ => ?_)
  refine Ok_ife (by decide) (by decide) (fun q => absurd q (by decide)) (fun _ => ?_)
  refine Ok_ife (by decide) (by decide) (fun q => absurd q (by decide)) (fun _ => ?_)
  refine Ok_ife (by decide) (by decide) (fun q => absurd q (by decide)) (fun _ => ?_)
  refine Ok_ife (by decide) (by decide) (fun q => absurd q (by decide)) (fun _ => ?_)
  refine Ok_ife (by decide) (by decide) (fun q => absurd q (by decide)) (fun _ => ?_)
  refine Ok_ife (by decide) (by decide) (fun _ => ?_) (fun q => absurd (by decide) q)
  refine Ok_bnc ?_
  try unfold b_X6_elementsMore
  refine Kp_look C_t0 hT (by omega) ?_
  refine Ok_ife (Nat.lt_trans (lo_lt (C_t0.tk hT) _) (by decide)) (by decide) (fun q3 => ?_) (fun q3 => ?_)
  · refine Ok_bnc ?_
    try unfold b_X6_elements
    refine Kp_look C_t0 hT (by omega) ?_
    refine Ok_ife (Nat.lt_trans (lo_lt (C_t0.tk hT) _) (by decide)) (by decide) (fun q5 => ?_) (fun q5 => ?_)
    · have z_t6 : m_at t0 < m_ct t0 := lo_ne (Nat.ne_of_gt (show 0 < lo t0 (m_at t0) from by omega))
      refine Kp_at C_t0 (fun t6 C_t6 x_t6 a_t6 b_t6 d_t6 w_t6 u_t6 v_t6 _ _ _ l_t6 => ?_)
      have e_t6 := C_t6.2.2.2.1
      have m_n_t6 : n < m_md t6 := by omega
      have g_n_t6 := (x_t6.2.2.1 n m_n_t0).2.1 w_n_t0 g_n_t0
      have w_n_t6 : W5 t6 n := (x_t6.2.2.1 n m_n_t0).1 w_n_t0
      refine Ok_ck (show (m_dp t6) ≠ 0 from by omega) ?_
      refine Kp_dp C_t6 (fun t7 C_t7 x_t7 a_t7 b_t7 d_t7 w_t7 u_t7 v_t7 _ _ _ l_t7 => ?_)
      have e_t7 := C_t7.2.2.2.1
      have m_n_t7 : n < m_md t7 := by omega
      have g_n_t7 := (x_t7.2.2.1 n m_n_t6).2.1 w_n_t6 g_n_t6
      have w_n_t7 : W5 t7 n := (x_t7.2.2.1 n m_n_t6).1 w_n_t6
      refine Ok_ret (show Ok _ _ _ from ?_)
      refine Ok_ret (show Ok _ _ _ from ?_)
      refine Ok_ret (show Ok _ _ _ from ?_)
      refine Hv_mk C_t7 hT (by omega) (by omega) (by omega) ?_ ?_ ?_ (by omega) ?_ ?_
      · exact Stk_step (N := n) (pop := (15, n, t)) (new := []) F0 C_t7.1 (fun _ => m_n_t0) (fun q _ h => h (15, n, t) rfl) (fun _ => rfl) (fun y hy hk => ⟨rfl, Mo_nil (n := n) y hy hk⟩) (fun (h : 15 = 3 ∨ 15 = 18 ∨ 15 = 41) => absurd h (by decide)) (fun (h : 15 = 18) => absurd h (by decide)) (fun (h : 15 = 41 ∨ 15 = 42 ∨ 15 = 43) => absurd h (by decide)) r [] (fun y hy => absurd hy List.not_mem_nil) hS
      · exact Aj_tl hJ
      · show m_dp t7 = sD r
        have : dlt 15 = 1 := rfl; omega
      · show m_rw t7 = sR r
        have : rho 15 = 0 := rfl; omega
      · show m_md t7 + sM r ≤ 3 * m_at t7 + 7 * (r.length) + 10
        have : mu7 15 = 4 := rfl; omega
    · refine Kp_child C_t0 m_n_t0 g_n_t0 w_n_t0 (by omega) (by omega) (fun t8 C_t8 x_t8 a_t8 b_t8 d_t8 w_t8 u_t8 v_t8 wn_t8 fn_t8 fp_t8 _ l_t8 => ?_)
      have e_t8 := C_t8.2.2.2.1
      have m_n_t8 : n < m_md t8 := by omega
      have g_n_t8 := (x_t8.2.2.1 n m_n_t0).2.1 w_n_t0 g_n_t0
      have w_n_t8 : W5 t8 n := (x_t8.2.2.1 n m_n_t0).1 w_n_t0
      have f_n_t8 : Fz t8 n := fp_t8
      have m_m_mdt0_t8 : m_md t0 < m_md t8 := by omega
      have g_m_mdt0_t8 : GdS t8 (m_md t0) := Or.inl fn_t8
      have w_m_mdt0_t8 : W5 t8 (m_md t0) := by unfold W5; rw [wn_t8]; decide
      have u_m_mdt0_t8 : Up t8 (m_md t0) := Or.inl fn_t8
      clear fp_t8 fn_t8 wn_t8
      refine Kp_push C_t8 (by omega) (fun t9 C_t9 x_t9 a_t9 b_t9 d_t9 w_t9 u_t9 v_t9 _ _ _ l_t9 => ?_)
      have e_t9 := C_t9.2.2.2.1
      have m_n_t9 : n < m_md t9 := by omega
      have g_n_t9 := (x_t9.2.2.1 n m_n_t8).2.1 w_n_t8 g_n_t8
      have w_n_t9 : W5 t9 n := (x_t9.2.2.1 n m_n_t8).1 w_n_t8
      have f_n_t9 : Fz t9 n := (x_t9.2.2.1 n m_n_t8).2.2.1 f_n_t8
      have m_m_mdt0_t9 : m_md t0 < m_md t9 := by omega
      have g_m_mdt0_t9 := (x_t9.2.2.1 (m_md t0) m_m_mdt0_t8).2.1 w_m_mdt0_t8 g_m_mdt0_t8
      have w_m_mdt0_t9 : W5 t9 (m_md t0) := (x_t9.2.2.1 (m_md t0) m_m_mdt0_t8).1 w_m_mdt0_t8
      have u_m_mdt0_t9 := (x_t9.2.2.1 (m_md t0) m_m_mdt0_t8).2.2.2.1 u_m_mdt0_t8
      refine Kp_push C_t9 (by omega) (fun t10 C_t10 x_t10 a_t10 b_t10 d_t10 w_t10 u_t10 v_t10 _ _ _ l_t10 => ?_)
      have e_t10 := C_t10.2.2.2.1
      have m_n_t10 : n < m_md t10 := by omega
      have g_n_t10 := (x_t10.2.2.1 n m_n_t9).2.1 w_n_t9 g_n_t9
      have w_n_t10 : W5 t10 n := (x_t10.2.2.1 n m_n_t9).1 w_n_t9
      have f_n_t10 : Fz t10 n := (x_t10.2.2.1 n m_n_t9).2.2.1 f_n_t9
      have m_m_mdt0_t10 : m_md t0 < m_md t10 := by omega
      have g_m_mdt0_t10 := (x_t10.2.2.1 (m_md t0) m_m_mdt0_t9).2.1 w_m_mdt0_t9 g_m_mdt0_t9
      have w_m_mdt0_t10 : W5 t10 (m_md t0) := (x_t10.2.2.1 (m_md t0) m_m_mdt0_t9).1 w_m_mdt0_t9
      have u_m_mdt0_t10 := (x_t10.2.2.1 (m_md t0) m_m_mdt0_t9).2.2.2.1 u_m_mdt0_t9
      refine Kp_push C_t10 (by omega) (fun t11 C_t11 x_t11 a_t11 b_t11 d_t11 w_t11 u_t11 v_t11 _ _ _ l_t11 => ?_)
      have e_t11 := C_t11.2.2.2.1
      have m_n_t11 : n < m_md t11 := by omega
      have g_n_t11 := (x_t11.2.2.1 n m_n_t10).2.1 w_n_t10 g_n_t10
      have w_n_t11 : W5 t11 n := (x_t11.2.2.1 n m_n_t10).1 w_n_t10
      have f_n_t11 : Fz t11 n := (x_t11.2.2.1 n m_n_t10).2.2.1 f_n_t10
      have m_m_mdt0_t11 : m_md t0 < m_md t11 := by omega
      have g_m_mdt0_t11 := (x_t11.2.2.1 (m_md t0) m_m_mdt0_t10).2.1 w_m_mdt0_t10 g_m_mdt0_t10
      have w_m_mdt0_t11 : W5 t11 (m_md t0) := (x_t11.2.2.1 (m_md t0) m_m_mdt0_t10).1 w_m_mdt0_t10
      have u_m_mdt0_t11 := (x_t11.2.2.1 (m_md t0) m_m_mdt0_t10).2.2.2.1 u_m_mdt0_t10
      refine Ok_ret (show Ok _ _ _ from ?_)
      refine Ok_ret (show Ok _ _ _ from ?_)
      refine Ok_ret (show Ok _ _ _ from ?_)
      refine Hv_mk C_t11 hT (by omega) (by omega) (by omega) ?_ ?_ ?_ (by omega) ?_ ?_
      · exact ⟨(Io_n (by decide) (by decide) m_m_mdt0_t11 g_m_mdt0_t11 w_m_mdt0_t11 (fun q => absurd q (by decide)) (fun q => absurd q (by decide))), (Nd_0 (by decide) Mo_nil), ⟨(Io_n (by decide) (by decide) m_m_mdt0_t11 g_m_mdt0_t11 w_m_mdt0_t11 (fun q => absurd q (by decide)) (fun q => absurd q (by decide))), (Nd_0 (by decide) (Mo_cons (fun q => show m_md t0 ≤ m_md t0 from by omega) Mo_nil)), ⟨(Io_n (by decide) (by decide) m_n_t11 g_n_t11 w_n_t11 (fun q => absurd q (by decide)) (fun q => absurd q (by decide))), (Nd_0 (by decide) (Mo_cons (fun q => show n ≤ m_md t0 from by omega) (Mo_cons (fun q => show n ≤ m_md t0 from by omega) Mo_nil))), Stk_step (N := n) (pop := (15, n, t)) (new := [(15, n, 0), (16, m_md t0, 0), (17, m_md t0, 0)]) F0 C_t11.1 (fun _ => m_n_t0) (fun q _ h => h (15, n, t) rfl) (fun _ => rfl) (fun y hy hk => ⟨rfl, (Mo_cons (fun q => show n ≤ n from by omega) (Mo_cons (fun q => show n ≤ m_md t0 from by omega) (Mo_cons (fun q => show n ≤ m_md t0 from by omega) Mo_nil))) y hy hk⟩) (fun (h : 15 = 3 ∨ 15 = 18 ∨ 15 = 41) => absurd h (by decide)) (fun (h : 15 = 18) => absurd h (by decide)) (fun (h : 15 = 41 ∨ 15 = 42 ∨ 15 = 43) => absurd h (by decide)) r [] (fun y hy => absurd hy List.not_mem_nil) hS⟩⟩⟩
      · exact (Aj_up (x := (17, m_md t0, 0)) (Aj_up (x := (16, m_md t0, 0)) (Aj_sub (y := (15, n, 0)) hJ (Nat.le_of_ble_eq_true rfl)) (Or.inl (Nat.le_of_ble_eq_true rfl))) (Or.inr (Nat.le_of_ble_eq_true rfl)))
      · show m_dp t11 = (dlt 17 + (dlt 16 + (dlt 15 + sD r)))
        have : dlt 15 = 1 := rfl; have : dlt 16 = 0 := rfl; have : dlt 17 = 0 := rfl; omega
      · show m_rw t11 = (rho 17 + (rho 16 + (rho 15 + sR r)))
        have : rho 15 = 0 := rfl; have : rho 16 = 0 := rfl; have : rho 17 = 0 := rfl; omega
      · show m_md t11 + (mu7 17 + (mu7 16 + (mu7 15 + sM r))) ≤ 3 * m_at t11 + 7 * (r.length + 1 + 1 + 1) + 10
        have : mu7 15 = 4 := rfl; have : mu7 16 = 7 := rfl; have : mu7 17 = 5 := rfl; omega
  · refine Kp_pass C_t0 hT (by omega) (by decide) (by omega) (fun t12 C_t12 x_t12 a_t12 b_t12 d_t12 w_t12 u_t12 v_t12 _ _ _ l_t12 => ?_)
    have e_t12 := C_t12.2.2.2.1
    rcases w_t12 with ⟨w_t12, y_t12⟩ | ⟨w_t12, wb_t12⟩
    · have z_t12 : m_at t0 < m_ct t0 := lo_ne (Nat.ne_of_gt (show 0 < lo t0 (m_at t0) from by omega))
      have m_n_t12 : n < m_md t12 := by omega
      have g_n_t12 := (x_t12.2.2.1 n m_n_t0).2.1 w_n_t0 g_n_t0
      have w_n_t12 : W5 t12 n := (x_t12.2.2.1 n m_n_t0).1 w_n_t0
      refine Kp_push C_t12 (by omega) (fun t13 C_t13 x_t13 a_t13 b_t13 d_t13 w_t13 u_t13 v_t13 _ _ _ l_t13 => ?_)
      have e_t13 := C_t13.2.2.2.1
      have m_n_t13 : n < m_md t13 := by omega
      have g_n_t13 := (x_t13.2.2.1 n m_n_t12).2.1 w_n_t12 g_n_t12
      have w_n_t13 : W5 t13 n := (x_t13.2.2.1 n m_n_t12).1 w_n_t12
      refine Ok_ret (show Ok _ _ _ from ?_)
      refine Ok_ret (show Ok _ _ _ from ?_)
      refine Hv_mk C_t13 hT (by omega) (by omega) (by omega) ?_ ?_ ?_ (by omega) ?_ ?_
      · exact ⟨(Io_n (by decide) (by decide) m_n_t13 g_n_t13 w_n_t13 (fun q => absurd q (by decide)) (fun q => absurd q (by decide))), (Nd_0 (by decide) Mo_nil), Stk_step (N := n) (pop := (15, n, t)) (new := [(14, n, 0)]) F0 C_t13.1 (fun _ => m_n_t0) (fun q _ h => h (15, n, t) rfl) (fun _ => rfl) (fun y hy hk => ⟨rfl, (Mo_cons (fun q => show n ≤ n from by omega) Mo_nil) y hy hk⟩) (fun (h : 15 = 3 ∨ 15 = 18 ∨ 15 = 41) => absurd h (by decide)) (fun (h : 15 = 18) => absurd h (by decide)) (fun (h : 15 = 41 ∨ 15 = 42 ∨ 15 = 43) => absurd h (by decide)) r [] (fun y hy => absurd hy List.not_mem_nil) hS⟩
      · exact (Aj_sub (y := (14, n, 0)) hJ (Nat.le_of_ble_eq_true rfl))
      · show m_dp t13 = (dlt 14 + sD r)
        have : dlt 14 = 1 := rfl; have : dlt 15 = 1 := rfl; omega
      · show m_rw t13 = (rho 14 + sR r)
        have : rho 14 = 0 := rfl; have : rho 15 = 0 := rfl; omega
      · show m_md t13 + (mu7 14 + sM r) ≤ 3 * m_at t13 + 7 * (r.length + 1) + 10
        have : mu7 14 = 4 := rfl; have : mu7 15 = 4 := rfl; omega
    · have w_t12 := Nat.pos_of_ne_zero w_t12
      have m_n_t12 : n < m_md t12 := by omega
      have g_n_t12 := (x_t12.2.2.1 n m_n_t0).2.1 w_n_t0 g_n_t0
      have w_n_t12 : W5 t12 n := (x_t12.2.2.1 n m_n_t0).1 w_n_t0
      refine Kp_push C_t12 (by omega) (fun t14 C_t14 x_t14 a_t14 b_t14 d_t14 w_t14 u_t14 v_t14 _ _ _ l_t14 => ?_)
      have e_t14 := C_t14.2.2.2.1
      have m_n_t14 : n < m_md t14 := by omega
      have g_n_t14 := (x_t14.2.2.1 n m_n_t12).2.1 w_n_t12 g_n_t12
      have w_n_t14 : W5 t14 n := (x_t14.2.2.1 n m_n_t12).1 w_n_t12
      refine Ok_ret (show Ok _ _ _ from ?_)
      refine Ok_ret (show Ok _ _ _ from ?_)
      exact Or.inl ⟨Nat.ne_of_gt (show 0 < m_wr t14 from by omega), by omega⟩

theorem S_16 {s : Mm} {n t : Nat} {r : List It} (H : Hv s ((16, n, t) :: r)) {E : Mm → Prop} : Ok Qh E (b_X6_step 16 n t (w_td s (m_td s - 1))) := by
  obtain ⟨hT, hc, hw0, ha, hC, hS, hJ, hdp, hdl, hrw, hmd, htd, hln, hm16, hI, hD⟩ := Hv_pop H
  have C_t0 := hC n
  generalize ht0 : w_td s (m_td s - 1) = t0 at *
  have b_t0 : m_md t0 = m_md s := by rw [← ht0]
  have a_t0 : m_at t0 = m_at s := by rw [← ht0]
  have d_t0 : m_dp t0 = m_dp s := by rw [← ht0]
  have w_t0 : m_wr t0 = m_wr s := by rw [← ht0]
  have u_t0 : m_rw t0 = m_rw s := by rw [← ht0]
  have v_t0 : m_td t0 = m_td s - 1 := by rw [← ht0]
  have e_t0 : m_ct t0 = m_ct s := by rw [← ht0]
  have F0 := C_t0.2.1
  obtain ⟨m_n_t0, g_n_t0, w_n_t0⟩ : n < m_md t0 ∧ GdS t0 n ∧ W5 t0 n := hI.2.1 rfl
  have ht : t < 4096 := hI.1.1 (show 16 ≠ 42 by decide) (show 16 ≠ 48 by decide)
  have hdp : m_dp s = dlt 16 + sD r := hdp
  have hrw : m_rw s = rho 16 + sR r := hrw
  have hmd : m_md s + mu7 16 + sM r ≤ 3 * m_at s + 7 * r.length + 17 := hmd
  have hand : t &&& 1 ≤ 1 := Nat.and_le_right
  have h01 : (0 &&& 1 : Nat) = 0 := rfl
  have h02 : (1 : Nat) * 256 = 256 := rfl
  have hq1 : dlt 16 = 0 := rfl
  have hq2 : rho 16 = 0 := rfl
  have hq3 : mu7 16 = 7 := rfl
  unfold b_X6_step
  refine Ok_ifl (by decide) (by decide) (fun _ => ?_) (fun q => absurd (by decide) q)
  refine Ok_ifl (by decide) (by decide) (fun _ => ?_) (fun q => absurd (by decide) q)
  refine Ok_bnc ?_
  try unfold b_X6_value_
  refine Ok_ck (by decide) ?_
  refine Ok_ife (by decide) (by decide) (fun q => absurd q (by decide)) (fun _ => ?_)
  refine Ok_ife (by decide) (by decide) (fun q => absurd q (by decide)) (fun _ => ?_)
  refine Ok_ife (by decide) (by decide) (fun q => absurd q (by decide)) (fun _ => ?_)
  refine Ok_ife (by decide) (by decide) (fun q => absurd q (by decide)) (fun _ => ?_)
  refine Ok_ife (by decide) (by decide) (fun q => absurd q (by decide)) (fun _ => ?_)
  refine Ok_ife (by decide) (by decide) (fun q => absurd q (by decide)) (fun _ => ?_)
  refine Ok_ife (by decide) (by decide) (fun q => absurd q (by decide)) (fun _ => ?_)
  refine Ok_ife (by decide) (by decide) (fun q => absurd q (by decide)) (fun _ => ?_)
  refine Ok_ife (by decide) (by decide) (fun q => absurd q (by decide)) (fun _ => ?_)
  refine Ok_ife (by decide) (by decide) (fun q => absurd q (by decide)) (fun _ => ?_)
  refine Ok_ife (by decide) (by decide) (fun q => absurd q (by decide)) (fun _ => ?_)
  refine Ok_ife (by decide) (by decide) (fun _ => ?_) (fun q => absurd (by decide) q)
  refine Ok_bnc ?_
  try unfold b_X6_keyed
  refine Kp_look C_t0 hT (by omega) ?_
  refine Ok_ife (Nat.lt_trans (lo_lt (C_t0.tk hT) _) (by decide)) (by decide) (fun q3 => ?_) (fun q3 => ?_)
  · have z_t4 : m_at t0 < m_ct t0 := lo_ne (Nat.ne_of_gt (show 0 < lo t0 (m_at t0) from by omega))
    refine Kp_at C_t0 (fun t4 C_t4 x_t4 a_t4 b_t4 d_t4 w_t4 u_t4 v_t4 _ _ _ l_t4 => ?_)
    have e_t4 := C_t4.2.2.2.1
    have m_n_t4 : n < m_md t4 := by omega
    have g_n_t4 := (x_t4.2.2.1 n m_n_t0).2.1 w_n_t0 g_n_t0
    have w_n_t4 : W5 t4 n := (x_t4.2.2.1 n m_n_t0).1 w_n_t0
    refine Kp_push C_t4 (by omega) (fun t5 C_t5 x_t5 a_t5 b_t5 d_t5 w_t5 u_t5 v_t5 _ _ _ l_t5 => ?_)
    have e_t5 := C_t5.2.2.2.1
    have m_n_t5 : n < m_md t5 := by omega
    have g_n_t5 := (x_t5.2.2.1 n m_n_t4).2.1 w_n_t4 g_n_t4
    have w_n_t5 : W5 t5 n := (x_t5.2.2.1 n m_n_t4).1 w_n_t4
    refine Ok_ret (show Ok _ _ _ from ?_)
    refine Ok_ret (show Ok _ _ _ from ?_)
    refine Hv_mk C_t5 hT (by omega) (by omega) (by omega) ?_ ?_ ?_ (by omega) ?_ ?_
    · exact ⟨(Io_n (by decide) (by decide) m_n_t5 g_n_t5 w_n_t5 (fun q => absurd q (by decide)) (fun q => absurd q (by decide))), (Nd_0 (by decide) Mo_nil), Stk_step (N := n) (pop := (16, n, t)) (new := [(17, n, 0)]) F0 C_t5.1 (fun _ => m_n_t0) (fun q _ h => h (16, n, t) rfl) (fun _ => rfl) (fun y hy hk => ⟨rfl, (Mo_cons (fun q => show n ≤ n from by omega) Mo_nil) y hy hk⟩) (fun (h : 16 = 3 ∨ 16 = 18 ∨ 16 = 41) => absurd h (by decide)) (fun (h : 16 = 18) => absurd h (by decide)) (fun (h : 16 = 41 ∨ 16 = 42 ∨ 16 = 43) => absurd h (by decide)) r [] (fun y hy => absurd hy List.not_mem_nil) hS⟩
    · exact (Aj_sub (y := (17, n, 0)) hJ (Nat.le_of_ble_eq_true rfl))
    · show m_dp t5 = (dlt 17 + sD r)
      have : dlt 16 = 0 := rfl; have : dlt 17 = 0 := rfl; omega
    · show m_rw t5 = (rho 17 + sR r)
      have : rho 16 = 0 := rfl; have : rho 17 = 0 := rfl; omega
    · show m_md t5 + (mu7 17 + sM r) ≤ 3 * m_at t5 + 7 * (r.length + 1) + 10
      have : mu7 16 = 7 := rfl; have : mu7 17 = 5 := rfl; omega
  · refine Ok_ret (show Ok _ _ _ from ?_)
    refine Ok_ret (show Ok _ _ _ from ?_)
    refine Hv_mk C_t0 hT (by omega) (by omega) (by omega) ?_ ?_ ?_ (by omega) ?_ ?_
    · exact Stk_step (N := n) (pop := (16, n, t)) (new := []) F0 C_t0.1 (fun _ => m_n_t0) (fun q _ h => h (16, n, t) rfl) (fun _ => rfl) (fun y hy hk => ⟨rfl, Mo_nil (n := n) y hy hk⟩) (fun (h : 16 = 3 ∨ 16 = 18 ∨ 16 = 41) => absurd h (by decide)) (fun (h : 16 = 18) => absurd h (by decide)) (fun (h : 16 = 41 ∨ 16 = 42 ∨ 16 = 43) => absurd h (by decide)) r [] (fun y hy => absurd hy List.not_mem_nil) hS
    · exact Aj_tl hJ
    · show m_dp t0 = sD r
      have : dlt 16 = 0 := rfl; omega
    · show m_rw t0 = sR r
      have : rho 16 = 0 := rfl; omega
    · show m_md t0 + sM r ≤ 3 * m_at t0 + 7 * (r.length) + 10
      have : mu7 16 = 7 := rfl; omega

theorem S_17 {s : Mm} {n t : Nat} {r : List It} (H : Hv s ((17, n, t) :: r)) {E : Mm → Prop} : Ok Qh E (b_X6_step 17 n t (w_td s (m_td s - 1))) := by
  obtain ⟨hT, hc, hw0, ha, hC, hS, hJ, hdp, hdl, hrw, hmd, htd, hln, hm16, hI, hD⟩ := Hv_pop H
  have C_t0 := hC n
  generalize ht0 : w_td s (m_td s - 1) = t0 at *
  have b_t0 : m_md t0 = m_md s := by rw [← ht0]
  have a_t0 : m_at t0 = m_at s := by rw [← ht0]
  have d_t0 : m_dp t0 = m_dp s := by rw [← ht0]
  have w_t0 : m_wr t0 = m_wr s := by rw [← ht0]
  have u_t0 : m_rw t0 = m_rw s := by rw [← ht0]
  have v_t0 : m_td t0 = m_td s - 1 := by rw [← ht0]
  have e_t0 : m_ct t0 = m_ct s := by rw [← ht0]
  have F0 := C_t0.2.1
  obtain ⟨m_n_t0, g_n_t0, w_n_t0⟩ : n < m_md t0 ∧ GdS t0 n ∧ W5 t0 n := hI.2.1 rfl
  have ht : t < 4096 := hI.1.1 (show 17 ≠ 42 by decide) (show 17 ≠ 48 by decide)
  have hdp : m_dp s = dlt 17 + sD r := hdp
  have hrw : m_rw s = rho 17 + sR r := hrw
  have hmd : m_md s + mu7 17 + sM r ≤ 3 * m_at s + 7 * r.length + 17 := hmd
  have hand : t &&& 1 ≤ 1 := Nat.and_le_right
  have h01 : (0 &&& 1 : Nat) = 0 := rfl
  have h02 : (1 : Nat) * 256 = 256 := rfl
  have hq1 : dlt 17 = 0 := rfl
  have hq2 : rho 17 = 0 := rfl
  have hq3 : mu7 17 = 5 := rfl
  unfold b_X6_step
  refine Ok_ifl (by decide) (by decide) (fun _ => ?_) (fun q => absurd (by decide) q)
  refine Ok_ifl (by decide) (by decide) (fun _ => ?_) (fun q => absurd (by decide) q)
  refine Ok_bnc ?_
  try unfold b_X6_value_
  refine Ok_ck (by decide) ?_
  refine Ok_ife (by decide) (by decide) (fun q => absurd q (by decide)) (fun _ => ?_)
  refine Ok_ife (by decide) (by decide) (fun q => absurd q (by decide)) (fun _ => ?_)
  refine Ok_ife (by decide) (by decide) (fun q => absurd q (by decide)) (fun _ => ?_)
  refine Ok_ife (by decide) (by decide) (fun q => absurd q (by decide)) (fun _ => ?_)
  refine Ok_ife (by decide) (by decide) (fun q => absurd q (by decide)) (fun _ => ?_)
  refine Ok_ife (by decide) (by decide) (fun q => absurd q (by decide)) (fun _ => ?_)
  refine Ok_ife (by decide) (by decide) (fun q => absurd q (by decide)) (fun _ => ?_)
  refine Ok_ife (by decide) (by decide) (fun q => absurd q (by decide)) (fun _ => ?_)
  refine Ok_ife (by decide) (by decide) (fun q => absurd q (by decide)) (fun _ => ?_)
  refine Ok_ife (by decide) (by decide) (fun q => absurd q (by decide)) (fun _ => ?_)
  refine Ok_ife (by decide) (by decide) (fun q => absurd q (by decide)) (fun _ => ?_)
  refine Ok_ife (by decide) (by decide) (fun q => absurd q (by decide)) (fun _ => ?_)
  refine Ok_bnc ?_
  try unfold b_X6_value
  refine Kp_look C_t0 hT (by omega) ?_
  refine Ok_ife (Nat.lt_trans (lo_lt (C_t0.tk hT) _) (by decide)) (by decide) (fun q3 => ?_) (fun q3 => ?_)
  · refine Kp_child C_t0 m_n_t0 g_n_t0 w_n_t0 (by omega) (by omega) (fun t4 C_t4 x_t4 a_t4 b_t4 d_t4 w_t4 u_t4 v_t4 wn_t4 fn_t4 fp_t4 _ l_t4 => ?_)
    have e_t4 := C_t4.2.2.2.1
    have m_n_t4 : n < m_md t4 := by omega
    have g_n_t4 := (x_t4.2.2.1 n m_n_t0).2.1 w_n_t0 g_n_t0
    have w_n_t4 : W5 t4 n := (x_t4.2.2.1 n m_n_t0).1 w_n_t0
    have f_n_t4 : Fz t4 n := fp_t4
    have m_m_mdt0_t4 : m_md t0 < m_md t4 := by omega
    have g_m_mdt0_t4 : GdS t4 (m_md t0) := Or.inl fn_t4
    have w_m_mdt0_t4 : W5 t4 (m_md t0) := by unfold W5; rw [wn_t4]; decide
    have u_m_mdt0_t4 : Up t4 (m_md t0) := Or.inl fn_t4
    clear fp_t4 fn_t4 wn_t4
    refine Kp_more C_t4 (by omega) (by omega) (fun t5 C_t5 x_t5 a_t5 b_t5 d_t5 w_t5 u_t5 v_t5 _ _ _ l_t5 => ?_)
    have e_t5 := C_t5.2.2.2.1
    rcases w_t5 with ⟨w_t5, y_t5⟩ | ⟨w_t5, wb_t5⟩
    · have m_n_t5 : n < m_md t5 := by omega
      have g_n_t5 := (x_t5.2.2.1 n m_n_t4).2.1 w_n_t4 g_n_t4
      have w_n_t5 : W5 t5 n := (x_t5.2.2.1 n m_n_t4).1 w_n_t4
      have f_n_t5 : Fz t5 n := (x_t5.2.2.1 n m_n_t4).2.2.1 f_n_t4
      have m_m_mdt0_t5 : m_md t0 < m_md t5 := by omega
      have g_m_mdt0_t5 := (x_t5.2.2.1 (m_md t0) m_m_mdt0_t4).2.1 w_m_mdt0_t4 g_m_mdt0_t4
      have w_m_mdt0_t5 : W5 t5 (m_md t0) := (x_t5.2.2.1 (m_md t0) m_m_mdt0_t4).1 w_m_mdt0_t4
      have u_m_mdt0_t5 := (x_t5.2.2.1 (m_md t0) m_m_mdt0_t4).2.2.2.1 u_m_mdt0_t4
      have z_t6 : m_at t5 < m_ct t5 := lo_ne (Nat.ne_of_gt (show 0 < lo t5 (m_at t5) from by omega))
      refine Kp_at C_t5 (fun t6 C_t6 x_t6 a_t6 b_t6 d_t6 w_t6 u_t6 v_t6 _ _ _ l_t6 => ?_)
      have e_t6 := C_t6.2.2.2.1
      have m_n_t6 : n < m_md t6 := by omega
      have g_n_t6 := (x_t6.2.2.1 n m_n_t5).2.1 w_n_t5 g_n_t5
      have w_n_t6 : W5 t6 n := (x_t6.2.2.1 n m_n_t5).1 w_n_t5
      have f_n_t6 : Fz t6 n := (x_t6.2.2.1 n m_n_t5).2.2.1 f_n_t5
      have m_m_mdt0_t6 : m_md t0 < m_md t6 := by omega
      have g_m_mdt0_t6 := (x_t6.2.2.1 (m_md t0) m_m_mdt0_t5).2.1 w_m_mdt0_t5 g_m_mdt0_t5
      have w_m_mdt0_t6 : W5 t6 (m_md t0) := (x_t6.2.2.1 (m_md t0) m_m_mdt0_t5).1 w_m_mdt0_t5
      have u_m_mdt0_t6 := (x_t6.2.2.1 (m_md t0) m_m_mdt0_t5).2.2.2.1 u_m_mdt0_t5
      refine Kp_push C_t6 (by omega) (fun t7 C_t7 x_t7 a_t7 b_t7 d_t7 w_t7 u_t7 v_t7 _ _ _ l_t7 => ?_)
      have e_t7 := C_t7.2.2.2.1
      have m_n_t7 : n < m_md t7 := by omega
      have g_n_t7 := (x_t7.2.2.1 n m_n_t6).2.1 w_n_t6 g_n_t6
      have w_n_t7 : W5 t7 n := (x_t7.2.2.1 n m_n_t6).1 w_n_t6
      have f_n_t7 : Fz t7 n := (x_t7.2.2.1 n m_n_t6).2.2.1 f_n_t6
      have m_m_mdt0_t7 : m_md t0 < m_md t7 := by omega
      have g_m_mdt0_t7 := (x_t7.2.2.1 (m_md t0) m_m_mdt0_t6).2.1 w_m_mdt0_t6 g_m_mdt0_t6
      have w_m_mdt0_t7 : W5 t7 (m_md t0) := (x_t7.2.2.1 (m_md t0) m_m_mdt0_t6).1 w_m_mdt0_t6
      have u_m_mdt0_t7 := (x_t7.2.2.1 (m_md t0) m_m_mdt0_t6).2.2.2.1 u_m_mdt0_t6
      refine Ok_ret (show Ok _ _ _ from ?_)
      refine Ok_ret (show Ok _ _ _ from ?_)
      refine Hv_mk C_t7 hT (by omega) (by omega) (by omega) ?_ ?_ ?_ (by omega) ?_ ?_
      · exact ⟨(Io_n (by decide) (by decide) m_m_mdt0_t7 g_m_mdt0_t7 w_m_mdt0_t7 (fun q => absurd q (by decide)) (fun q => absurd q (by decide))), (Nd_0 (by decide) Mo_nil), Stk_step (N := n) (pop := (17, n, t)) (new := [(14, m_md t0, 0)]) F0 C_t7.1 (fun _ => m_n_t0) (fun q _ h => h (17, n, t) rfl) (fun _ => rfl) (fun y hy hk => ⟨rfl, (Mo_cons (fun q => show n ≤ m_md t0 from by omega) Mo_nil) y hy hk⟩) (fun (h : 17 = 3 ∨ 17 = 18 ∨ 17 = 41) => absurd h (by decide)) (fun (h : 17 = 18) => absurd h (by decide)) (fun (h : 17 = 41 ∨ 17 = 42 ∨ 17 = 43) => absurd h (by decide)) r [] (fun y hy => absurd hy List.not_mem_nil) hS⟩
      · exact (Aj_sub (y := (14, m_md t0, 0)) hJ (Nat.le_of_ble_eq_true rfl))
      · show m_dp t7 = (dlt 14 + sD r)
        have : dlt 14 = 1 := rfl; have : dlt 17 = 0 := rfl; omega
      · show m_rw t7 = (rho 14 + sR r)
        have : rho 14 = 0 := rfl; have : rho 17 = 0 := rfl; omega
      · show m_md t7 + (mu7 14 + sM r) ≤ 3 * m_at t7 + 7 * (r.length + 1) + 10
        have : mu7 14 = 4 := rfl; have : mu7 17 = 5 := rfl; omega
    · have w_t5 := Nat.pos_of_ne_zero w_t5
      have m_n_t5 : n < m_md t5 := by omega
      have g_n_t5 := (x_t5.2.2.1 n m_n_t4).2.1 w_n_t4 g_n_t4
      have w_n_t5 : W5 t5 n := (x_t5.2.2.1 n m_n_t4).1 w_n_t4
      have f_n_t5 : Fz t5 n := (x_t5.2.2.1 n m_n_t4).2.2.1 f_n_t4
      have m_m_mdt0_t5 : m_md t0 < m_md t5 := by omega
      have g_m_mdt0_t5 := (x_t5.2.2.1 (m_md t0) m_m_mdt0_t4).2.1 w_m_mdt0_t4 g_m_mdt0_t4
      have w_m_mdt0_t5 : W5 t5 (m_md t0) := (x_t5.2.2.1 (m_md t0) m_m_mdt0_t4).1 w_m_mdt0_t4
      have u_m_mdt0_t5 := (x_t5.2.2.1 (m_md t0) m_m_mdt0_t4).2.2.2.1 u_m_mdt0_t4
      refine Kp_at C_t5 (fun t8 C_t8 x_t8 a_t8 b_t8 d_t8 w_t8 u_t8 v_t8 _ _ _ l_t8 => ?_)
      have e_t8 := C_t8.2.2.2.1
      have m_n_t8 : n < m_md t8 := by omega
      have g_n_t8 := (x_t8.2.2.1 n m_n_t5).2.1 w_n_t5 g_n_t5
      have w_n_t8 : W5 t8 n := (x_t8.2.2.1 n m_n_t5).1 w_n_t5
      have f_n_t8 : Fz t8 n := (x_t8.2.2.1 n m_n_t5).2.2.1 f_n_t5
      have m_m_mdt0_t8 : m_md t0 < m_md t8 := by omega
      have g_m_mdt0_t8 := (x_t8.2.2.1 (m_md t0) m_m_mdt0_t5).2.1 w_m_mdt0_t5 g_m_mdt0_t5
      have w_m_mdt0_t8 : W5 t8 (m_md t0) := (x_t8.2.2.1 (m_md t0) m_m_mdt0_t5).1 w_m_mdt0_t5
      have u_m_mdt0_t8 := (x_t8.2.2.1 (m_md t0) m_m_mdt0_t5).2.2.2.1 u_m_mdt0_t5
      refine Kp_push C_t8 (by omega) (fun t9 C_t9 x_t9 a_t9 b_t9 d_t9 w_t9 u_t9 v_t9 _ _ _ l_t9 => ?_)
      have e_t9 := C_t9.2.2.2.1
      have m_n_t9 : n < m_md t9 := by omega
      have g_n_t9 := (x_t9.2.2.1 n m_n_t8).2.1 w_n_t8 g_n_t8
      have w_n_t9 : W5 t9 n := (x_t9.2.2.1 n m_n_t8).1 w_n_t8
      have f_n_t9 : Fz t9 n := (x_t9.2.2.1 n m_n_t8).2.2.1 f_n_t8
      have m_m_mdt0_t9 : m_md t0 < m_md t9 := by omega
      have g_m_mdt0_t9 := (x_t9.2.2.1 (m_md t0) m_m_mdt0_t8).2.1 w_m_mdt0_t8 g_m_mdt0_t8
      have w_m_mdt0_t9 : W5 t9 (m_md t0) := (x_t9.2.2.1 (m_md t0) m_m_mdt0_t8).1 w_m_mdt0_t8
      have u_m_mdt0_t9 := (x_t9.2.2.1 (m_md t0) m_m_mdt0_t8).2.2.2.1 u_m_mdt0_t8
      refine Ok_ret (show Ok _ _ _ from ?_)
      refine Ok_ret (show Ok _ _ _ from ?_)
      exact Or.inl ⟨Nat.ne_of_gt (show 0 < m_wr t9 from by omega), by omega⟩
  · refine Ok_bnc ?_
    try unfold b_X6_expression
    refine Kp_push C_t0 (by omega) (fun t11 C_t11 x_t11 a_t11 b_t11 d_t11 w_t11 u_t11 v_t11 _ _ _ l_t11 => ?_)
    have e_t11 := C_t11.2.2.2.1
    have m_n_t11 : n < m_md t11 := by omega
    have g_n_t11 := (x_t11.2.2.1 n m_n_t0).2.1 w_n_t0 g_n_t0
    have w_n_t11 : W5 t11 n := (x_t11.2.2.1 n m_n_t0).1 w_n_t0
    refine Kp_push C_t11 (by omega) (fun t12 C_t12 x_t12 a_t12 b_t12 d_t12 w_t12 u_t12 v_t12 _ _ _ l_t12 => ?_)
    have e_t12 := C_t12.2.2.2.1
    have m_n_t12 : n < m_md t12 := by omega
    have g_n_t12 := (x_t12.2.2.1 n m_n_t11).2.1 w_n_t11 g_n_t11
    have w_n_t12 : W5 t12 n := (x_t12.2.2.1 n m_n_t11).1 w_n_t11
    refine Ok_ret (show Ok _ _ _ from ?_)
    refine Ok_ret (show Ok _ _ _ from ?_)
    refine Ok_ret (show Ok _ _ _ from ?_)
    refine Hv_mk C_t12 hT (by omega) (by omega) (by omega) ?_ ?_ ?_ (by omega) ?_ ?_
    · exact ⟨(Io_n (by decide) (by decide) m_n_t12 g_n_t12 w_n_t12 (fun q => absurd q (by decide)) (fun q => absurd q (by decide))), (Nd_0 (by decide) Mo_nil), ⟨(Io_2 (by have := or_256 (b := 1) (show 0 < 256 from by omega); omega) (by have := or_256 (b := 1) (show 0 < 256 from by omega); omega) (by have := or_256 (b := 1) (show 0 < 256 from by omega); omega) m_n_t12 g_n_t12 w_n_t12), (Nd_A (by decide) (Mo_cons (fun q => show n ≤ n from by omega) Mo_nil) (Or.inr ⟨(3, n, 0), List.mem_cons_self, rfl, Or.inl rfl⟩)), Stk_step (N := n) (pop := (17, n, t)) (new := [(2, n, 0 ||| (1 * 256)), (3, n, 0)]) F0 C_t12.1 (fun _ => m_n_t0) (fun q _ h => h (17, n, t) rfl) (fun _ => rfl) (fun y hy hk => ⟨rfl, (Mo_cons (fun q => show n ≤ n from by omega) (Mo_cons (fun q => show n ≤ n from by omega) Mo_nil)) y hy hk⟩) (fun (h : 17 = 3 ∨ 17 = 18 ∨ 17 = 41) => absurd h (by decide)) (fun (h : 17 = 18) => absurd h (by decide)) (fun (h : 17 = 41 ∨ 17 = 42 ∨ 17 = 43) => absurd h (by decide)) r [] (fun y hy => absurd hy List.not_mem_nil) hS⟩⟩
    · exact (Aj_up (x := (3, n, 0)) (Aj_sub (y := (2, n, 0 ||| (1 * 256))) hJ (show 9 - (0 ||| (1 * 256)) / 256 ≤ 8 from by have := or_256 (b := 1) (show 0 < 256 from by omega); omega)) (Or.inr (show 2 < 9 - (0 ||| (1 * 256)) / 256 from by have := or_256 (b := 1) (show 0 < 256 from by omega); omega)))
    · show m_dp t12 = (dlt 3 + (dlt 2 + sD r))
      have : dlt 17 = 0 := rfl; have : dlt 2 = 0 := rfl; have : dlt 3 = 0 := rfl; omega
    · show m_rw t12 = (rho 3 + (rho 2 + sR r))
      have : rho 17 = 0 := rfl; have : rho 2 = 0 := rfl; have : rho 3 = 0 := rfl; omega
    · show m_md t12 + (mu7 3 + (mu7 2 + sM r)) ≤ 3 * m_at t12 + 7 * (r.length + 1 + 1) + 10
      have : mu7 17 = 5 := rfl; have : mu7 2 = 7 := rfl; have : mu7 3 = 5 := rfl; omega

theorem S_21 {s : Mm} {n t : Nat} {r : List It} (H : Hv s ((21, n, t) :: r)) {E : Mm → Prop} : Ok Qh E (b_X6_step 21 n t (w_td s (m_td s - 1))) := by
  obtain ⟨hT, hc, hw0, ha, hC, hS, hJ, hdp, hdl, hrw, hmd, htd, hln, hm16, hI, hD⟩ := Hv_pop H
  have C_t0 := hC n
  generalize ht0 : w_td s (m_td s - 1) = t0 at *
  have b_t0 : m_md t0 = m_md s := by rw [← ht0]
  have a_t0 : m_at t0 = m_at s := by rw [← ht0]
  have d_t0 : m_dp t0 = m_dp s := by rw [← ht0]
  have w_t0 : m_wr t0 = m_wr s := by rw [← ht0]
  have u_t0 : m_rw t0 = m_rw s := by rw [← ht0]
  have v_t0 : m_td t0 = m_td s - 1 := by rw [← ht0]
  have e_t0 : m_ct t0 = m_ct s := by rw [← ht0]
  have F0 := C_t0.2.1
  obtain ⟨m_n_t0, g_n_t0, w_n_t0⟩ : n < m_md t0 ∧ GdS t0 n ∧ W5 t0 n := hI.2.1 rfl
  have ht : t < 4096 := hI.1.1 (show 21 ≠ 42 by decide) (show 21 ≠ 48 by decide)
  have hdp : m_dp s = dlt 21 + sD r := hdp
  have hrw : m_rw s = rho 21 + sR r := hrw
  have hmd : m_md s + mu7 21 + sM r ≤ 3 * m_at s + 7 * r.length + 17 := hmd
  have hand : t &&& 1 ≤ 1 := Nat.and_le_right
  have h01 : (0 &&& 1 : Nat) = 0 := rfl
  have h02 : (1 : Nat) * 256 = 256 := rfl
  have hq1 : dlt 21 = 0 := rfl
  have hq2 : rho 21 = 0 := rfl
  have hq3 : mu7 21 = 3 := rfl
  unfold b_X6_step
  refine Ok_ifl (by decide) (by decide) (fun _ => ?_) (fun q => absurd (by decide) q)
  refine Ok_ifl (by decide) (by decide) (fun q => absurd q (by decide)) (fun _ => ?_)
  refine Ok_ifl (by decide) (by decide) (fun _ => ?_) (fun q => absurd (by decide) q)
  refine Ok_bnc ?_
  try unfold b_X6_typing
  refine Ok_ck (by decide) ?_
  refine Ok_ife (by decide) (by decide) (fun q => absurd q (by decide)) (fun _ => ?_)
  refine Ok_ife (by decide) (by decide) (fun q => absurd q (by decide)) (fun _ => ?_)
  refine Ok_ife (by decide) (by decide) (fun q => absurd q (by decide)) (fun _ => ?_)
  refine Ok_ife (by decide) (by decide) (fun _ => ?_) (fun q => absurd (by decide) q)
  refine Ok_bnc ?_
  try unfold b_X6_signature
  refine Kp_look C_t0 hT (by omega) ?_
  refine Ok_ife (Nat.lt_trans (lo_lt (C_t0.tk hT) _) (by decide)) (by decide) (fun q3 => ?_) (fun q3 => ?_)
  · refine Kp_child C_t0 m_n_t0 g_n_t0 w_n_t0 (by omega) (by omega) (fun t4 C_t4 x_t4 a_t4 b_t4 d_t4 w_t4 u_t4 v_t4 wn_t4 fn_t4 fp_t4 _ l_t4 => ?_)
    have e_t4 := C_t4.2.2.2.1
    have m_n_t4 : n < m_md t4 := by omega
    have g_n_t4 := (x_t4.2.2.1 n m_n_t0).2.1 w_n_t0 g_n_t0
    have w_n_t4 : W5 t4 n := (x_t4.2.2.1 n m_n_t0).1 w_n_t0
    have f_n_t4 : Fz t4 n := fp_t4
    have m_m_mdt0_t4 : m_md t0 < m_md t4 := by omega
    have g_m_mdt0_t4 : GdS t4 (m_md t0) := Or.inl fn_t4
    have w_m_mdt0_t4 : W5 t4 (m_md t0) := by unfold W5; rw [wn_t4]; decide
    have u_m_mdt0_t4 : Up t4 (m_md t0) := Or.inl fn_t4
    clear fp_t4 fn_t4 wn_t4
    refine Kp_push C_t4 (by omega) (fun t5 C_t5 x_t5 a_t5 b_t5 d_t5 w_t5 u_t5 v_t5 _ _ _ l_t5 => ?_)
    have e_t5 := C_t5.2.2.2.1
    have m_n_t5 : n < m_md t5 := by omega
    have g_n_t5 := (x_t5.2.2.1 n m_n_t4).2.1 w_n_t4 g_n_t4
    have w_n_t5 : W5 t5 n := (x_t5.2.2.1 n m_n_t4).1 w_n_t4
    have f_n_t5 : Fz t5 n := (x_t5.2.2.1 n m_n_t4).2.2.1 f_n_t4
    have m_m_mdt0_t5 : m_md t0 < m_md t5 := by omega
    have g_m_mdt0_t5 := (x_t5.2.2.1 (m_md t0) m_m_mdt0_t4).2.1 w_m_mdt0_t4 g_m_mdt0_t4
    have w_m_mdt0_t5 : W5 t5 (m_md t0) := (x_t5.2.2.1 (m_md t0) m_m_mdt0_t4).1 w_m_mdt0_t4
    have u_m_mdt0_t5 := (x_t5.2.2.1 (m_md t0) m_m_mdt0_t4).2.2.2.1 u_m_mdt0_t4
    refine Kp_push C_t5 (by omega) (fun t6 C_t6 x_t6 a_t6 b_t6 d_t6 w_t6 u_t6 v_t6 _ _ _ l_t6 => ?_)
    have e_t6 := C_t6.2.2.2.1
    have m_n_t6 : n < m_md t6 := by omega
    have g_n_t6 := (x_t6.2.2.1 n m_n_t5).2.1 w_n_t5 g_n_t5
    have w_n_t6 : W5 t6 n := (x_t6.2.2.1 n m_n_t5).1 w_n_t5
    have f_n_t6 : Fz t6 n := (x_t6.2.2.1 n m_n_t5).2.2.1 f_n_t5
    have m_m_mdt0_t6 : m_md t0 < m_md t6 := by omega
    have g_m_mdt0_t6 := (x_t6.2.2.1 (m_md t0) m_m_mdt0_t5).2.1 w_m_mdt0_t5 g_m_mdt0_t5
    have w_m_mdt0_t6 : W5 t6 (m_md t0) := (x_t6.2.2.1 (m_md t0) m_m_mdt0_t5).1 w_m_mdt0_t5
    have u_m_mdt0_t6 := (x_t6.2.2.1 (m_md t0) m_m_mdt0_t5).2.2.2.1 u_m_mdt0_t5
    refine Ok_ret (show Ok _ _ _ from ?_)
    refine Ok_ret (show Ok _ _ _ from ?_)
    refine Hv_mk C_t6 hT (by omega) (by omega) (by omega) ?_ ?_ ?_ (by omega) ?_ ?_
    · exact ⟨(Io_n (by decide) (by decide) m_m_mdt0_t6 g_m_mdt0_t6 w_m_mdt0_t6 (fun q => absurd q (by decide)) (fun q => absurd q (by decide))), (Nd_0 (by decide) Mo_nil), ⟨(Io_n (by decide) (by decide) m_m_mdt0_t6 g_m_mdt0_t6 w_m_mdt0_t6 (fun q => absurd q (by decide)) (fun q => absurd q (by decide))), (Nd_0 (by decide) (Mo_cons (fun q => show m_md t0 ≤ m_md t0 from by omega) Mo_nil)), Stk_step (N := n) (pop := (21, n, t)) (new := [(22, m_md t0, 0), (23, m_md t0, 0)]) F0 C_t6.1 (fun _ => m_n_t0) (fun q _ h => h (21, n, t) rfl) (fun _ => rfl) (fun y hy hk => ⟨rfl, (Mo_cons (fun q => show n ≤ m_md t0 from by omega) (Mo_cons (fun q => show n ≤ m_md t0 from by omega) Mo_nil)) y hy hk⟩) (fun (h : 21 = 3 ∨ 21 = 18 ∨ 21 = 41) => absurd h (by decide)) (fun (h : 21 = 18) => absurd h (by decide)) (fun (h : 21 = 41 ∨ 21 = 42 ∨ 21 = 43) => absurd h (by decide)) r [] (fun y hy => absurd hy List.not_mem_nil) hS⟩⟩
    · exact (Aj_up (x := (23, m_md t0, 0)) (Aj_sub (y := (22, m_md t0, 0)) hJ (Nat.le_of_ble_eq_true rfl)) (Or.inr (Nat.le_of_ble_eq_true rfl)))
    · show m_dp t6 = (dlt 23 + (dlt 22 + sD r))
      have : dlt 21 = 0 := rfl; have : dlt 22 = 0 := rfl; have : dlt 23 = 0 := rfl; omega
    · show m_rw t6 = (rho 23 + (rho 22 + sR r))
      have : rho 21 = 0 := rfl; have : rho 22 = 0 := rfl; have : rho 23 = 0 := rfl; omega
    · show m_md t6 + (mu7 23 + (mu7 22 + sM r)) ≤ 3 * m_at t6 + 7 * (r.length + 1 + 1) + 10
      have : mu7 21 = 3 := rfl; have : mu7 22 = 7 := rfl; have : mu7 23 = 2 := rfl; omega
  · refine Kp_error C_t0 (by omega) (fun t7 C_t7 x_t7 a_t7 b_t7 d_t7 w_t7 wb_t7 u_t7 v_t7 _ _ _ l_t7 => ?_)
    have w_t7 := Nat.pos_of_ne_zero w_t7
    have e_t7 := C_t7.2.2.2.1
    have m_n_t7 : n < m_md t7 := by omega
    have g_n_t7 := (x_t7.2.2.1 n m_n_t0).2.1 w_n_t0 g_n_t0
    have w_n_t7 : W5 t7 n := (x_t7.2.2.1 n m_n_t0).1 w_n_t0
    refine Ok_ret (show Ok _ _ _ from ?_)
    refine Ok_ret (show Ok _ _ _ from ?_)
    exact Or.inl ⟨Nat.ne_of_gt (show 0 < m_wr t7 from by omega), by omega⟩

theorem S_22 {s : Mm} {n t : Nat} {r : List It} (H : Hv s ((22, n, t) :: r)) {E : Mm → Prop} : Ok Qh E (b_X6_step 22 n t (w_td s (m_td s - 1))) := by
  obtain ⟨hT, hc, hw0, ha, hC, hS, hJ, hdp, hdl, hrw, hmd, htd, hln, hm16, hI, hD⟩ := Hv_pop H
  have C_t0 := hC n
  generalize ht0 : w_td s (m_td s - 1) = t0 at *
  have b_t0 : m_md t0 = m_md s := by rw [← ht0]
  have a_t0 : m_at t0 = m_at s := by rw [← ht0]
  have d_t0 : m_dp t0 = m_dp s := by rw [← ht0]
  have w_t0 : m_wr t0 = m_wr s := by rw [← ht0]
  have u_t0 : m_rw t0 = m_rw s := by rw [← ht0]
  have v_t0 : m_td t0 = m_td s - 1 := by rw [← ht0]
  have e_t0 : m_ct t0 = m_ct s := by rw [← ht0]
  have F0 := C_t0.2.1
  obtain ⟨m_n_t0, g_n_t0, w_n_t0⟩ : n < m_md t0 ∧ GdS t0 n ∧ W5 t0 n := hI.2.1 rfl
  have ht : t < 4096 := hI.1.1 (show 22 ≠ 42 by decide) (show 22 ≠ 48 by decide)
  have hdp : m_dp s = dlt 22 + sD r := hdp
  have hrw : m_rw s = rho 22 + sR r := hrw
  have hmd : m_md s + mu7 22 + sM r ≤ 3 * m_at s + 7 * r.length + 17 := hmd
  have hand : t &&& 1 ≤ 1 := Nat.and_le_right
  have h01 : (0 &&& 1 : Nat) = 0 := rfl
  have h02 : (1 : Nat) * 256 = 256 := rfl
  have hq1 : dlt 22 = 0 := rfl
  have hq2 : rho 22 = 0 := rfl
  have hq3 : mu7 22 = 7 := rfl
  unfold b_X6_step
  refine Ok_ifl (by decide) (by decide) (fun _ => ?_) (fun q => absurd (by decide) q)
  refine Ok_ifl (by decide) (by decide) (fun q => absurd q (by decide)) (fun _ => ?_)
  refine Ok_ifl (by decide) (by decide) (fun _ => ?_) (fun q => absurd (by decide) q)
  refine Ok_bnc ?_
  try unfold b_X6_typing
  refine Ok_ck (by decide) ?_
  refine Ok_ife (by decide) (by decide) (fun q => absurd q (by decide)) (fun _ => ?_)
  refine Ok_ife (by decide) (by decide) (fun q => absurd q (by decide)) (fun _ => ?_)
  refine Ok_ife (by decide) (by decide) (fun q => absurd q (by decide)) (fun _ => ?_)
  refine Ok_ife (by decide) (by decide) (fun q => absurd q (by decide)) (fun _ => ?_)
  refine Ok_ife (by decide) (by decide) (fun _ => ?_) (fun q => absurd (by decide) q)
  refine Ok_bnc ?_
  try unfold b_X6_result
  refine Kp_look C_t0 hT (by omega) ?_
  refine Ok_ife (Nat.lt_trans (lo_lt (C_t0.tk hT) _) (by decide)) (by decide) (fun q3 => ?_) (fun q3 => ?_)
  · refine Kp_push C_t0 (by omega) (fun t4 C_t4 x_t4 a_t4 b_t4 d_t4 w_t4 u_t4 v_t4 _ _ _ l_t4 => ?_)
    have e_t4 := C_t4.2.2.2.1
    have m_n_t4 : n < m_md t4 := by omega
    have g_n_t4 := (x_t4.2.2.1 n m_n_t0).2.1 w_n_t0 g_n_t0
    have w_n_t4 : W5 t4 n := (x_t4.2.2.1 n m_n_t0).1 w_n_t0
    refine Ok_ret (show Ok _ _ _ from ?_)
    refine Ok_ret (show Ok _ _ _ from ?_)
    refine Hv_mk C_t4 hT (by omega) (by omega) (by omega) ?_ ?_ ?_ (by omega) ?_ ?_
    · exact ⟨(Io_n (by decide) (by decide) m_n_t4 g_n_t4 w_n_t4 (fun q => absurd q (by decide)) (fun q => absurd q (by decide))), (Nd_0 (by decide) Mo_nil), Stk_step (N := n) (pop := (22, n, t)) (new := [(23, n, 0)]) F0 C_t4.1 (fun _ => m_n_t0) (fun q _ h => h (22, n, t) rfl) (fun _ => rfl) (fun y hy hk => ⟨rfl, (Mo_cons (fun q => show n ≤ n from by omega) Mo_nil) y hy hk⟩) (fun (h : 22 = 3 ∨ 22 = 18 ∨ 22 = 41) => absurd h (by decide)) (fun (h : 22 = 18) => absurd h (by decide)) (fun (h : 22 = 41 ∨ 22 = 42 ∨ 22 = 43) => absurd h (by decide)) r [] (fun y hy => absurd hy List.not_mem_nil) hS⟩
    · exact (Aj_sub (y := (23, n, 0)) hJ (Nat.le_of_ble_eq_true rfl))
    · show m_dp t4 = (dlt 23 + sD r)
      have : dlt 22 = 0 := rfl; have : dlt 23 = 0 := rfl; omega
    · show m_rw t4 = (rho 23 + sR r)
      have : rho 22 = 0 := rfl; have : rho 23 = 0 := rfl; omega
    · show m_md t4 + (mu7 23 + sM r) ≤ 3 * m_at t4 + 7 * (r.length + 1) + 10
      have : mu7 22 = 7 := rfl; have : mu7 23 = 2 := rfl; omega
  · refine Ok_ck (Nat.lt_trans (lo_lt (C_t0.tk hT) _) (by decide)) ?_
    refine Ok_ifz (f6_beginsType _) (fun q5 => ?_) (fun q5 => ?_)
    · refine Ok_ret (show Ok _ _ _ from ?_)
      refine Ok_ret (show Ok _ _ _ from ?_)
      refine Hv_mk C_t0 hT (by omega) (by omega) (by omega) ?_ ?_ ?_ (by omega) ?_ ?_
      · exact Stk_step (N := n) (pop := (22, n, t)) (new := []) F0 C_t0.1 (fun _ => m_n_t0) (fun q _ h => h (22, n, t) rfl) (fun _ => rfl) (fun y hy hk => ⟨rfl, Mo_nil (n := n) y hy hk⟩) (fun (h : 22 = 3 ∨ 22 = 18 ∨ 22 = 41) => absurd h (by decide)) (fun (h : 22 = 18) => absurd h (by decide)) (fun (h : 22 = 41 ∨ 22 = 42 ∨ 22 = 43) => absurd h (by decide)) r [] (fun y hy => absurd hy List.not_mem_nil) hS
      · exact Aj_tl hJ
      · show m_dp t0 = sD r
        have : dlt 22 = 0 := rfl; omega
      · show m_rw t0 = sR r
        have : rho 22 = 0 := rfl; omega
      · show m_md t0 + sM r ≤ 3 * m_at t0 + 7 * (r.length) + 10
        have : mu7 22 = 7 := rfl; omega
    · have q5n := Nat.pos_of_ne_zero (n6_beginsType q5)
      refine Ok_ife (Nat.lt_trans (lo_lt (C_t0.tk hT) _) (by decide)) (by decide) (fun q6 => ?_) (fun q6 => ?_)
      · refine Ok_ret (show Ok _ _ _ from ?_)
        refine Ok_ret (show Ok _ _ _ from ?_)
        refine Hv_mk C_t0 hT (by omega) (by omega) (by omega) ?_ ?_ ?_ (by omega) ?_ ?_
        · exact Stk_step (N := n) (pop := (22, n, t)) (new := []) F0 C_t0.1 (fun _ => m_n_t0) (fun q _ h => h (22, n, t) rfl) (fun _ => rfl) (fun y hy hk => ⟨rfl, Mo_nil (n := n) y hy hk⟩) (fun (h : 22 = 3 ∨ 22 = 18 ∨ 22 = 41) => absurd h (by decide)) (fun (h : 22 = 18) => absurd h (by decide)) (fun (h : 22 = 41 ∨ 22 = 42 ∨ 22 = 43) => absurd h (by decide)) r [] (fun y hy => absurd hy List.not_mem_nil) hS
        · exact Aj_tl hJ
        · show m_dp t0 = sD r
          have : dlt 22 = 0 := rfl; omega
        · show m_rw t0 = sR r
          have : rho 22 = 0 := rfl; omega
        · show m_md t0 + sM r ≤ 3 * m_at t0 + 7 * (r.length) + 10
          have : mu7 22 = 7 := rfl; omega
      · refine Kp_push C_t0 (by omega) (fun t7 C_t7 x_t7 a_t7 b_t7 d_t7 w_t7 u_t7 v_t7 _ _ _ l_t7 => ?_)
        have e_t7 := C_t7.2.2.2.1
        have m_n_t7 : n < m_md t7 := by omega
        have g_n_t7 := (x_t7.2.2.1 n m_n_t0).2.1 w_n_t0 g_n_t0
        have w_n_t7 : W5 t7 n := (x_t7.2.2.1 n m_n_t0).1 w_n_t0
        refine Ok_ret (show Ok _ _ _ from ?_)
        refine Ok_ret (show Ok _ _ _ from ?_)
        refine Hv_mk C_t7 hT (by omega) (by omega) (by omega) ?_ ?_ ?_ (by omega) ?_ ?_
        · exact ⟨(Io_n (by decide) (by decide) m_n_t7 g_n_t7 w_n_t7 (fun q => absurd q (by decide)) (fun q => absurd q (by decide))), (Nd_0 (by decide) Mo_nil), Stk_step (N := n) (pop := (22, n, t)) (new := [(18, n, 0)]) F0 C_t7.1 (fun _ => m_n_t0) (fun q _ h => h (22, n, t) rfl) (fun _ => rfl) (fun y hy hk => ⟨rfl, (Mo_cons (fun q => show n ≤ n from by omega) Mo_nil) y hy hk⟩) (fun (h : 22 = 3 ∨ 22 = 18 ∨ 22 = 41) => absurd h (by decide)) (fun (h : 22 = 18) => absurd h (by decide)) (fun (h : 22 = 41 ∨ 22 = 42 ∨ 22 = 43) => absurd h (by decide)) r [] (fun y hy => absurd hy List.not_mem_nil) hS⟩
        · exact (Aj_sub (y := (18, n, 0)) hJ (Nat.le_of_ble_eq_true rfl))
        · show m_dp t7 = (dlt 18 + sD r)
          have : dlt 18 = 0 := rfl; have : dlt 22 = 0 := rfl; omega
        · show m_rw t7 = (rho 18 + sR r)
          have : rho 18 = 0 := rfl; have : rho 22 = 0 := rfl; omega
        · show m_md t7 + (mu7 18 + sM r) ≤ 3 * m_at t7 + 7 * (r.length + 1) + 10
          have : mu7 18 = 5 := rfl; have : mu7 22 = 7 := rfl; omega

