/-! The steps of the reference, one by one. -/
theorem S_37 {s : Mm} {n t : Nat} {r : List It} (H : Hv s ((37, n, t) :: r)) {E : Mm → Prop} : Ok Qh E (b_X6_step 37 n t (w_td s (m_td s - 1))) := by
  obtain ⟨hT, hc, hw0, ha, hC, hS, hJ, hdp, hdl, hrw, hmd, htd, hln, hm16, hI, hD⟩ := Hv_pop H
  have C_t0 := hC n
  generalize ht0 : w_td s (m_td s - 1) = t0 at *
  have b_t0 : m_md t0 = m_md s := by rw [← ht0]
  have a_t0 : m_at t0 = m_at s := by rw [← ht0]
  have d_t0 : m_dp t0 = m_dp s := by rw [← ht0]
  have w_t0 : m_wr t0 = m_wr s := by rw [← ht0]
  have u_t0 : m_rw t0 = m_rw s := by rw [← ht0]
  have v_t0 : m_td t0 = m_td s - 1 := by rw [← ht0]
  have e_t0 : m_ct t0 = m_ct s := by rw [← ht0]
  have F0 := C_t0.2.1
  obtain ⟨m_n_t0, g_n_t0, w_n_t0⟩ : n < m_md t0 ∧ GdS t0 n ∧ W5 t0 n := hI.2.1 rfl
  have ht : t < 4096 := hI.1.1 (show 37 ≠ 42 by decide) (show 37 ≠ 48 by decide)
  have hdp : m_dp s = dlt 37 + sD r := hdp
  have hrw : m_rw s = rho 37 + sR r := hrw
  have hmd : m_md s + mu7 37 + sM r ≤ 3 * m_at s + 7 * r.length + 17 := hmd
  have hand : t &&& 1 ≤ 1 := Nat.and_le_right
  have h01 : (0 &&& 1 : Nat) = 0 := rfl
  have h02 : (1 : Nat) * 256 = 256 := rfl
  have hq1 : dlt 37 = 0 := rfl
  have hq2 : rho 37 = 0 := rfl
  have hq3 : mu7 37 = 5 := rfl
  unfold b_X6_step
  refine Ok_ifl (by decide) (by decide) (fun _ => ?_) (fun q => absurd (by decide) q)
  refine Ok_ifl (by decide) (by decide) (fun q => absurd q (by decide)) (fun _ => ?_)
  refine Ok_ifl (by decide) (by decide) (fun q => absurd q (by decide)) (fun _ => ?_)
  refine Ok_ifl (by decide) (by decide) (fun _ => ?_) (fun q => absurd (by decide) q)
  refine Ok_bnc ?_
  try unfold b_X6_declaring
  refine Ok_ck (by decide) ?_
  refine Ok_ife (by decide) (by decide) (fun q => absurd q (by decide)) (fun _ => ?_)
  refine Ok_ife (by decide) (by decide) (fun q => absurd q (by decide)) (fun _ => ?_)
  refine Ok_ife (by decide) (by decide) (fun q => absurd q (by decide)) (fun _ => ?_)
  refine Ok_ife (by decide) (by decide) (fun q => absurd q (by decide)) (fun _ => ?_)
  refine Ok_ife (by decide) (by decide) (fun q => absurd q (by decide)) (fun _ => ?_)
  refine Ok_ife (by decide) (by decide) (fun q => absurd q (by decide)) (fun _ => ?_)
  refine Ok_ife (by decide) (by decide) (fun q => absurd q (by decide)) (fun _ => ?_)
  refine Ok_ife (by decide) (by decide) (fun q => absurd q (by decide)) (fun _ => ?_)
  refine Ok_ife (by decide) (by decide) (fun _ => ?_) (fun q => absurd (by decide) q)
  refine Ok_bnc ?_
  try unfold b_X6_varRest
  refine Kp_look C_t0 hT (by omega) ?_
  refine Ok_ife (Nat.lt_trans (lo_lt (C_t0.tk hT) _) (by decide)) (by decide) (fun q3 => ?_) (fun q3 => ?_)
  · refine Ok_bnc ?_
    try unfold b_X6_valued
    refine Kp_look C_t0 hT (by omega) ?_
    refine Ok_ife (Nat.lt_trans (lo_lt (C_t0.tk hT) _) (by decide)) (by decide) (fun q5 => ?_) (fun q5 => ?_)
    · refine Kp_pass C_t0 hT (by omega) (by decide) (by omega) (fun t6 C_t6 x_t6 a_t6 b_t6 d_t6 w_t6 u_t6 v_t6 _ _ _ l_t6 => ?_)
      have e_t6 := C_t6.2.2.2.1
      rcases w_t6 with ⟨w_t6, y_t6⟩ | ⟨w_t6, wb_t6⟩
      · have z_t6 : m_at t0 < m_ct t0 := lo_ne (Nat.ne_of_gt (show 0 < lo t0 (m_at t0) from by omega))
        have m_n_t6 : n < m_md t6 := by omega
        have g_n_t6 := (x_t6.2.2.1 n m_n_t0).2.1 w_n_t0 g_n_t0
        have w_n_t6 : W5 t6 n := (x_t6.2.2.1 n m_n_t0).1 w_n_t0
        refine Ok_bnc ?_
        try unfold b_X6_exprs
        refine Kp_child C_t6 m_n_t6 g_n_t6 w_n_t6 (by omega) (by omega) (fun t8 C_t8 x_t8 a_t8 b_t8 d_t8 w_t8 u_t8 v_t8 wn_t8 fn_t8 fp_t8 _ l_t8 => ?_)
        have e_t8 := C_t8.2.2.2.1
        have m_n_t8 : n < m_md t8 := by omega
        have g_n_t8 := (x_t8.2.2.1 n m_n_t6).2.1 w_n_t6 g_n_t6
        have w_n_t8 : W5 t8 n := (x_t8.2.2.1 n m_n_t6).1 w_n_t6
        have f_n_t8 : Fz t8 n := fp_t8
        have m_m_mdt6_t8 : m_md t6 < m_md t8 := by omega
        have g_m_mdt6_t8 : GdS t8 (m_md t6) := Or.inl fn_t8
        have w_m_mdt6_t8 : W5 t8 (m_md t6) := by unfold W5; rw [wn_t8]; decide
        have u_m_mdt6_t8 : Up t8 (m_md t6) := Or.inl fn_t8
        clear fp_t8 fn_t8 wn_t8
        refine Kp_push C_t8 (by omega) (fun t9 C_t9 x_t9 a_t9 b_t9 d_t9 w_t9 u_t9 v_t9 _ _ _ l_t9 => ?_)
        have e_t9 := C_t9.2.2.2.1
        have m_n_t9 : n < m_md t9 := by omega
        have g_n_t9 := (x_t9.2.2.1 n m_n_t8).2.1 w_n_t8 g_n_t8
        have w_n_t9 : W5 t9 n := (x_t9.2.2.1 n m_n_t8).1 w_n_t8
        have f_n_t9 : Fz t9 n := (x_t9.2.2.1 n m_n_t8).2.2.1 f_n_t8
        have m_m_mdt6_t9 : m_md t6 < m_md t9 := by omega
        have g_m_mdt6_t9 := (x_t9.2.2.1 (m_md t6) m_m_mdt6_t8).2.1 w_m_mdt6_t8 g_m_mdt6_t8
        have w_m_mdt6_t9 : W5 t9 (m_md t6) := (x_t9.2.2.1 (m_md t6) m_m_mdt6_t8).1 w_m_mdt6_t8
        have u_m_mdt6_t9 := (x_t9.2.2.1 (m_md t6) m_m_mdt6_t8).2.2.2.1 u_m_mdt6_t8
        refine Ok_bnc ?_
        try unfold b_X6_expression
        refine Kp_push C_t9 (by omega) (fun t11 C_t11 x_t11 a_t11 b_t11 d_t11 w_t11 u_t11 v_t11 _ _ _ l_t11 => ?_)
        have e_t11 := C_t11.2.2.2.1
        have m_n_t11 : n < m_md t11 := by omega
        have g_n_t11 := (x_t11.2.2.1 n m_n_t9).2.1 w_n_t9 g_n_t9
        have w_n_t11 : W5 t11 n := (x_t11.2.2.1 n m_n_t9).1 w_n_t9
        have f_n_t11 : Fz t11 n := (x_t11.2.2.1 n m_n_t9).2.2.1 f_n_t9
        have m_m_mdt6_t11 : m_md t6 < m_md t11 := by omega
        have g_m_mdt6_t11 := (x_t11.2.2.1 (m_md t6) m_m_mdt6_t9).2.1 w_m_mdt6_t9 g_m_mdt6_t9
        have w_m_mdt6_t11 : W5 t11 (m_md t6) := (x_t11.2.2.1 (m_md t6) m_m_mdt6_t9).1 w_m_mdt6_t9
        have u_m_mdt6_t11 := (x_t11.2.2.1 (m_md t6) m_m_mdt6_t9).2.2.2.1 u_m_mdt6_t9
        refine Kp_push C_t11 (by omega) (fun t12 C_t12 x_t12 a_t12 b_t12 d_t12 w_t12 u_t12 v_t12 _ _ _ l_t12 => ?_)
        have e_t12 := C_t12.2.2.2.1
        have m_n_t12 : n < m_md t12 := by omega
        have g_n_t12 := (x_t12.2.2.1 n m_n_t11).2.1 w_n_t11 g_n_t11
        have w_n_t12 : W5 t12 n := (x_t12.2.2.1 n m_n_t11).1 w_n_t11
        have f_n_t12 : Fz t12 n := (x_t12.2.2.1 n m_n_t11).2.2.1 f_n_t11
        have m_m_mdt6_t12 : m_md t6 < m_md t12 := by omega
        have g_m_mdt6_t12 := (x_t12.2.2.1 (m_md t6) m_m_mdt6_t11).2.1 w_m_mdt6_t11 g_m_mdt6_t11
        have w_m_mdt6_t12 : W5 t12 (m_md t6) := (x_t12.2.2.1 (m_md t6) m_m_mdt6_t11).1 w_m_mdt6_t11
        have u_m_mdt6_t12 := (x_t12.2.2.1 (m_md t6) m_m_mdt6_t11).2.2.2.1 u_m_mdt6_t11
        refine Ok_ret (show Ok _ _ _ from ?_)
        refine Ok_ret (show Ok _ _ _ from ?_)
        refine Ok_ret (show Ok _ _ _ from ?_)
        refine Ok_ret (show Ok _ _ _ from ?_)
        refine Ok_ret (show Ok _ _ _ from ?_)
        refine Hv_mk C_t12 hT (by omega) (by omega) (by omega) ?_ ?_ ?_ (by omega) ?_ ?_
        · exact ⟨(Io_n (by decide) (show 0 &&& 1 < 4096 from by omega) m_m_mdt6_t12 g_m_mdt6_t12 w_m_mdt6_t12 (fun q => absurd q (by decide)) (fun q => absurd q (by decide))), (Nd_0 (by decide) Mo_nil), ⟨(Io_2 (by have := or_256 (b := 1) (show (0 &&& 1) < 256 from by omega); omega) (by have := or_256 (b := 1) (show (0 &&& 1) < 256 from by omega); omega) (by have := or_256 (b := 1) (show (0 &&& 1) < 256 from by omega); omega) m_m_mdt6_t12 g_m_mdt6_t12 w_m_mdt6_t12), (Nd_A (by decide) (Mo_cons (fun q => show m_md t6 ≤ m_md t6 from by omega) Mo_nil) (Or.inr ⟨(3, m_md t6, 0 &&& 1), List.mem_cons_self, rfl, Or.inl rfl⟩)), ⟨(Io_n (by decide) (show 0 &&& 1 < 4096 from by omega) m_m_mdt6_t12 g_m_mdt6_t12 w_m_mdt6_t12 (fun q => absurd q (by decide)) (fun q => absurd q (by decide))), (Nd_0 (by decide) (Mo_cons (fun q => show m_md t6 ≤ m_md t6 from by omega) (Mo_cons (fun q => show m_md t6 ≤ m_md t6 from by omega) Mo_nil))), Stk_step (N := n) (pop := (37, n, t)) (new := [(32, m_md t6, 0 &&& 1), (2, m_md t6, (0 &&& 1) ||| (1 * 256)), (3, m_md t6, 0 &&& 1)]) F0 C_t12.1 (fun _ => m_n_t0) (fun q _ h => h (37, n, t) rfl) (fun _ => rfl) (fun y hy hk => ⟨rfl, (Mo_cons (fun q => show n ≤ m_md t6 from by omega) (Mo_cons (fun q => show n ≤ m_md t6 from by omega) (Mo_cons (fun q => show n ≤ m_md t6 from by omega) Mo_nil))) y hy hk⟩) (fun (h : 37 = 3 ∨ 37 = 18 ∨ 37 = 41) => absurd h (by decide)) (fun (h : 37 = 18) => absurd h (by decide)) (fun (h : 37 = 41 ∨ 37 = 42 ∨ 37 = 43) => absurd h (by decide)) r [] (fun y hy => absurd hy List.not_mem_nil) hS⟩⟩⟩
        · exact (Aj_up (x := (3, m_md t6, 0 &&& 1)) (Aj_up (x := (2, m_md t6, (0 &&& 1) ||| (1 * 256))) (Aj_sub (y := (32, m_md t6, 0 &&& 1)) hJ (Nat.le_of_ble_eq_true rfl)) (Or.inr (show 9 - ((0 &&& 1) ||| (1 * 256)) / 256 < 9 from by have := or_256 (b := 1) (show (0 &&& 1) < 256 from by omega); omega))) (Or.inr (show 2 < 9 - ((0 &&& 1) ||| (1 * 256)) / 256 from by have := or_256 (b := 1) (show (0 &&& 1) < 256 from by omega); omega)))
        · show m_dp t12 = (dlt 3 + (dlt 2 + (dlt 32 + sD r)))
          have : dlt 2 = 0 := rfl; have : dlt 3 = 0 := rfl; have : dlt 32 = 0 := rfl; have : dlt 37 = 0 := rfl; omega
        · show m_rw t12 = (rho 3 + (rho 2 + (rho 32 + sR r)))
          have : rho 2 = 0 := rfl; have : rho 3 = 0 := rfl; have : rho 32 = 0 := rfl; have : rho 37 = 0 := rfl; omega
        · show m_md t12 + (mu7 3 + (mu7 2 + (mu7 32 + sM r))) ≤ 3 * m_at t12 + 7 * (r.length + 1 + 1 + 1) + 10
          have : mu7 2 = 7 := rfl; have : mu7 3 = 5 := rfl; have : mu7 32 = 7 := rfl; have : mu7 37 = 5 := rfl; omega
      · have w_t6 := Nat.pos_of_ne_zero w_t6
        have m_n_t6 : n < m_md t6 := by omega
        have g_n_t6 := (x_t6.2.2.1 n m_n_t0).2.1 w_n_t0 g_n_t0
        have w_n_t6 : W5 t6 n := (x_t6.2.2.1 n m_n_t0).1 w_n_t0
        refine Ok_bnc ?_
        try unfold b_X6_exprs
        refine Kp_child C_t6 m_n_t6 g_n_t6 w_n_t6 (by omega) (by omega) (fun t14 C_t14 x_t14 a_t14 b_t14 d_t14 w_t14 u_t14 v_t14 wn_t14 fn_t14 fp_t14 _ l_t14 => ?_)
        have e_t14 := C_t14.2.2.2.1
        have m_n_t14 : n < m_md t14 := by omega
        have g_n_t14 := (x_t14.2.2.1 n m_n_t6).2.1 w_n_t6 g_n_t6
        have w_n_t14 : W5 t14 n := (x_t14.2.2.1 n m_n_t6).1 w_n_t6
        have f_n_t14 : Fz t14 n := fp_t14
        have m_m_mdt6_t14 : m_md t6 < m_md t14 := by omega
        have g_m_mdt6_t14 : GdS t14 (m_md t6) := Or.inl fn_t14
        have w_m_mdt6_t14 : W5 t14 (m_md t6) := by unfold W5; rw [wn_t14]; decide
        have u_m_mdt6_t14 : Up t14 (m_md t6) := Or.inl fn_t14
        clear fp_t14 fn_t14 wn_t14
        refine Kp_push C_t14 (by omega) (fun t15 C_t15 x_t15 a_t15 b_t15 d_t15 w_t15 u_t15 v_t15 _ _ _ l_t15 => ?_)
        have e_t15 := C_t15.2.2.2.1
        have m_n_t15 : n < m_md t15 := by omega
        have g_n_t15 := (x_t15.2.2.1 n m_n_t14).2.1 w_n_t14 g_n_t14
        have w_n_t15 : W5 t15 n := (x_t15.2.2.1 n m_n_t14).1 w_n_t14
        have f_n_t15 : Fz t15 n := (x_t15.2.2.1 n m_n_t14).2.2.1 f_n_t14
        have m_m_mdt6_t15 : m_md t6 < m_md t15 := by omega
        have g_m_mdt6_t15 := (x_t15.2.2.1 (m_md t6) m_m_mdt6_t14).2.1 w_m_mdt6_t14 g_m_mdt6_t14
        have w_m_mdt6_t15 : W5 t15 (m_md t6) := (x_t15.2.2.1 (m_md t6) m_m_mdt6_t14).1 w_m_mdt6_t14
        have u_m_mdt6_t15 := (x_t15.2.2.1 (m_md t6) m_m_mdt6_t14).2.2.2.1 u_m_mdt6_t14
        refine Ok_bnc ?_
        try unfold b_X6_expression
        refine Kp_push C_t15 (by omega) (fun t17 C_t17 x_t17 a_t17 b_t17 d_t17 w_t17 u_t17 v_t17 _ _ _ l_t17 => ?_)
        have e_t17 := C_t17.2.2.2.1
        have m_n_t17 : n < m_md t17 := by omega
        have g_n_t17 := (x_t17.2.2.1 n m_n_t15).2.1 w_n_t15 g_n_t15
        have w_n_t17 : W5 t17 n := (x_t17.2.2.1 n m_n_t15).1 w_n_t15
        have f_n_t17 : Fz t17 n := (x_t17.2.2.1 n m_n_t15).2.2.1 f_n_t15
        have m_m_mdt6_t17 : m_md t6 < m_md t17 := by omega
        have g_m_mdt6_t17 := (x_t17.2.2.1 (m_md t6) m_m_mdt6_t15).2.1 w_m_mdt6_t15 g_m_mdt6_t15
        have w_m_mdt6_t17 : W5 t17 (m_md t6) := (x_t17.2.2.1 (m_md t6) m_m_mdt6_t15).1 w_m_mdt6_t15
        have u_m_mdt6_t17 := (x_t17.2.2.1 (m_md t6) m_m_mdt6_t15).2.2.2.1 u_m_mdt6_t15
        refine Kp_push C_t17 (by omega) (fun t18 C_t18 x_t18 a_t18 b_t18 d_t18 w_t18 u_t18 v_t18 _ _ _ l_t18 => ?_)
        have e_t18 := C_t18.2.2.2.1
        have m_n_t18 : n < m_md t18 := by omega
        have g_n_t18 := (x_t18.2.2.1 n m_n_t17).2.1 w_n_t17 g_n_t17
        have w_n_t18 : W5 t18 n := (x_t18.2.2.1 n m_n_t17).1 w_n_t17
        have f_n_t18 : Fz t18 n := (x_t18.2.2.1 n m_n_t17).2.2.1 f_n_t17
        have m_m_mdt6_t18 : m_md t6 < m_md t18 := by omega
        have g_m_mdt6_t18 := (x_t18.2.2.1 (m_md t6) m_m_mdt6_t17).2.1 w_m_mdt6_t17 g_m_mdt6_t17
        have w_m_mdt6_t18 : W5 t18 (m_md t6) := (x_t18.2.2.1 (m_md t6) m_m_mdt6_t17).1 w_m_mdt6_t17
        have u_m_mdt6_t18 := (x_t18.2.2.1 (m_md t6) m_m_mdt6_t17).2.2.2.1 u_m_mdt6_t17
        refine Ok_ret (show Ok _ _ _ from ?_)
        refine Ok_ret (show Ok _ _ _ from ?_)
        refine Ok_ret (show Ok _ _ _ from ?_)
        refine Ok_ret (show Ok _ _ _ from ?_)
        refine Ok_ret (show Ok _ _ _ from ?_)
        exact Or.inl ⟨Nat.ne_of_gt (show 0 < m_wr t18 from by omega), by omega⟩
    · refine Ok_ife (by decide) (by decide) (fun _ => ?_) (fun q => absurd (by decide) q)
      refine Kp_pass C_t0 hT (by omega) (by decide) (by omega) (fun t19 C_t19 x_t19 a_t19 b_t19 d_t19 w_t19 u_t19 v_t19 _ _ _ l_t19 => ?_)
      have e_t19 := C_t19.2.2.2.1
      rcases w_t19 with ⟨w_t19, y_t19⟩ | ⟨w_t19, wb_t19⟩
      · have z_t19 : m_at t0 < m_ct t0 := lo_ne (Nat.ne_of_gt (show 0 < lo t0 (m_at t0) from by omega))
        have m_n_t19 : n < m_md t19 := by omega
        have g_n_t19 := (x_t19.2.2.1 n m_n_t0).2.1 w_n_t0 g_n_t0
        have w_n_t19 : W5 t19 n := (x_t19.2.2.1 n m_n_t0).1 w_n_t0
        refine Ok_bnc ?_
        try unfold b_X6_exprs
        refine Kp_child C_t19 m_n_t19 g_n_t19 w_n_t19 (by omega) (by omega) (fun t21 C_t21 x_t21 a_t21 b_t21 d_t21 w_t21 u_t21 v_t21 wn_t21 fn_t21 fp_t21 _ l_t21 => ?_)
        have e_t21 := C_t21.2.2.2.1
        have m_n_t21 : n < m_md t21 := by omega
        have g_n_t21 := (x_t21.2.2.1 n m_n_t19).2.1 w_n_t19 g_n_t19
        have w_n_t21 : W5 t21 n := (x_t21.2.2.1 n m_n_t19).1 w_n_t19
        have f_n_t21 : Fz t21 n := fp_t21
        have m_m_mdt19_t21 : m_md t19 < m_md t21 := by omega
        have g_m_mdt19_t21 : GdS t21 (m_md t19) := Or.inl fn_t21
        have w_m_mdt19_t21 : W5 t21 (m_md t19) := by unfold W5; rw [wn_t21]; decide
        have u_m_mdt19_t21 : Up t21 (m_md t19) := Or.inl fn_t21
        clear fp_t21 fn_t21 wn_t21
        refine Kp_push C_t21 (by omega) (fun t22 C_t22 x_t22 a_t22 b_t22 d_t22 w_t22 u_t22 v_t22 _ _ _ l_t22 => ?_)
        have e_t22 := C_t22.2.2.2.1
        have m_n_t22 : n < m_md t22 := by omega
        have g_n_t22 := (x_t22.2.2.1 n m_n_t21).2.1 w_n_t21 g_n_t21
        have w_n_t22 : W5 t22 n := (x_t22.2.2.1 n m_n_t21).1 w_n_t21
        have f_n_t22 : Fz t22 n := (x_t22.2.2.1 n m_n_t21).2.2.1 f_n_t21
        have m_m_mdt19_t22 : m_md t19 < m_md t22 := by omega
        have g_m_mdt19_t22 := (x_t22.2.2.1 (m_md t19) m_m_mdt19_t21).2.1 w_m_mdt19_t21 g_m_mdt19_t21
        have w_m_mdt19_t22 : W5 t22 (m_md t19) := (x_t22.2.2.1 (m_md t19) m_m_mdt19_t21).1 w_m_mdt19_t21
        have u_m_mdt19_t22 := (x_t22.2.2.1 (m_md t19) m_m_mdt19_t21).2.2.2.1 u_m_mdt19_t21
        refine Ok_bnc ?_
        try unfold b_X6_expression
        refine Kp_push C_t22 (by omega) (fun t24 C_t24 x_t24 a_t24 b_t24 d_t24 w_t24 u_t24 v_t24 _ _ _ l_t24 => ?_)
        have e_t24 := C_t24.2.2.2.1
        have m_n_t24 : n < m_md t24 := by omega
        have g_n_t24 := (x_t24.2.2.1 n m_n_t22).2.1 w_n_t22 g_n_t22
        have w_n_t24 : W5 t24 n := (x_t24.2.2.1 n m_n_t22).1 w_n_t22
        have f_n_t24 : Fz t24 n := (x_t24.2.2.1 n m_n_t22).2.2.1 f_n_t22
        have m_m_mdt19_t24 : m_md t19 < m_md t24 := by omega
        have g_m_mdt19_t24 := (x_t24.2.2.1 (m_md t19) m_m_mdt19_t22).2.1 w_m_mdt19_t22 g_m_mdt19_t22
        have w_m_mdt19_t24 : W5 t24 (m_md t19) := (x_t24.2.2.1 (m_md t19) m_m_mdt19_t22).1 w_m_mdt19_t22
        have u_m_mdt19_t24 := (x_t24.2.2.1 (m_md t19) m_m_mdt19_t22).2.2.2.1 u_m_mdt19_t22
        refine Kp_push C_t24 (by omega) (fun t25 C_t25 x_t25 a_t25 b_t25 d_t25 w_t25 u_t25 v_t25 _ _ _ l_t25 => ?_)
        have e_t25 := C_t25.2.2.2.1
        have m_n_t25 : n < m_md t25 := by omega
        have g_n_t25 := (x_t25.2.2.1 n m_n_t24).2.1 w_n_t24 g_n_t24
        have w_n_t25 : W5 t25 n := (x_t25.2.2.1 n m_n_t24).1 w_n_t24
        have f_n_t25 : Fz t25 n := (x_t25.2.2.1 n m_n_t24).2.2.1 f_n_t24
        have m_m_mdt19_t25 : m_md t19 < m_md t25 := by omega
        have g_m_mdt19_t25 := (x_t25.2.2.1 (m_md t19) m_m_mdt19_t24).2.1 w_m_mdt19_t24 g_m_mdt19_t24
        have w_m_mdt19_t25 : W5 t25 (m_md t19) := (x_t25.2.2.1 (m_md t19) m_m_mdt19_t24).1 w_m_mdt19_t24
        have u_m_mdt19_t25 := (x_t25.2.2.1 (m_md t19) m_m_mdt19_t24).2.2.2.1 u_m_mdt19_t24
        refine Ok_ret (show Ok _ _ _ from ?_)
        refine Ok_ret (show Ok _ _ _ from ?_)
        refine Ok_ret (show Ok _ _ _ from ?_)
        refine Ok_ret (show Ok _ _ _ from ?_)
        refine Ok_ret (show Ok _ _ _ from ?_)
        refine Hv_mk C_t25 hT (by omega) (by omega) (by omega) ?_ ?_ ?_ (by omega) ?_ ?_
        · exact ⟨(Io_n (by decide) (show 0 &&& 1 < 4096 from by omega) m_m_mdt19_t25 g_m_mdt19_t25 w_m_mdt19_t25 (fun q => absurd q (by decide)) (fun q => absurd q (by decide))), (Nd_0 (by decide) Mo_nil), ⟨(Io_2 (by have := or_256 (b := 1) (show (0 &&& 1) < 256 from by omega); omega) (by have := or_256 (b := 1) (show (0 &&& 1) < 256 from by omega); omega) (by have := or_256 (b := 1) (show (0 &&& 1) < 256 from by omega); omega) m_m_mdt19_t25 g_m_mdt19_t25 w_m_mdt19_t25), (Nd_A (by decide) (Mo_cons (fun q => show m_md t19 ≤ m_md t19 from by omega) Mo_nil) (Or.inr ⟨(3, m_md t19, 0 &&& 1), List.mem_cons_self, rfl, Or.inl rfl⟩)), ⟨(Io_n (by decide) (show 0 &&& 1 < 4096 from by omega) m_m_mdt19_t25 g_m_mdt19_t25 w_m_mdt19_t25 (fun q => absurd q (by decide)) (fun q => absurd q (by decide))), (Nd_0 (by decide) (Mo_cons (fun q => show m_md t19 ≤ m_md t19 from by omega) (Mo_cons (fun q => show m_md t19 ≤ m_md t19 from by omega) Mo_nil))), Stk_step (N := n) (pop := (37, n, t)) (new := [(32, m_md t19, 0 &&& 1), (2, m_md t19, (0 &&& 1) ||| (1 * 256)), (3, m_md t19, 0 &&& 1)]) F0 C_t25.1 (fun _ => m_n_t0) (fun q _ h => h (37, n, t) rfl) (fun _ => rfl) (fun y hy hk => ⟨rfl, (Mo_cons (fun q => show n ≤ m_md t19 from by omega) (Mo_cons (fun q => show n ≤ m_md t19 from by omega) (Mo_cons (fun q => show n ≤ m_md t19 from by omega) Mo_nil))) y hy hk⟩) (fun (h : 37 = 3 ∨ 37 = 18 ∨ 37 = 41) => absurd h (by decide)) (fun (h : 37 = 18) => absurd h (by decide)) (fun (h : 37 = 41 ∨ 37 = 42 ∨ 37 = 43) => absurd h (by decide)) r [] (fun y hy => absurd hy List.not_mem_nil) hS⟩⟩⟩
        · exact (Aj_up (x := (3, m_md t19, 0 &&& 1)) (Aj_up (x := (2, m_md t19, (0 &&& 1) ||| (1 * 256))) (Aj_sub (y := (32, m_md t19, 0 &&& 1)) hJ (Nat.le_of_ble_eq_true rfl)) (Or.inr (show 9 - ((0 &&& 1) ||| (1 * 256)) / 256 < 9 from by have := or_256 (b := 1) (show (0 &&& 1) < 256 from by omega); omega))) (Or.inr (show 2 < 9 - ((0 &&& 1) ||| (1 * 256)) / 256 from by have := or_256 (b := 1) (show (0 &&& 1) < 256 from by omega); omega)))
        · show m_dp t25 = (dlt 3 + (dlt 2 + (dlt 32 + sD r)))
          have : dlt 2 = 0 := rfl; have : dlt 3 = 0 := rfl; have : dlt 32 = 0 := rfl; have : dlt 37 = 0 := rfl; omega
        · show m_rw t25 = (rho 3 + (rho 2 + (rho 32 + sR r)))
          have : rho 2 = 0 := rfl; have : rho 3 = 0 := rfl; have : rho 32 = 0 := rfl; have : rho 37 = 0 := rfl; omega
        · show m_md t25 + (mu7 3 + (mu7 2 + (mu7 32 + sM r))) ≤ 3 * m_at t25 + 7 * (r.length + 1 + 1 + 1) + 10
          have : mu7 2 = 7 := rfl; have : mu7 3 = 5 := rfl; have : mu7 32 = 7 := rfl; have : mu7 37 = 5 := rfl; omega
      · have w_t19 := Nat.pos_of_ne_zero w_t19
        have m_n_t19 : n < m_md t19 := by omega
        have g_n_t19 := (x_t19.2.2.1 n m_n_t0).2.1 w_n_t0 g_n_t0
        have w_n_t19 : W5 t19 n := (x_t19.2.2.1 n m_n_t0).1 w_n_t0
        refine Ok_bnc ?_
        try unfold b_X6_exprs
        refine Kp_child C_t19 m_n_t19 g_n_t19 w_n_t19 (by omega) (by omega) (fun t27 C_t27 x_t27 a_t27 b_t27 d_t27 w_t27 u_t27 v_t27 wn_t27 fn_t27 fp_t27 _ l_t27 => ?_)
        have e_t27 := C_t27.2.2.2.1
        have m_n_t27 : n < m_md t27 := by omega
        have g_n_t27 := (x_t27.2.2.1 n m_n_t19).2.1 w_n_t19 g_n_t19
        have w_n_t27 : W5 t27 n := (x_t27.2.2.1 n m_n_t19).1 w_n_t19
        have f_n_t27 : Fz t27 n := fp_t27
        have m_m_mdt19_t27 : m_md t19 < m_md t27 := by omega
        have g_m_mdt19_t27 : GdS t27 (m_md t19) := Or.inl fn_t27
        have w_m_mdt19_t27 : W5 t27 (m_md t19) := by unfold W5; rw [wn_t27]; decide
        have u_m_mdt19_t27 : Up t27 (m_md t19) := Or.inl fn_t27
        clear fp_t27 fn_t27 wn_t27
        refine Kp_push C_t27 (by omega) (fun t28 C_t28 x_t28 a_t28 b_t28 d_t28 w_t28 u_t28 v_t28 _ _ _ l_t28 => ?_)
        have e_t28 := C_t28.2.2.2.1
        have m_n_t28 : n < m_md t28 := by omega
        have g_n_t28 := (x_t28.2.2.1 n m_n_t27).2.1 w_n_t27 g_n_t27
        have w_n_t28 : W5 t28 n := (x_t28.2.2.1 n m_n_t27).1 w_n_t27
        have f_n_t28 : Fz t28 n := (x_t28.2.2.1 n m_n_t27).2.2.1 f_n_t27
        have m_m_mdt19_t28 : m_md t19 < m_md t28 := by omega
        have g_m_mdt19_t28 := (x_t28.2.2.1 (m_md t19) m_m_mdt19_t27).2.1 w_m_mdt19_t27 g_m_mdt19_t27
        have w_m_mdt19_t28 : W5 t28 (m_md t19) := (x_t28.2.2.1 (m_md t19) m_m_mdt19_t27).1 w_m_mdt19_t27
        have u_m_mdt19_t28 := (x_t28.2.2.1 (m_md t19) m_m_mdt19_t27).2.2.2.1 u_m_mdt19_t27
        refine Ok_bnc ?_
        try unfold b_X6_expression
        refine Kp_push C_t28 (by omega) (fun t30 C_t30 x_t30 a_t30 b_t30 d_t30 w_t30 u_t30 v_t30 _ _ _ l_t30 => ?_)
        have e_t30 := C_t30.2.2.2.1
        have m_n_t30 : n < m_md t30 := by omega
        have g_n_t30 := (x_t30.2.2.1 n m_n_t28).2.1 w_n_t28 g_n_t28
        have w_n_t30 : W5 t30 n := (x_t30.2.2.1 n m_n_t28).1 w_n_t28
        have f_n_t30 : Fz t30 n := (x_t30.2.2.1 n m_n_t28).2.2.1 f_n_t28
        have m_m_mdt19_t30 : m_md t19 < m_md t30 := by omega
        have g_m_mdt19_t30 := (x_t30.2.2.1 (m_md t19) m_m_mdt19_t28).2.1 w_m_mdt19_t28 g_m_mdt19_t28
        have w_m_mdt19_t30 : W5 t30 (m_md t19) := (x_t30.2.2.1 (m_md t19) m_m_mdt19_t28).1 w_m_mdt19_t28
        have u_m_mdt19_t30 := (x_t30.2.2.1 (m_md t19) m_m_mdt19_t28).2.2.2.1 u_m_mdt19_t28
        refine Kp_push C_t30 (by omega) (fun t31 C_t31 x_t31 a_t31 b_t31 d_t31 w_t31 u_t31 v_t31 _ _ _ l_t31 => ?_)
        have e_t31 := C_t31.2.2.2.1
        have m_n_t31 : n < m_md t31 := by omega
        have g_n_t31 := (x_t31.2.2.1 n m_n_t30).2.1 w_n_t30 g_n_t30
        have w_n_t31 : W5 t31 n := (x_t31.2.2.1 n m_n_t30).1 w_n_t30
        have f_n_t31 : Fz t31 n := (x_t31.2.2.1 n m_n_t30).2.2.1 f_n_t30
        have m_m_mdt19_t31 : m_md t19 < m_md t31 := by omega
        have g_m_mdt19_t31 := (x_t31.2.2.1 (m_md t19) m_m_mdt19_t30).2.1 w_m_mdt19_t30 g_m_mdt19_t30
        have w_m_mdt19_t31 : W5 t31 (m_md t19) := (x_t31.2.2.1 (m_md t19) m_m_mdt19_t30).1 w_m_mdt19_t30
        have u_m_mdt19_t31 := (x_t31.2.2.1 (m_md t19) m_m_mdt19_t30).2.2.2.1 u_m_mdt19_t30
        refine Ok_ret (show Ok _ _ _ from ?_)
        refine Ok_ret (show Ok _ _ _ from ?_)
        refine Ok_ret (show Ok _ _ _ from ?_)
        refine Ok_ret (show Ok _ _ _ from ?_)
        refine Ok_ret (show Ok _ _ _ from ?_)
        exact Or.inl ⟨Nat.ne_of_gt (show 0 < m_wr t31 from by omega), by omega⟩
  · refine Kp_push C_t0 (by omega) (fun t32 C_t32 x_t32 a_t32 b_t32 d_t32 w_t32 u_t32 v_t32 _ _ _ l_t32 => ?_)
    have e_t32 := C_t32.2.2.2.1
    have m_n_t32 : n < m_md t32 := by omega
    have g_n_t32 := (x_t32.2.2.1 n m_n_t0).2.1 w_n_t0 g_n_t0
    have w_n_t32 : W5 t32 n := (x_t32.2.2.1 n m_n_t0).1 w_n_t0
    refine Kp_push C_t32 (by omega) (fun t33 C_t33 x_t33 a_t33 b_t33 d_t33 w_t33 u_t33 v_t33 _ _ _ l_t33 => ?_)
    have e_t33 := C_t33.2.2.2.1
    have m_n_t33 : n < m_md t33 := by omega
    have g_n_t33 := (x_t33.2.2.1 n m_n_t32).2.1 w_n_t32 g_n_t32
    have w_n_t33 : W5 t33 n := (x_t33.2.2.1 n m_n_t32).1 w_n_t32
    refine Ok_ret (show Ok _ _ _ from ?_)
    refine Ok_ret (show Ok _ _ _ from ?_)
    refine Hv_mk C_t33 hT (by omega) (by omega) (by omega) ?_ ?_ ?_ (by omega) ?_ ?_
    · exact ⟨(Io_n (by decide) (by decide) m_n_t33 g_n_t33 w_n_t33 (fun q => absurd q (by decide)) (fun q => absurd q (by decide))), (Nd_0 (by decide) Mo_nil), ⟨(Io_n (by decide) (by decide) m_n_t33 g_n_t33 w_n_t33 (fun q => absurd q (by decide)) (fun q => absurd q (by decide))), (Nd_0 (by decide) (Mo_cons (fun q => show n ≤ n from by omega) Mo_nil)), Stk_step (N := n) (pop := (37, n, t)) (new := [(58, n, 2), (18, n, 0)]) F0 C_t33.1 (fun _ => m_n_t0) (fun q _ h => h (37, n, t) rfl) (fun _ => rfl) (fun y hy hk => ⟨rfl, (Mo_cons (fun q => show n ≤ n from by omega) (Mo_cons (fun q => show n ≤ n from by omega) Mo_nil)) y hy hk⟩) (fun (h : 37 = 3 ∨ 37 = 18 ∨ 37 = 41) => absurd h (by decide)) (fun (h : 37 = 18) => absurd h (by decide)) (fun (h : 37 = 41 ∨ 37 = 42 ∨ 37 = 43) => absurd h (by decide)) r [] (fun y hy => absurd hy List.not_mem_nil) hS⟩⟩
    · exact (Aj_up (x := (18, n, 0)) (Aj_sub (y := (58, n, 2)) hJ (Nat.le_of_ble_eq_true rfl)) (Or.inr (Nat.le_of_ble_eq_true rfl)))
    · show m_dp t33 = (dlt 18 + (dlt 58 + sD r))
      have : dlt 18 = 0 := rfl; have : dlt 37 = 0 := rfl; have : dlt 58 = 0 := rfl; omega
    · show m_rw t33 = (rho 18 + (rho 58 + sR r))
      have : rho 18 = 0 := rfl; have : rho 37 = 0 := rfl; have : rho 58 = 0 := rfl; omega
    · show m_md t33 + (mu7 18 + (mu7 58 + sM r)) ≤ 3 * m_at t33 + 7 * (r.length + 1 + 1) + 10
      have : mu7 18 = 5 := rfl; have : mu7 37 = 5 := rfl; have : mu7 58 = 7 := rfl; omega

theorem S_38 {s : Mm} {n t : Nat} {r : List It} (H : Hv s ((38, n, t) :: r)) {E : Mm → Prop} : Ok Qh E (b_X6_step 38 n t (w_td s (m_td s - 1))) := by
  obtain ⟨hT, hc, hw0, ha, hC, hS, hJ, hdp, hdl, hrw, hmd, htd, hln, hm16, hI, hD⟩ := Hv_pop H
  have C_t0 := hC n
  generalize ht0 : w_td s (m_td s - 1) = t0 at *
  have b_t0 : m_md t0 = m_md s := by rw [← ht0]
  have a_t0 : m_at t0 = m_at s := by rw [← ht0]
  have d_t0 : m_dp t0 = m_dp s := by rw [← ht0]
  have w_t0 : m_wr t0 = m_wr s := by rw [← ht0]
  have u_t0 : m_rw t0 = m_rw s := by rw [← ht0]
  have v_t0 : m_td t0 = m_td s - 1 := by rw [← ht0]
  have e_t0 : m_ct t0 = m_ct s := by rw [← ht0]
  have F0 := C_t0.2.1
  obtain ⟨m_n_t0, g_n_t0, w_n_t0⟩ : n < m_md t0 ∧ GdS t0 n ∧ W5 t0 n := hI.2.1 rfl
  have ht : t < 4096 := hI.1.1 (show 38 ≠ 42 by decide) (show 38 ≠ 48 by decide)
  have hdp : m_dp s = dlt 38 + sD r := hdp
  have hrw : m_rw s = rho 38 + sR r := hrw
  have hmd : m_md s + mu7 38 + sM r ≤ 3 * m_at s + 7 * r.length + 17 := hmd
  have hand : t &&& 1 ≤ 1 := Nat.and_le_right
  have h01 : (0 &&& 1 : Nat) = 0 := rfl
  have h02 : (1 : Nat) * 256 = 256 := rfl
  have hq1 : dlt 38 = 0 := rfl
  have hq2 : rho 38 = 0 := rfl
  have hq3 : mu7 38 = 2 := rfl
  unfold b_X6_step
  refine Ok_ifl (by decide) (by decide) (fun _ => ?_) (fun q => absurd (by decide) q)
  refine Ok_ifl (by decide) (by decide) (fun q => absurd q (by decide)) (fun _ => ?_)
  refine Ok_ifl (by decide) (by decide) (fun q => absurd q (by decide)) (fun _ => ?_)
  refine Ok_ifl (by decide) (by decide) (fun _ => ?_) (fun q => absurd (by decide) q)
  refine Ok_bnc ?_
  try unfold b_X6_declaring
  refine Ok_ck (by decide) ?_
  refine Ok_ife (by decide) (by decide) (fun q => absurd q (by decide)) (fun _ => ?_)
  refine Ok_ife (by decide) (by decide) (fun q => absurd q (by decide)) (fun _ => ?_)
  refine Ok_ife (by decide) (by decide) (fun q => absurd q (by decide)) (fun _ => ?_)
  refine Ok_ife (by decide) (by decide) (fun q => absurd q (by decide)) (fun _ => ?_)
  refine Ok_ife (by decide) (by decide) (fun q => absurd q (by decide)) (fun _ => ?_)
  refine Ok_ife (by decide) (by decide) (fun q => absurd q (by decide)) (fun _ => ?_)
  refine Ok_ife (by decide) (by decide) (fun q => absurd q (by decide)) (fun _ => ?_)
  refine Ok_ife (by decide) (by decide) (fun q => absurd q (by decide)) (fun _ => ?_)
  refine Ok_ife (by decide) (by decide) (fun q => absurd q (by decide)) (fun _ => ?_)
  refine Ok_ife (by decide) (by decide) (fun _ => ?_) (fun q => absurd (by decide) q)
  refine Ok_bnc ?_
  try unfold b_X6_block
  refine Kp_look C_t0 hT (by omega) ?_
  refine Ok_ife (Nat.lt_trans (lo_lt (C_t0.tk hT) _) (by decide)) (by decide) (fun q3 => ?_) (fun q3 => ?_)
  · refine Kp_child C_t0 m_n_t0 g_n_t0 w_n_t0 (by omega) (by omega) (fun t4 C_t4 x_t4 a_t4 b_t4 d_t4 w_t4 u_t4 v_t4 wn_t4 fn_t4 fp_t4 _ l_t4 => ?_)
    have e_t4 := C_t4.2.2.2.1
    have m_n_t4 : n < m_md t4 := by omega
    have g_n_t4 := (x_t4.2.2.1 n m_n_t0).2.1 w_n_t0 g_n_t0
    have w_n_t4 : W5 t4 n := (x_t4.2.2.1 n m_n_t0).1 w_n_t0
    have f_n_t4 : Fz t4 n := fp_t4
    have m_m_mdt0_t4 : m_md t0 < m_md t4 := by omega
    have g_m_mdt0_t4 : GdS t4 (m_md t0) := Or.inl fn_t4
    have w_m_mdt0_t4 : W5 t4 (m_md t0) := by unfold W5; rw [wn_t4]; decide
    have u_m_mdt0_t4 : Up t4 (m_md t0) := Or.inl fn_t4
    clear fp_t4 fn_t4 wn_t4
    refine Kp_more C_t4 (by omega) (by omega) (fun t5 C_t5 x_t5 a_t5 b_t5 d_t5 w_t5 u_t5 v_t5 _ _ _ l_t5 => ?_)
    have e_t5 := C_t5.2.2.2.1
    rcases w_t5 with ⟨w_t5, y_t5⟩ | ⟨w_t5, wb_t5⟩
    · have m_n_t5 : n < m_md t5 := by omega
      have g_n_t5 := (x_t5.2.2.1 n m_n_t4).2.1 w_n_t4 g_n_t4
      have w_n_t5 : W5 t5 n := (x_t5.2.2.1 n m_n_t4).1 w_n_t4
      have f_n_t5 : Fz t5 n := (x_t5.2.2.1 n m_n_t4).2.2.1 f_n_t4
      have m_m_mdt0_t5 : m_md t0 < m_md t5 := by omega
      have g_m_mdt0_t5 := (x_t5.2.2.1 (m_md t0) m_m_mdt0_t4).2.1 w_m_mdt0_t4 g_m_mdt0_t4
      have w_m_mdt0_t5 : W5 t5 (m_md t0) := (x_t5.2.2.1 (m_md t0) m_m_mdt0_t4).1 w_m_mdt0_t4
      have u_m_mdt0_t5 := (x_t5.2.2.1 (m_md t0) m_m_mdt0_t4).2.2.2.1 u_m_mdt0_t4
      have z_t6 : m_at t5 < m_ct t5 := lo_ne (Nat.ne_of_gt (show 0 < lo t5 (m_at t5) from by omega))
      refine Kp_at C_t5 (fun t6 C_t6 x_t6 a_t6 b_t6 d_t6 w_t6 u_t6 v_t6 _ _ _ l_t6 => ?_)
      have e_t6 := C_t6.2.2.2.1
      have m_n_t6 : n < m_md t6 := by omega
      have g_n_t6 := (x_t6.2.2.1 n m_n_t5).2.1 w_n_t5 g_n_t5
      have w_n_t6 : W5 t6 n := (x_t6.2.2.1 n m_n_t5).1 w_n_t5
      have f_n_t6 : Fz t6 n := (x_t6.2.2.1 n m_n_t5).2.2.1 f_n_t5
      have m_m_mdt0_t6 : m_md t0 < m_md t6 := by omega
      have g_m_mdt0_t6 := (x_t6.2.2.1 (m_md t0) m_m_mdt0_t5).2.1 w_m_mdt0_t5 g_m_mdt0_t5
      have w_m_mdt0_t6 : W5 t6 (m_md t0) := (x_t6.2.2.1 (m_md t0) m_m_mdt0_t5).1 w_m_mdt0_t5
      have u_m_mdt0_t6 := (x_t6.2.2.1 (m_md t0) m_m_mdt0_t5).2.2.2.1 u_m_mdt0_t5
      refine Kp_push C_t6 (by omega) (fun t7 C_t7 x_t7 a_t7 b_t7 d_t7 w_t7 u_t7 v_t7 _ _ _ l_t7 => ?_)
      have e_t7 := C_t7.2.2.2.1
      have m_n_t7 : n < m_md t7 := by omega
      have g_n_t7 := (x_t7.2.2.1 n m_n_t6).2.1 w_n_t6 g_n_t6
      have w_n_t7 : W5 t7 n := (x_t7.2.2.1 n m_n_t6).1 w_n_t6
      have f_n_t7 : Fz t7 n := (x_t7.2.2.1 n m_n_t6).2.2.1 f_n_t6
      have m_m_mdt0_t7 : m_md t0 < m_md t7 := by omega
      have g_m_mdt0_t7 := (x_t7.2.2.1 (m_md t0) m_m_mdt0_t6).2.1 w_m_mdt0_t6 g_m_mdt0_t6
      have w_m_mdt0_t7 : W5 t7 (m_md t0) := (x_t7.2.2.1 (m_md t0) m_m_mdt0_t6).1 w_m_mdt0_t6
      have u_m_mdt0_t7 := (x_t7.2.2.1 (m_md t0) m_m_mdt0_t6).2.2.2.1 u_m_mdt0_t6
      refine Kp_push C_t7 (by omega) (fun t8 C_t8 x_t8 a_t8 b_t8 d_t8 w_t8 u_t8 v_t8 _ _ _ l_t8 => ?_)
      have e_t8 := C_t8.2.2.2.1
      have m_n_t8 : n < m_md t8 := by omega
      have g_n_t8 := (x_t8.2.2.1 n m_n_t7).2.1 w_n_t7 g_n_t7
      have w_n_t8 : W5 t8 n := (x_t8.2.2.1 n m_n_t7).1 w_n_t7
      have f_n_t8 : Fz t8 n := (x_t8.2.2.1 n m_n_t7).2.2.1 f_n_t7
      have m_m_mdt0_t8 : m_md t0 < m_md t8 := by omega
      have g_m_mdt0_t8 := (x_t8.2.2.1 (m_md t0) m_m_mdt0_t7).2.1 w_m_mdt0_t7 g_m_mdt0_t7
      have w_m_mdt0_t8 : W5 t8 (m_md t0) := (x_t8.2.2.1 (m_md t0) m_m_mdt0_t7).1 w_m_mdt0_t7
      have u_m_mdt0_t8 := (x_t8.2.2.1 (m_md t0) m_m_mdt0_t7).2.2.2.1 u_m_mdt0_t7
      refine Ok_ret (show Ok _ _ _ from ?_)
      refine Ok_ret (show Ok _ _ _ from ?_)
      refine Hv_mk C_t8 hT (by omega) (by omega) (by omega) ?_ ?_ ?_ (by omega) ?_ ?_
      · exact ⟨(Io_n (by decide) (by decide) m_m_mdt0_t8 g_m_mdt0_t8 w_m_mdt0_t8 (fun _ => u_m_mdt0_t8) (fun q => absurd q (by decide))), (Nd_0 (by decide) Mo_nil), ⟨(Io_78 (by decide) (by decide) (by decide)), (Nd_x (by decide)), Stk_step (N := n) (pop := (38, n, t)) (new := [(8, 83, 0), (39, m_md t0, 0)]) F0 C_t8.1 (fun _ => m_n_t0) (fun q _ h => h (38, n, t) rfl) (fun _ => rfl) (fun y hy hk => ⟨rfl, (Mo_cons (fun q => absurd q (by decide)) (Mo_cons (fun q => show n ≤ m_md t0 from by omega) Mo_nil)) y hy hk⟩) (fun (h : 38 = 3 ∨ 38 = 18 ∨ 38 = 41) => absurd h (by decide)) (fun (h : 38 = 18) => absurd h (by decide)) (fun (h : 38 = 41 ∨ 38 = 42 ∨ 38 = 43) => absurd h (by decide)) r [] (fun y hy => absurd hy List.not_mem_nil) hS⟩⟩
      · exact (Aj_up (x := (39, m_md t0, 0)) (Aj_sub (y := (8, 83, 0)) hJ (Nat.le_of_ble_eq_true rfl)) (Or.inl (Nat.le_of_ble_eq_true rfl)))
      · show m_dp t8 = (dlt 39 + (dlt 8 + sD r))
        have : dlt 38 = 0 := rfl; have : dlt 39 = 0 := rfl; have : dlt 8 = 1 := rfl; omega
      · show m_rw t8 = (rho 39 + (rho 8 + sR r))
        have : rho 38 = 0 := rfl; have : rho 39 = 0 := rfl; have : rho 8 = 0 := rfl; omega
      · show m_md t8 + (mu7 39 + (mu7 8 + sM r)) ≤ 3 * m_at t8 + 7 * (r.length + 1 + 1) + 10
        have : mu7 38 = 2 := rfl; have : mu7 39 = 7 := rfl; have : mu7 8 = 4 := rfl; omega
    · have w_t5 := Nat.pos_of_ne_zero w_t5
      have m_n_t5 : n < m_md t5 := by omega
      have g_n_t5 := (x_t5.2.2.1 n m_n_t4).2.1 w_n_t4 g_n_t4
      have w_n_t5 : W5 t5 n := (x_t5.2.2.1 n m_n_t4).1 w_n_t4
      have f_n_t5 : Fz t5 n := (x_t5.2.2.1 n m_n_t4).2.2.1 f_n_t4
      have m_m_mdt0_t5 : m_md t0 < m_md t5 := by omega
      have g_m_mdt0_t5 := (x_t5.2.2.1 (m_md t0) m_m_mdt0_t4).2.1 w_m_mdt0_t4 g_m_mdt0_t4
      have w_m_mdt0_t5 : W5 t5 (m_md t0) := (x_t5.2.2.1 (m_md t0) m_m_mdt0_t4).1 w_m_mdt0_t4
      have u_m_mdt0_t5 := (x_t5.2.2.1 (m_md t0) m_m_mdt0_t4).2.2.2.1 u_m_mdt0_t4
      refine Kp_at C_t5 (fun t9 C_t9 x_t9 a_t9 b_t9 d_t9 w_t9 u_t9 v_t9 _ _ _ l_t9 => ?_)
      have e_t9 := C_t9.2.2.2.1
      have m_n_t9 : n < m_md t9 := by omega
      have g_n_t9 := (x_t9.2.2.1 n m_n_t5).2.1 w_n_t5 g_n_t5
      have w_n_t9 : W5 t9 n := (x_t9.2.2.1 n m_n_t5).1 w_n_t5
      have f_n_t9 : Fz t9 n := (x_t9.2.2.1 n m_n_t5).2.2.1 f_n_t5
      have m_m_mdt0_t9 : m_md t0 < m_md t9 := by omega
      have g_m_mdt0_t9 := (x_t9.2.2.1 (m_md t0) m_m_mdt0_t5).2.1 w_m_mdt0_t5 g_m_mdt0_t5
      have w_m_mdt0_t9 : W5 t9 (m_md t0) := (x_t9.2.2.1 (m_md t0) m_m_mdt0_t5).1 w_m_mdt0_t5
      have u_m_mdt0_t9 := (x_t9.2.2.1 (m_md t0) m_m_mdt0_t5).2.2.2.1 u_m_mdt0_t5
      refine Kp_push C_t9 (by omega) (fun t10 C_t10 x_t10 a_t10 b_t10 d_t10 w_t10 u_t10 v_t10 _ _ _ l_t10 => ?_)
      have e_t10 := C_t10.2.2.2.1
      have m_n_t10 : n < m_md t10 := by omega
      have g_n_t10 := (x_t10.2.2.1 n m_n_t9).2.1 w_n_t9 g_n_t9
      have w_n_t10 : W5 t10 n := (x_t10.2.2.1 n m_n_t9).1 w_n_t9
      have f_n_t10 : Fz t10 n := (x_t10.2.2.1 n m_n_t9).2.2.1 f_n_t9
      have m_m_mdt0_t10 : m_md t0 < m_md t10 := by omega
      have g_m_mdt0_t10 := (x_t10.2.2.1 (m_md t0) m_m_mdt0_t9).2.1 w_m_mdt0_t9 g_m_mdt0_t9
      have w_m_mdt0_t10 : W5 t10 (m_md t0) := (x_t10.2.2.1 (m_md t0) m_m_mdt0_t9).1 w_m_mdt0_t9
      have u_m_mdt0_t10 := (x_t10.2.2.1 (m_md t0) m_m_mdt0_t9).2.2.2.1 u_m_mdt0_t9
      refine Kp_push C_t10 (by omega) (fun t11 C_t11 x_t11 a_t11 b_t11 d_t11 w_t11 u_t11 v_t11 _ _ _ l_t11 => ?_)
      have e_t11 := C_t11.2.2.2.1
      have m_n_t11 : n < m_md t11 := by omega
      have g_n_t11 := (x_t11.2.2.1 n m_n_t10).2.1 w_n_t10 g_n_t10
      have w_n_t11 : W5 t11 n := (x_t11.2.2.1 n m_n_t10).1 w_n_t10
      have f_n_t11 : Fz t11 n := (x_t11.2.2.1 n m_n_t10).2.2.1 f_n_t10
      have m_m_mdt0_t11 : m_md t0 < m_md t11 := by omega
      have g_m_mdt0_t11 := (x_t11.2.2.1 (m_md t0) m_m_mdt0_t10).2.1 w_m_mdt0_t10 g_m_mdt0_t10
      have w_m_mdt0_t11 : W5 t11 (m_md t0) := (x_t11.2.2.1 (m_md t0) m_m_mdt0_t10).1 w_m_mdt0_t10
      have u_m_mdt0_t11 := (x_t11.2.2.1 (m_md t0) m_m_mdt0_t10).2.2.2.1 u_m_mdt0_t10
      refine Ok_ret (show Ok _ _ _ from ?_)
      refine Ok_ret (show Ok _ _ _ from ?_)
      exact Or.inl ⟨Nat.ne_of_gt (show 0 < m_wr t11 from by omega), by omega⟩
  · refine Kp_error C_t0 (by omega) (fun t12 C_t12 x_t12 a_t12 b_t12 d_t12 w_t12 wb_t12 u_t12 v_t12 _ _ _ l_t12 => ?_)
    have w_t12 := Nat.pos_of_ne_zero w_t12
    have e_t12 := C_t12.2.2.2.1
    have m_n_t12 : n < m_md t12 := by omega
    have g_n_t12 := (x_t12.2.2.1 n m_n_t0).2.1 w_n_t0 g_n_t0
    have w_n_t12 : W5 t12 n := (x_t12.2.2.1 n m_n_t0).1 w_n_t0
    refine Ok_ret (show Ok _ _ _ from ?_)
    refine Ok_ret (show Ok _ _ _ from ?_)
    exact Or.inl ⟨Nat.ne_of_gt (show 0 < m_wr t12 from by omega), by omega⟩

theorem S_40 {s : Mm} {n t : Nat} {r : List It} (H : Hv s ((40, n, t) :: r)) {E : Mm → Prop} : Ok Qh E (b_X6_step 40 n t (w_td s (m_td s - 1))) := by
  obtain ⟨hT, hc, hw0, ha, hC, hS, hJ, hdp, hdl, hrw, hmd, htd, hln, hm16, hI, hD⟩ := Hv_pop H
  have C_t0 := hC n
  generalize ht0 : w_td s (m_td s - 1) = t0 at *
  have b_t0 : m_md t0 = m_md s := by rw [← ht0]
  have a_t0 : m_at t0 = m_at s := by rw [← ht0]
  have d_t0 : m_dp t0 = m_dp s := by rw [← ht0]
  have w_t0 : m_wr t0 = m_wr s := by rw [← ht0]
  have u_t0 : m_rw t0 = m_rw s := by rw [← ht0]
  have v_t0 : m_td t0 = m_td s - 1 := by rw [← ht0]
  have e_t0 : m_ct t0 = m_ct s := by rw [← ht0]
  have F0 := C_t0.2.1
  obtain ⟨m_n_t0, g_n_t0, w_n_t0⟩ : n < m_md t0 ∧ GdS t0 n ∧ W5 t0 n := hI.2.1 rfl
  have ht : t < 4096 := hI.1.1 (show 40 ≠ 42 by decide) (show 40 ≠ 48 by decide)
  have hdp : m_dp s = dlt 40 + sD r := hdp
  have hrw : m_rw s = rho 40 + sR r := hrw
  have hmd : m_md s + mu7 40 + sM r ≤ 3 * m_at s + 7 * r.length + 17 := hmd
  have hand : t &&& 1 ≤ 1 := Nat.and_le_right
  have h01 : (0 &&& 1 : Nat) = 0 := rfl
  have h02 : (1 : Nat) * 256 = 256 := rfl
  have hq1 : dlt 40 = 0 := rfl
  have hq2 : rho 40 = 0 := rfl
  have hq3 : mu7 40 = 7 := rfl
  have u_n_t0 : Up t0 n := hI.2.2 rfl
  unfold b_X6_step
  refine Ok_ifl (by decide) (by decide) (fun _ => ?_) (fun q => absurd (by decide) q)
  refine Ok_ifl (by decide) (by decide) (fun q => absurd q (by decide)) (fun _ => ?_)
  refine Ok_ifl (by decide) (by decide) (fun q => absurd q (by decide)) (fun _ => ?_)
  refine Ok_ifl (by decide) (by decide) (fun _ => ?_) (fun q => absurd (by decide) q)
  refine Ok_bnc ?_
  try unfold b_X6_declaring
  refine Ok_ck (by decide) ?_
  refine Ok_ife (by decide) (by decide) (fun q => absurd q (by decide)) (fun _ => ?_)
  refine Ok_ife (by decide) (by decide) (fun q => absurd q (by decide)) (fun _ => ?_)
  refine Ok_ife (by decide) (by decide) (fun q => absurd q (by decide)) (fun _ => ?_)
  refine Ok_ife (by decide) (by decide) (fun q => absurd q (by decide)) (fun _ => ?_)
  refine Ok_ife (by decide) (by decide) (fun q => absurd q (by decide)) (fun _ => ?_)
  refine Ok_ife (by decide) (by decide) (fun q => absurd q (by decide)) (fun _ => ?_)
  refine Ok_ife (by decide) (by decide) (fun q => absurd q (by decide)) (fun _ => ?_)
  refine Ok_ife (by decide) (by decide) (fun q => absurd q (by decide)) (fun _ => ?_)
  refine Ok_ife (by decide) (by decide) (fun q => absurd q (by decide)) (fun _ => ?_)
  refine Ok_ife (by decide) (by decide) (fun q => absurd q (by decide)) (fun _ => ?_)
  refine Ok_ife (by decide) (by decide) (fun q => absurd q (by decide)) (fun _ => ?_)
  refine Ok_bnc ?_
  try unfold b_X6_statementsMore
  refine Kp_look C_t0 hT (by omega) ?_
  refine Ok_ife (Nat.lt_trans (lo_lt (C_t0.tk hT) _) (by decide)) (by decide) (fun q3 => ?_) (fun q3 => ?_)
  · have z_t4 : m_at t0 < m_ct t0 := lo_ne (Nat.ne_of_gt (show 0 < lo t0 (m_at t0) from by omega))
    refine Kp_at C_t0 (fun t4 C_t4 x_t4 a_t4 b_t4 d_t4 w_t4 u_t4 v_t4 _ _ _ l_t4 => ?_)
    have e_t4 := C_t4.2.2.2.1
    have m_n_t4 : n < m_md t4 := by omega
    have g_n_t4 := (x_t4.2.2.1 n m_n_t0).2.1 w_n_t0 g_n_t0
    have w_n_t4 : W5 t4 n := (x_t4.2.2.1 n m_n_t0).1 w_n_t0
    have u_n_t4 := (x_t4.2.2.1 n m_n_t0).2.2.2.1 u_n_t0
    refine Kp_push C_t4 (by omega) (fun t5 C_t5 x_t5 a_t5 b_t5 d_t5 w_t5 u_t5 v_t5 _ _ _ l_t5 => ?_)
    have e_t5 := C_t5.2.2.2.1
    have m_n_t5 : n < m_md t5 := by omega
    have g_n_t5 := (x_t5.2.2.1 n m_n_t4).2.1 w_n_t4 g_n_t4
    have w_n_t5 : W5 t5 n := (x_t5.2.2.1 n m_n_t4).1 w_n_t4
    have u_n_t5 := (x_t5.2.2.1 n m_n_t4).2.2.2.1 u_n_t4
    refine Ok_ret (show Ok _ _ _ from ?_)
    refine Ok_ret (show Ok _ _ _ from ?_)
    refine Hv_mk C_t5 hT (by omega) (by omega) (by omega) ?_ ?_ ?_ (by omega) ?_ ?_
    · exact ⟨(Io_n (by decide) (by decide) m_n_t5 g_n_t5 w_n_t5 (fun _ => u_n_t5) (fun q => absurd q (by decide))), (Nd_0 (by decide) Mo_nil), Stk_step (N := n) (pop := (40, n, t)) (new := [(39, n, 0)]) F0 C_t5.1 (fun _ => m_n_t0) (fun q _ h => h (40, n, t) rfl) (fun _ => rfl) (fun y hy hk => ⟨rfl, (Mo_cons (fun q => show n ≤ n from by omega) Mo_nil) y hy hk⟩) (fun (h : 40 = 3 ∨ 40 = 18 ∨ 40 = 41) => absurd h (by decide)) (fun (h : 40 = 18) => absurd h (by decide)) (fun (h : 40 = 41 ∨ 40 = 42 ∨ 40 = 43) => absurd h (by decide)) r [] (fun y hy => absurd hy List.not_mem_nil) hS⟩
    · exact (Aj_sub (y := (39, n, 0)) hJ (Nat.le_of_ble_eq_true rfl))
    · show m_dp t5 = (dlt 39 + sD r)
      have : dlt 39 = 0 := rfl; have : dlt 40 = 0 := rfl; omega
    · show m_rw t5 = (rho 39 + sR r)
      have : rho 39 = 0 := rfl; have : rho 40 = 0 := rfl; omega
    · show m_md t5 + (mu7 39 + sM r) ≤ 3 * m_at t5 + 7 * (r.length + 1) + 10
      have : mu7 39 = 7 := rfl; have : mu7 40 = 7 := rfl; omega
  · refine Ok_ret (show Ok _ _ _ from ?_)
    refine Ok_ret (show Ok _ _ _ from ?_)
    refine Hv_mk C_t0 hT (by omega) (by omega) (by omega) ?_ ?_ ?_ (by omega) ?_ ?_
    · exact Stk_step (N := n) (pop := (40, n, t)) (new := []) F0 C_t0.1 (fun _ => m_n_t0) (fun q _ h => h (40, n, t) rfl) (fun _ => rfl) (fun y hy hk => ⟨rfl, Mo_nil (n := n) y hy hk⟩) (fun (h : 40 = 3 ∨ 40 = 18 ∨ 40 = 41) => absurd h (by decide)) (fun (h : 40 = 18) => absurd h (by decide)) (fun (h : 40 = 41 ∨ 40 = 42 ∨ 40 = 43) => absurd h (by decide)) r [] (fun y hy => absurd hy List.not_mem_nil) hS
    · exact Aj_tl hJ
    · show m_dp t0 = sD r
      have : dlt 40 = 0 := rfl; omega
    · show m_rw t0 = sR r
      have : rho 40 = 0 := rfl; omega
    · show m_md t0 + sM r ≤ 3 * m_at t0 + 7 * (r.length) + 10
      have : mu7 40 = 7 := rfl; omega

theorem S_47 {s : Mm} {n t : Nat} {r : List It} (H : Hv s ((47, n, t) :: r)) {E : Mm → Prop} : Ok Qh E (b_X6_step 47 n t (w_td s (m_td s - 1))) := by
  obtain ⟨hT, hc, hw0, ha, hC, hS, hJ, hdp, hdl, hrw, hmd, htd, hln, hm16, hI, hD⟩ := Hv_pop H
  have C_t0 := hC n
  generalize ht0 : w_td s (m_td s - 1) = t0 at *
  have b_t0 : m_md t0 = m_md s := by rw [← ht0]
  have a_t0 : m_at t0 = m_at s := by rw [← ht0]
  have d_t0 : m_dp t0 = m_dp s := by rw [← ht0]
  have w_t0 : m_wr t0 = m_wr s := by rw [← ht0]
  have u_t0 : m_rw t0 = m_rw s := by rw [← ht0]
  have v_t0 : m_td t0 = m_td s - 1 := by rw [← ht0]
  have e_t0 : m_ct t0 = m_ct s := by rw [← ht0]
  have F0 := C_t0.2.1
  obtain ⟨m_n_t0, g_n_t0, w_n_t0⟩ : n < m_md t0 ∧ GdS t0 n ∧ W5 t0 n := hI.2.1 rfl
  have ht : t < 4096 := hI.1.1 (show 47 ≠ 42 by decide) (show 47 ≠ 48 by decide)
  have hdp : m_dp s = dlt 47 + sD r := hdp
  have hrw : m_rw s = rho 47 + sR r := hrw
  have hmd : m_md s + mu7 47 + sM r ≤ 3 * m_at s + 7 * r.length + 17 := hmd
  have hand : t &&& 1 ≤ 1 := Nat.and_le_right
  have h01 : (0 &&& 1 : Nat) = 0 := rfl
  have h02 : (1 : Nat) * 256 = 256 := rfl
  have hq1 : dlt 47 = 0 := rfl
  have hq2 : rho 47 = 0 := rfl
  have hq3 : mu7 47 = 7 := rfl
  unfold b_X6_step
  refine Ok_ifl (by decide) (by decide) (fun _ => ?_) (fun q => absurd (by decide) q)
  refine Ok_ifl (by decide) (by decide) (fun q => absurd q (by decide)) (fun _ => ?_)
  refine Ok_ifl (by decide) (by decide) (fun q => absurd q (by decide)) (fun _ => ?_)
  refine Ok_ifl (by decide) (by decide) (fun q => absurd q (by decide)) (fun _ => ?_)
  refine Ok_bnc ?_
  try unfold b_X6_stating
  refine Ok_ck (by decide) ?_
  refine Ok_ife (by decide) (by decide) (fun q => absurd q (by decide)) (fun _ => ?_)
  refine Ok_ife (by decide) (by decide) (fun q => absurd q (by decide)) (fun _ => ?_)
  refine Ok_ife (by decide) (by decide) (fun q => absurd q (by decide)) (fun _ => ?_)
  refine Ok_ife (by decide) (by decide) (fun q => absurd q (by decide)) (fun _ => ?_)
  refine Ok_ife (by decide) (by decide) (fun q => absurd q (by decide)) (fun _ => ?_)
  refine Ok_ife (by decide) (by decide) (fun q => absurd q (by decide)) (fun _ => ?_)
  refine Ok_ife (by decide) (by decide) (fun _ => ?_) (fun q => absurd (by decide) q)
  refine Ok_bnc ?_
  try unfold b_X6_valued
  refine Kp_look C_t0 hT (by omega) ?_
  refine Ok_ife (Nat.lt_trans (lo_lt (C_t0.tk hT) _) (by decide)) (by decide) (fun q3 => ?_) (fun q3 => ?_)
  · refine Kp_pass C_t0 hT (by omega) (by decide) (by omega) (fun t4 C_t4 x_t4 a_t4 b_t4 d_t4 w_t4 u_t4 v_t4 _ _ _ l_t4 => ?_)
    have e_t4 := C_t4.2.2.2.1
    rcases w_t4 with ⟨w_t4, y_t4⟩ | ⟨w_t4, wb_t4⟩
    · have z_t4 : m_at t0 < m_ct t0 := lo_ne (Nat.ne_of_gt (show 0 < lo t0 (m_at t0) from by omega))
      have m_n_t4 : n < m_md t4 := by omega
      have g_n_t4 := (x_t4.2.2.1 n m_n_t0).2.1 w_n_t0 g_n_t0
      have w_n_t4 : W5 t4 n := (x_t4.2.2.1 n m_n_t0).1 w_n_t0
      refine Ok_bnc ?_
      try unfold b_X6_exprs
      refine Kp_child C_t4 m_n_t4 g_n_t4 w_n_t4 (by omega) (by omega) (fun t6 C_t6 x_t6 a_t6 b_t6 d_t6 w_t6 u_t6 v_t6 wn_t6 fn_t6 fp_t6 _ l_t6 => ?_)
      have e_t6 := C_t6.2.2.2.1
      have m_n_t6 : n < m_md t6 := by omega
      have g_n_t6 := (x_t6.2.2.1 n m_n_t4).2.1 w_n_t4 g_n_t4
      have w_n_t6 : W5 t6 n := (x_t6.2.2.1 n m_n_t4).1 w_n_t4
      have f_n_t6 : Fz t6 n := fp_t6
      have m_m_mdt4_t6 : m_md t4 < m_md t6 := by omega
      have g_m_mdt4_t6 : GdS t6 (m_md t4) := Or.inl fn_t6
      have w_m_mdt4_t6 : W5 t6 (m_md t4) := by unfold W5; rw [wn_t6]; decide
      have u_m_mdt4_t6 : Up t6 (m_md t4) := Or.inl fn_t6
      clear fp_t6 fn_t6 wn_t6
      refine Kp_push C_t6 (by omega) (fun t7 C_t7 x_t7 a_t7 b_t7 d_t7 w_t7 u_t7 v_t7 _ _ _ l_t7 => ?_)
      have e_t7 := C_t7.2.2.2.1
      have m_n_t7 : n < m_md t7 := by omega
      have g_n_t7 := (x_t7.2.2.1 n m_n_t6).2.1 w_n_t6 g_n_t6
      have w_n_t7 : W5 t7 n := (x_t7.2.2.1 n m_n_t6).1 w_n_t6
      have f_n_t7 : Fz t7 n := (x_t7.2.2.1 n m_n_t6).2.2.1 f_n_t6
      have m_m_mdt4_t7 : m_md t4 < m_md t7 := by omega
      have g_m_mdt4_t7 := (x_t7.2.2.1 (m_md t4) m_m_mdt4_t6).2.1 w_m_mdt4_t6 g_m_mdt4_t6
      have w_m_mdt4_t7 : W5 t7 (m_md t4) := (x_t7.2.2.1 (m_md t4) m_m_mdt4_t6).1 w_m_mdt4_t6
      have u_m_mdt4_t7 := (x_t7.2.2.1 (m_md t4) m_m_mdt4_t6).2.2.2.1 u_m_mdt4_t6
      refine Ok_bnc ?_
      try unfold b_X6_expression
      refine Kp_push C_t7 (by omega) (fun t9 C_t9 x_t9 a_t9 b_t9 d_t9 w_t9 u_t9 v_t9 _ _ _ l_t9 => ?_)
      have e_t9 := C_t9.2.2.2.1
      have m_n_t9 : n < m_md t9 := by omega
      have g_n_t9 := (x_t9.2.2.1 n m_n_t7).2.1 w_n_t7 g_n_t7
      have w_n_t9 : W5 t9 n := (x_t9.2.2.1 n m_n_t7).1 w_n_t7
      have f_n_t9 : Fz t9 n := (x_t9.2.2.1 n m_n_t7).2.2.1 f_n_t7
      have m_m_mdt4_t9 : m_md t4 < m_md t9 := by omega
      have g_m_mdt4_t9 := (x_t9.2.2.1 (m_md t4) m_m_mdt4_t7).2.1 w_m_mdt4_t7 g_m_mdt4_t7
      have w_m_mdt4_t9 : W5 t9 (m_md t4) := (x_t9.2.2.1 (m_md t4) m_m_mdt4_t7).1 w_m_mdt4_t7
      have u_m_mdt4_t9 := (x_t9.2.2.1 (m_md t4) m_m_mdt4_t7).2.2.2.1 u_m_mdt4_t7
      refine Kp_push C_t9 (by omega) (fun t10 C_t10 x_t10 a_t10 b_t10 d_t10 w_t10 u_t10 v_t10 _ _ _ l_t10 => ?_)
      have e_t10 := C_t10.2.2.2.1
      have m_n_t10 : n < m_md t10 := by omega
      have g_n_t10 := (x_t10.2.2.1 n m_n_t9).2.1 w_n_t9 g_n_t9
      have w_n_t10 : W5 t10 n := (x_t10.2.2.1 n m_n_t9).1 w_n_t9
      have f_n_t10 : Fz t10 n := (x_t10.2.2.1 n m_n_t9).2.2.1 f_n_t9
      have m_m_mdt4_t10 : m_md t4 < m_md t10 := by omega
      have g_m_mdt4_t10 := (x_t10.2.2.1 (m_md t4) m_m_mdt4_t9).2.1 w_m_mdt4_t9 g_m_mdt4_t9
      have w_m_mdt4_t10 : W5 t10 (m_md t4) := (x_t10.2.2.1 (m_md t4) m_m_mdt4_t9).1 w_m_mdt4_t9
      have u_m_mdt4_t10 := (x_t10.2.2.1 (m_md t4) m_m_mdt4_t9).2.2.2.1 u_m_mdt4_t9
      refine Ok_ret (show Ok _ _ _ from ?_)
      refine Ok_ret (show Ok _ _ _ from ?_)
      refine Ok_ret (show Ok _ _ _ from ?_)
      refine Ok_ret (show Ok _ _ _ from ?_)
      refine Hv_mk C_t10 hT (by omega) (by omega) (by omega) ?_ ?_ ?_ (by omega) ?_ ?_
      · exact ⟨(Io_n (by decide) (show 0 &&& 1 < 4096 from by omega) m_m_mdt4_t10 g_m_mdt4_t10 w_m_mdt4_t10 (fun q => absurd q (by decide)) (fun q => absurd q (by decide))), (Nd_0 (by decide) Mo_nil), ⟨(Io_2 (by have := or_256 (b := 1) (show (0 &&& 1) < 256 from by omega); omega) (by have := or_256 (b := 1) (show (0 &&& 1) < 256 from by omega); omega) (by have := or_256 (b := 1) (show (0 &&& 1) < 256 from by omega); omega) m_m_mdt4_t10 g_m_mdt4_t10 w_m_mdt4_t10), (Nd_A (by decide) (Mo_cons (fun q => show m_md t4 ≤ m_md t4 from by omega) Mo_nil) (Or.inr ⟨(3, m_md t4, 0 &&& 1), List.mem_cons_self, rfl, Or.inl rfl⟩)), ⟨(Io_n (by decide) (show 0 &&& 1 < 4096 from by omega) m_m_mdt4_t10 g_m_mdt4_t10 w_m_mdt4_t10 (fun q => absurd q (by decide)) (fun q => absurd q (by decide))), (Nd_0 (by decide) (Mo_cons (fun q => show m_md t4 ≤ m_md t4 from by omega) (Mo_cons (fun q => show m_md t4 ≤ m_md t4 from by omega) Mo_nil))), Stk_step (N := n) (pop := (47, n, t)) (new := [(32, m_md t4, 0 &&& 1), (2, m_md t4, (0 &&& 1) ||| (1 * 256)), (3, m_md t4, 0 &&& 1)]) F0 C_t10.1 (fun _ => m_n_t0) (fun q _ h => h (47, n, t) rfl) (fun _ => rfl) (fun y hy hk => ⟨rfl, (Mo_cons (fun q => show n ≤ m_md t4 from by omega) (Mo_cons (fun q => show n ≤ m_md t4 from by omega) (Mo_cons (fun q => show n ≤ m_md t4 from by omega) Mo_nil))) y hy hk⟩) (fun (h : 47 = 3 ∨ 47 = 18 ∨ 47 = 41) => absurd h (by decide)) (fun (h : 47 = 18) => absurd h (by decide)) (fun (h : 47 = 41 ∨ 47 = 42 ∨ 47 = 43) => absurd h (by decide)) r [] (fun y hy => absurd hy List.not_mem_nil) hS⟩⟩⟩
      · exact (Aj_up (x := (3, m_md t4, 0 &&& 1)) (Aj_up (x := (2, m_md t4, (0 &&& 1) ||| (1 * 256))) (Aj_sub (y := (32, m_md t4, 0 &&& 1)) hJ (Nat.le_of_ble_eq_true rfl)) (Or.inr (show 9 - ((0 &&& 1) ||| (1 * 256)) / 256 < 9 from by have := or_256 (b := 1) (show (0 &&& 1) < 256 from by omega); omega))) (Or.inr (show 2 < 9 - ((0 &&& 1) ||| (1 * 256)) / 256 from by have := or_256 (b := 1) (show (0 &&& 1) < 256 from by omega); omega)))
      · show m_dp t10 = (dlt 3 + (dlt 2 + (dlt 32 + sD r)))
        have : dlt 2 = 0 := rfl; have : dlt 3 = 0 := rfl; have : dlt 32 = 0 := rfl; have : dlt 47 = 0 := rfl; omega
      · show m_rw t10 = (rho 3 + (rho 2 + (rho 32 + sR r)))
        have : rho 2 = 0 := rfl; have : rho 3 = 0 := rfl; have : rho 32 = 0 := rfl; have : rho 47 = 0 := rfl; omega
      · show m_md t10 + (mu7 3 + (mu7 2 + (mu7 32 + sM r))) ≤ 3 * m_at t10 + 7 * (r.length + 1 + 1 + 1) + 10
        have : mu7 2 = 7 := rfl; have : mu7 3 = 5 := rfl; have : mu7 32 = 7 := rfl; have : mu7 47 = 7 := rfl; omega
    · have w_t4 := Nat.pos_of_ne_zero w_t4
      have m_n_t4 : n < m_md t4 := by omega
      have g_n_t4 := (x_t4.2.2.1 n m_n_t0).2.1 w_n_t0 g_n_t0
      have w_n_t4 : W5 t4 n := (x_t4.2.2.1 n m_n_t0).1 w_n_t0
      refine Ok_bnc ?_
      try unfold b_X6_exprs
      refine Kp_child C_t4 m_n_t4 g_n_t4 w_n_t4 (by omega) (by omega) (fun t12 C_t12 x_t12 a_t12 b_t12 d_t12 w_t12 u_t12 v_t12 wn_t12 fn_t12 fp_t12 _ l_t12 => ?_)
      have e_t12 := C_t12.2.2.2.1
      have m_n_t12 : n < m_md t12 := by omega
      have g_n_t12 := (x_t12.2.2.1 n m_n_t4).2.1 w_n_t4 g_n_t4
      have w_n_t12 : W5 t12 n := (x_t12.2.2.1 n m_n_t4).1 w_n_t4
      have f_n_t12 : Fz t12 n := fp_t12
      have m_m_mdt4_t12 : m_md t4 < m_md t12 := by omega
      have g_m_mdt4_t12 : GdS t12 (m_md t4) := Or.inl fn_t12
      have w_m_mdt4_t12 : W5 t12 (m_md t4) := by unfold W5; rw [wn_t12]; decide
      have u_m_mdt4_t12 : Up t12 (m_md t4) := Or.inl fn_t12
      clear fp_t12 fn_t12 wn_t12
      refine Kp_push C_t12 (by omega) (fun t13 C_t13 x_t13 a_t13 b_t13 d_t13 w_t13 u_t13 v_t13 _ _ _ l_t13 => ?_)
      have e_t13 := C_t13.2.2.2.1
      have m_n_t13 : n < m_md t13 := by omega
      have g_n_t13 := (x_t13.2.2.1 n m_n_t12).2.1 w_n_t12 g_n_t12
      have w_n_t13 : W5 t13 n := (x_t13.2.2.1 n m_n_t12).1 w_n_t12
      have f_n_t13 : Fz t13 n := (x_t13.2.2.1 n m_n_t12).2.2.1 f_n_t12
      have m_m_mdt4_t13 : m_md t4 < m_md t13 := by omega
      have g_m_mdt4_t13 := (x_t13.2.2.1 (m_md t4) m_m_mdt4_t12).2.1 w_m_mdt4_t12 g_m_mdt4_t12
      have w_m_mdt4_t13 : W5 t13 (m_md t4) := (x_t13.2.2.1 (m_md t4) m_m_mdt4_t12).1 w_m_mdt4_t12
      have u_m_mdt4_t13 := (x_t13.2.2.1 (m_md t4) m_m_mdt4_t12).2.2.2.1 u_m_mdt4_t12
      refine Ok_bnc ?_
      try unfold b_X6_expression
      refine Kp_push C_t13 (by omega) (fun t15 C_t15 x_t15 a_t15 b_t15 d_t15 w_t15 u_t15 v_t15 _ _ _ l_t15 => ?_)
      have e_t15 := C_t15.2.2.2.1
      have m_n_t15 : n < m_md t15 := by omega
      have g_n_t15 := (x_t15.2.2.1 n m_n_t13).2.1 w_n_t13 g_n_t13
      have w_n_t15 : W5 t15 n := (x_t15.2.2.1 n m_n_t13).1 w_n_t13
      have f_n_t15 : Fz t15 n := (x_t15.2.2.1 n m_n_t13).2.2.1 f_n_t13
      have m_m_mdt4_t15 : m_md t4 < m_md t15 := by omega
      have g_m_mdt4_t15 := (x_t15.2.2.1 (m_md t4) m_m_mdt4_t13).2.1 w_m_mdt4_t13 g_m_mdt4_t13
      have w_m_mdt4_t15 : W5 t15 (m_md t4) := (x_t15.2.2.1 (m_md t4) m_m_mdt4_t13).1 w_m_mdt4_t13
      have u_m_mdt4_t15 := (x_t15.2.2.1 (m_md t4) m_m_mdt4_t13).2.2.2.1 u_m_mdt4_t13
      refine Kp_push C_t15 (by omega) (fun t16 C_t16 x_t16 a_t16 b_t16 d_t16 w_t16 u_t16 v_t16 _ _ _ l_t16 => ?_)
      have e_t16 := C_t16.2.2.2.1
      have m_n_t16 : n < m_md t16 := by omega
      have g_n_t16 := (x_t16.2.2.1 n m_n_t15).2.1 w_n_t15 g_n_t15
      have w_n_t16 : W5 t16 n := (x_t16.2.2.1 n m_n_t15).1 w_n_t15
      have f_n_t16 : Fz t16 n := (x_t16.2.2.1 n m_n_t15).2.2.1 f_n_t15
      have m_m_mdt4_t16 : m_md t4 < m_md t16 := by omega
      have g_m_mdt4_t16 := (x_t16.2.2.1 (m_md t4) m_m_mdt4_t15).2.1 w_m_mdt4_t15 g_m_mdt4_t15
      have w_m_mdt4_t16 : W5 t16 (m_md t4) := (x_t16.2.2.1 (m_md t4) m_m_mdt4_t15).1 w_m_mdt4_t15
      have u_m_mdt4_t16 := (x_t16.2.2.1 (m_md t4) m_m_mdt4_t15).2.2.2.1 u_m_mdt4_t15
      refine Ok_ret (show Ok _ _ _ from ?_)
      refine Ok_ret (show Ok _ _ _ from ?_)
      refine Ok_ret (show Ok _ _ _ from ?_)
      refine Ok_ret (show Ok _ _ _ from ?_)
      exact Or.inl ⟨Nat.ne_of_gt (show 0 < m_wr t16 from by omega), by omega⟩
  · refine Ok_ife (show t < 2147483648 from by omega) (by decide) (fun q17 => ?_) (fun q17 => ?_)
    · refine Kp_pass C_t0 hT (by omega) (by decide) (by omega) (fun t18 C_t18 x_t18 a_t18 b_t18 d_t18 w_t18 u_t18 v_t18 _ _ _ l_t18 => ?_)
      have e_t18 := C_t18.2.2.2.1
      rcases w_t18 with ⟨w_t18, y_t18⟩ | ⟨w_t18, wb_t18⟩
      · have z_t18 : m_at t0 < m_ct t0 := lo_ne (Nat.ne_of_gt (show 0 < lo t0 (m_at t0) from by omega))
        have m_n_t18 : n < m_md t18 := by omega
        have g_n_t18 := (x_t18.2.2.1 n m_n_t0).2.1 w_n_t0 g_n_t0
        have w_n_t18 : W5 t18 n := (x_t18.2.2.1 n m_n_t0).1 w_n_t0
        refine Ok_bnc ?_
        try unfold b_X6_exprs
        refine Kp_child C_t18 m_n_t18 g_n_t18 w_n_t18 (by omega) (by omega) (fun t20 C_t20 x_t20 a_t20 b_t20 d_t20 w_t20 u_t20 v_t20 wn_t20 fn_t20 fp_t20 _ l_t20 => ?_)
        have e_t20 := C_t20.2.2.2.1
        have m_n_t20 : n < m_md t20 := by omega
        have g_n_t20 := (x_t20.2.2.1 n m_n_t18).2.1 w_n_t18 g_n_t18
        have w_n_t20 : W5 t20 n := (x_t20.2.2.1 n m_n_t18).1 w_n_t18
        have f_n_t20 : Fz t20 n := fp_t20
        have m_m_mdt18_t20 : m_md t18 < m_md t20 := by omega
        have g_m_mdt18_t20 : GdS t20 (m_md t18) := Or.inl fn_t20
        have w_m_mdt18_t20 : W5 t20 (m_md t18) := by unfold W5; rw [wn_t20]; decide
        have u_m_mdt18_t20 : Up t20 (m_md t18) := Or.inl fn_t20
        clear fp_t20 fn_t20 wn_t20
        refine Kp_push C_t20 (by omega) (fun t21 C_t21 x_t21 a_t21 b_t21 d_t21 w_t21 u_t21 v_t21 _ _ _ l_t21 => ?_)
        have e_t21 := C_t21.2.2.2.1
        have m_n_t21 : n < m_md t21 := by omega
        have g_n_t21 := (x_t21.2.2.1 n m_n_t20).2.1 w_n_t20 g_n_t20
        have w_n_t21 : W5 t21 n := (x_t21.2.2.1 n m_n_t20).1 w_n_t20
        have f_n_t21 : Fz t21 n := (x_t21.2.2.1 n m_n_t20).2.2.1 f_n_t20
        have m_m_mdt18_t21 : m_md t18 < m_md t21 := by omega
        have g_m_mdt18_t21 := (x_t21.2.2.1 (m_md t18) m_m_mdt18_t20).2.1 w_m_mdt18_t20 g_m_mdt18_t20
        have w_m_mdt18_t21 : W5 t21 (m_md t18) := (x_t21.2.2.1 (m_md t18) m_m_mdt18_t20).1 w_m_mdt18_t20
        have u_m_mdt18_t21 := (x_t21.2.2.1 (m_md t18) m_m_mdt18_t20).2.2.2.1 u_m_mdt18_t20
        refine Ok_bnc ?_
        try unfold b_X6_expression
        refine Kp_push C_t21 (by omega) (fun t23 C_t23 x_t23 a_t23 b_t23 d_t23 w_t23 u_t23 v_t23 _ _ _ l_t23 => ?_)
        have e_t23 := C_t23.2.2.2.1
        have m_n_t23 : n < m_md t23 := by omega
        have g_n_t23 := (x_t23.2.2.1 n m_n_t21).2.1 w_n_t21 g_n_t21
        have w_n_t23 : W5 t23 n := (x_t23.2.2.1 n m_n_t21).1 w_n_t21
        have f_n_t23 : Fz t23 n := (x_t23.2.2.1 n m_n_t21).2.2.1 f_n_t21
        have m_m_mdt18_t23 : m_md t18 < m_md t23 := by omega
        have g_m_mdt18_t23 := (x_t23.2.2.1 (m_md t18) m_m_mdt18_t21).2.1 w_m_mdt18_t21 g_m_mdt18_t21
        have w_m_mdt18_t23 : W5 t23 (m_md t18) := (x_t23.2.2.1 (m_md t18) m_m_mdt18_t21).1 w_m_mdt18_t21
        have u_m_mdt18_t23 := (x_t23.2.2.1 (m_md t18) m_m_mdt18_t21).2.2.2.1 u_m_mdt18_t21
        refine Kp_push C_t23 (by omega) (fun t24 C_t24 x_t24 a_t24 b_t24 d_t24 w_t24 u_t24 v_t24 _ _ _ l_t24 => ?_)
        have e_t24 := C_t24.2.2.2.1
        have m_n_t24 : n < m_md t24 := by omega
        have g_n_t24 := (x_t24.2.2.1 n m_n_t23).2.1 w_n_t23 g_n_t23
        have w_n_t24 : W5 t24 n := (x_t24.2.2.1 n m_n_t23).1 w_n_t23
        have f_n_t24 : Fz t24 n := (x_t24.2.2.1 n m_n_t23).2.2.1 f_n_t23
        have m_m_mdt18_t24 : m_md t18 < m_md t24 := by omega
        have g_m_mdt18_t24 := (x_t24.2.2.1 (m_md t18) m_m_mdt18_t23).2.1 w_m_mdt18_t23 g_m_mdt18_t23
        have w_m_mdt18_t24 : W5 t24 (m_md t18) := (x_t24.2.2.1 (m_md t18) m_m_mdt18_t23).1 w_m_mdt18_t23
        have u_m_mdt18_t24 := (x_t24.2.2.1 (m_md t18) m_m_mdt18_t23).2.2.2.1 u_m_mdt18_t23
        refine Ok_ret (show Ok _ _ _ from ?_)
        refine Ok_ret (show Ok _ _ _ from ?_)
        refine Ok_ret (show Ok _ _ _ from ?_)
        refine Ok_ret (show Ok _ _ _ from ?_)
        refine Hv_mk C_t24 hT (by omega) (by omega) (by omega) ?_ ?_ ?_ (by omega) ?_ ?_
        · exact ⟨(Io_n (by decide) (show 0 &&& 1 < 4096 from by omega) m_m_mdt18_t24 g_m_mdt18_t24 w_m_mdt18_t24 (fun q => absurd q (by decide)) (fun q => absurd q (by decide))), (Nd_0 (by decide) Mo_nil), ⟨(Io_2 (by have := or_256 (b := 1) (show (0 &&& 1) < 256 from by omega); omega) (by have := or_256 (b := 1) (show (0 &&& 1) < 256 from by omega); omega) (by have := or_256 (b := 1) (show (0 &&& 1) < 256 from by omega); omega) m_m_mdt18_t24 g_m_mdt18_t24 w_m_mdt18_t24), (Nd_A (by decide) (Mo_cons (fun q => show m_md t18 ≤ m_md t18 from by omega) Mo_nil) (Or.inr ⟨(3, m_md t18, 0 &&& 1), List.mem_cons_self, rfl, Or.inl rfl⟩)), ⟨(Io_n (by decide) (show 0 &&& 1 < 4096 from by omega) m_m_mdt18_t24 g_m_mdt18_t24 w_m_mdt18_t24 (fun q => absurd q (by decide)) (fun q => absurd q (by decide))), (Nd_0 (by decide) (Mo_cons (fun q => show m_md t18 ≤ m_md t18 from by omega) (Mo_cons (fun q => show m_md t18 ≤ m_md t18 from by omega) Mo_nil))), Stk_step (N := n) (pop := (47, n, t)) (new := [(32, m_md t18, 0 &&& 1), (2, m_md t18, (0 &&& 1) ||| (1 * 256)), (3, m_md t18, 0 &&& 1)]) F0 C_t24.1 (fun _ => m_n_t0) (fun q _ h => h (47, n, t) rfl) (fun _ => rfl) (fun y hy hk => ⟨rfl, (Mo_cons (fun q => show n ≤ m_md t18 from by omega) (Mo_cons (fun q => show n ≤ m_md t18 from by omega) (Mo_cons (fun q => show n ≤ m_md t18 from by omega) Mo_nil))) y hy hk⟩) (fun (h : 47 = 3 ∨ 47 = 18 ∨ 47 = 41) => absurd h (by decide)) (fun (h : 47 = 18) => absurd h (by decide)) (fun (h : 47 = 41 ∨ 47 = 42 ∨ 47 = 43) => absurd h (by decide)) r [] (fun y hy => absurd hy List.not_mem_nil) hS⟩⟩⟩
        · exact (Aj_up (x := (3, m_md t18, 0 &&& 1)) (Aj_up (x := (2, m_md t18, (0 &&& 1) ||| (1 * 256))) (Aj_sub (y := (32, m_md t18, 0 &&& 1)) hJ (Nat.le_of_ble_eq_true rfl)) (Or.inr (show 9 - ((0 &&& 1) ||| (1 * 256)) / 256 < 9 from by have := or_256 (b := 1) (show (0 &&& 1) < 256 from by omega); omega))) (Or.inr (show 2 < 9 - ((0 &&& 1) ||| (1 * 256)) / 256 from by have := or_256 (b := 1) (show (0 &&& 1) < 256 from by omega); omega)))
        · show m_dp t24 = (dlt 3 + (dlt 2 + (dlt 32 + sD r)))
          have : dlt 2 = 0 := rfl; have : dlt 3 = 0 := rfl; have : dlt 32 = 0 := rfl; have : dlt 47 = 0 := rfl; omega
        · show m_rw t24 = (rho 3 + (rho 2 + (rho 32 + sR r)))
          have : rho 2 = 0 := rfl; have : rho 3 = 0 := rfl; have : rho 32 = 0 := rfl; have : rho 47 = 0 := rfl; omega
        · show m_md t24 + (mu7 3 + (mu7 2 + (mu7 32 + sM r))) ≤ 3 * m_at t24 + 7 * (r.length + 1 + 1 + 1) + 10
          have : mu7 2 = 7 := rfl; have : mu7 3 = 5 := rfl; have : mu7 32 = 7 := rfl; have : mu7 47 = 7 := rfl; omega
      · have w_t18 := Nat.pos_of_ne_zero w_t18
        have m_n_t18 : n < m_md t18 := by omega
        have g_n_t18 := (x_t18.2.2.1 n m_n_t0).2.1 w_n_t0 g_n_t0
        have w_n_t18 : W5 t18 n := (x_t18.2.2.1 n m_n_t0).1 w_n_t0
        refine Ok_bnc ?_
        try unfold b_X6_exprs
        refine Kp_child C_t18 m_n_t18 g_n_t18 w_n_t18 (by omega) (by omega) (fun t26 C_t26 x_t26 a_t26 b_t26 d_t26 w_t26 u_t26 v_t26 wn_t26 fn_t26 fp_t26 _ l_t26 => ?_)
        have e_t26 := C_t26.2.2.2.1
        have m_n_t26 : n < m_md t26 := by omega
        have g_n_t26 := (x_t26.2.2.1 n m_n_t18).2.1 w_n_t18 g_n_t18
        have w_n_t26 : W5 t26 n := (x_t26.2.2.1 n m_n_t18).1 w_n_t18
        have f_n_t26 : Fz t26 n := fp_t26
        have m_m_mdt18_t26 : m_md t18 < m_md t26 := by omega
        have g_m_mdt18_t26 : GdS t26 (m_md t18) := Or.inl fn_t26
        have w_m_mdt18_t26 : W5 t26 (m_md t18) := by unfold W5; rw [wn_t26]; decide
        have u_m_mdt18_t26 : Up t26 (m_md t18) := Or.inl fn_t26
        clear fp_t26 fn_t26 wn_t26
        refine Kp_push C_t26 (by omega) (fun t27 C_t27 x_t27 a_t27 b_t27 d_t27 w_t27 u_t27 v_t27 _ _ _ l_t27 => ?_)
        have e_t27 := C_t27.2.2.2.1
        have m_n_t27 : n < m_md t27 := by omega
        have g_n_t27 := (x_t27.2.2.1 n m_n_t26).2.1 w_n_t26 g_n_t26
        have w_n_t27 : W5 t27 n := (x_t27.2.2.1 n m_n_t26).1 w_n_t26
        have f_n_t27 : Fz t27 n := (x_t27.2.2.1 n m_n_t26).2.2.1 f_n_t26
        have m_m_mdt18_t27 : m_md t18 < m_md t27 := by omega
        have g_m_mdt18_t27 := (x_t27.2.2.1 (m_md t18) m_m_mdt18_t26).2.1 w_m_mdt18_t26 g_m_mdt18_t26
        have w_m_mdt18_t27 : W5 t27 (m_md t18) := (x_t27.2.2.1 (m_md t18) m_m_mdt18_t26).1 w_m_mdt18_t26
        have u_m_mdt18_t27 := (x_t27.2.2.1 (m_md t18) m_m_mdt18_t26).2.2.2.1 u_m_mdt18_t26
        refine Ok_bnc ?_
        try unfold b_X6_expression
        refine Kp_push C_t27 (by omega) (fun t29 C_t29 x_t29 a_t29 b_t29 d_t29 w_t29 u_t29 v_t29 _ _ _ l_t29 => ?_)
        have e_t29 := C_t29.2.2.2.1
        have m_n_t29 : n < m_md t29 := by omega
        have g_n_t29 := (x_t29.2.2.1 n m_n_t27).2.1 w_n_t27 g_n_t27
        have w_n_t29 : W5 t29 n := (x_t29.2.2.1 n m_n_t27).1 w_n_t27
        have f_n_t29 : Fz t29 n := (x_t29.2.2.1 n m_n_t27).2.2.1 f_n_t27
        have m_m_mdt18_t29 : m_md t18 < m_md t29 := by omega
        have g_m_mdt18_t29 := (x_t29.2.2.1 (m_md t18) m_m_mdt18_t27).2.1 w_m_mdt18_t27 g_m_mdt18_t27
        have w_m_mdt18_t29 : W5 t29 (m_md t18) := (x_t29.2.2.1 (m_md t18) m_m_mdt18_t27).1 w_m_mdt18_t27
        have u_m_mdt18_t29 := (x_t29.2.2.1 (m_md t18) m_m_mdt18_t27).2.2.2.1 u_m_mdt18_t27
        refine Kp_push C_t29 (by omega) (fun t30 C_t30 x_t30 a_t30 b_t30 d_t30 w_t30 u_t30 v_t30 _ _ _ l_t30 => ?_)
        have e_t30 := C_t30.2.2.2.1
        have m_n_t30 : n < m_md t30 := by omega
        have g_n_t30 := (x_t30.2.2.1 n m_n_t29).2.1 w_n_t29 g_n_t29
        have w_n_t30 : W5 t30 n := (x_t30.2.2.1 n m_n_t29).1 w_n_t29
        have f_n_t30 : Fz t30 n := (x_t30.2.2.1 n m_n_t29).2.2.1 f_n_t29
        have m_m_mdt18_t30 : m_md t18 < m_md t30 := by omega
        have g_m_mdt18_t30 := (x_t30.2.2.1 (m_md t18) m_m_mdt18_t29).2.1 w_m_mdt18_t29 g_m_mdt18_t29
        have w_m_mdt18_t30 : W5 t30 (m_md t18) := (x_t30.2.2.1 (m_md t18) m_m_mdt18_t29).1 w_m_mdt18_t29
        have u_m_mdt18_t30 := (x_t30.2.2.1 (m_md t18) m_m_mdt18_t29).2.2.2.1 u_m_mdt18_t29
        refine Ok_ret (show Ok _ _ _ from ?_)
        refine Ok_ret (show Ok _ _ _ from ?_)
        refine Ok_ret (show Ok _ _ _ from ?_)
        refine Ok_ret (show Ok _ _ _ from ?_)
        exact Or.inl ⟨Nat.ne_of_gt (show 0 < m_wr t30 from by omega), by omega⟩
    · refine Ok_ret (show Ok _ _ _ from ?_)
      refine Ok_ret (show Ok _ _ _ from ?_)
      refine Hv_mk C_t0 hT (by omega) (by omega) (by omega) ?_ ?_ ?_ (by omega) ?_ ?_
      · exact Stk_step (N := n) (pop := (47, n, t)) (new := []) F0 C_t0.1 (fun _ => m_n_t0) (fun q _ h => h (47, n, t) rfl) (fun _ => rfl) (fun y hy hk => ⟨rfl, Mo_nil (n := n) y hy hk⟩) (fun (h : 47 = 3 ∨ 47 = 18 ∨ 47 = 41) => absurd h (by decide)) (fun (h : 47 = 18) => absurd h (by decide)) (fun (h : 47 = 41 ∨ 47 = 42 ∨ 47 = 43) => absurd h (by decide)) r [] (fun y hy => absurd hy List.not_mem_nil) hS
      · exact Aj_tl hJ
      · show m_dp t0 = sD r
        have : dlt 47 = 0 := rfl; omega
      · show m_rw t0 = sR r
        have : rho 47 = 0 := rfl; omega
      · show m_md t0 + sM r ≤ 3 * m_at t0 + 7 * (r.length) + 10
        have : mu7 47 = 7 := rfl; omega

theorem S_51 {s : Mm} {n t : Nat} {r : List It} (H : Hv s ((51, n, t) :: r)) {E : Mm → Prop} : Ok Qh E (b_X6_step 51 n t (w_td s (m_td s - 1))) := by
  obtain ⟨hT, hc, hw0, ha, hC, hS, hJ, hdp, hdl, hrw, hmd, htd, hln, hm16, hI, hD⟩ := Hv_pop H
  have C_t0 := hC n
  generalize ht0 : w_td s (m_td s - 1) = t0 at *
  have b_t0 : m_md t0 = m_md s := by rw [← ht0]
  have a_t0 : m_at t0 = m_at s := by rw [← ht0]
  have d_t0 : m_dp t0 = m_dp s := by rw [← ht0]
  have w_t0 : m_wr t0 = m_wr s := by rw [← ht0]
  have u_t0 : m_rw t0 = m_rw s := by rw [← ht0]
  have v_t0 : m_td t0 = m_td s - 1 := by rw [← ht0]
  have e_t0 : m_ct t0 = m_ct s := by rw [← ht0]
  have F0 := C_t0.2.1
  obtain ⟨m_n_t0, g_n_t0, w_n_t0⟩ : n < m_md t0 ∧ GdS t0 n ∧ W5 t0 n := hI.2.1 rfl
  have ht : t < 4096 := hI.1.1 (show 51 ≠ 42 by decide) (show 51 ≠ 48 by decide)
  have hdp : m_dp s = dlt 51 + sD r := hdp
  have hrw : m_rw s = rho 51 + sR r := hrw
  have hmd : m_md s + mu7 51 + sM r ≤ 3 * m_at s + 7 * r.length + 17 := hmd
  have hand : t &&& 1 ≤ 1 := Nat.and_le_right
  have h01 : (0 &&& 1 : Nat) = 0 := rfl
  have h02 : (1 : Nat) * 256 = 256 := rfl
  have hq1 : dlt 51 = 1 := rfl
  have hq2 : rho 51 = 0 := rfl
  have hq3 : mu7 51 = 4 := rfl
  unfold b_X6_step
  refine Ok_ifl (by decide) (by decide) (fun _ => ?_) (fun q => absurd (by decide) q)
  refine Ok_ifl (by decide) (by decide) (fun q => absurd q (by decide)) (fun _ => ?_)
  refine Ok_ifl (by decide) (by decide) (fun q => absurd q (by decide)) (fun _ => ?_)
  refine Ok_ifl (by decide) (by decide) (fun q => absurd q (by decide)) (fun _ => ?_)
  refine Ok_bnc ?_
  try unfold b_X6_stating
  refine Ok_ck (by decide) ?_
  refine Ok_ife (by decide) (by decide) (fun q => absurd q (by decide)) (fun _ => ?_)
  refine Ok_ife (by decide) (by decide) (fun q => absurd q (by decide)) (fun _ => ?_)
  refine Ok_ife (by decide) (by decide) (fun q => absurd q (by decide)) (fun _ => ?_)
  refine Ok_ife (by decide) (by decide) (fun q => absurd q (by decide)) (fun _ => ?_)
  refine Ok_ife (by decide) (by decide) (fun q => absurd q (by decide)) (fun _ => ?_)
  refine Ok_ife (by decide) (by decide) (fun q => absurd q (by decide)) (fun _ => ?_)
  refine Ok_ife (by decide) (by decide) (fun q => absurd q (by decide)) (fun _ => ?_)
  refine Ok_ife (by decide) (by decide) (fun q => absurd q (by decide)) (fun _ => ?_)
  refine Ok_ife (by decide) (by decide) (fun q => absurd q (by decide)) (fun _ => ?_)
  refine Ok_ife (by decide) (by decide) (fun q => absurd q (by decide)) (fun _ => ?_)
  refine Ok_ife (by decide) (by decide) (fun _ => ?_) (fun q => absurd (by decide) q)
  refine Ok_bnc ?_
  try unfold b_X6_clauses
  refine Kp_look C_t0 hT (by omega) ?_
  refine Ok_ife (Nat.lt_trans (lo_lt (C_t0.tk hT) _) (by decide)) (by decide) (fun q3 => ?_) (fun q3 => ?_)
  · have z_t4 : m_at t0 < m_ct t0 := lo_ne (Nat.ne_of_gt (show 0 < lo t0 (m_at t0) from by omega))
    refine Kp_at C_t0 (fun t4 C_t4 x_t4 a_t4 b_t4 d_t4 w_t4 u_t4 v_t4 _ _ _ l_t4 => ?_)
    have e_t4 := C_t4.2.2.2.1
    have m_n_t4 : n < m_md t4 := by omega
    have g_n_t4 := (x_t4.2.2.1 n m_n_t0).2.1 w_n_t0 g_n_t0
    have w_n_t4 : W5 t4 n := (x_t4.2.2.1 n m_n_t0).1 w_n_t0
    refine Ok_ck (show (m_dp t4) ≠ 0 from by omega) ?_
    refine Kp_dp C_t4 (fun t5 C_t5 x_t5 a_t5 b_t5 d_t5 w_t5 u_t5 v_t5 _ _ _ l_t5 => ?_)
    have e_t5 := C_t5.2.2.2.1
    have m_n_t5 : n < m_md t5 := by omega
    have g_n_t5 := (x_t5.2.2.1 n m_n_t4).2.1 w_n_t4 g_n_t4
    have w_n_t5 : W5 t5 n := (x_t5.2.2.1 n m_n_t4).1 w_n_t4
    refine Ok_ret (show Ok _ _ _ from ?_)
    refine Ok_ret (show Ok _ _ _ from ?_)
    refine Hv_mk C_t5 hT (by omega) (by omega) (by omega) ?_ ?_ ?_ (by omega) ?_ ?_
    · exact Stk_step (N := n) (pop := (51, n, t)) (new := []) F0 C_t5.1 (fun _ => m_n_t0) (fun q _ h => h (51, n, t) rfl) (fun _ => rfl) (fun y hy hk => ⟨rfl, Mo_nil (n := n) y hy hk⟩) (fun (h : 51 = 3 ∨ 51 = 18 ∨ 51 = 41) => absurd h (by decide)) (fun (h : 51 = 18) => absurd h (by decide)) (fun (h : 51 = 41 ∨ 51 = 42 ∨ 51 = 43) => absurd h (by decide)) r [] (fun y hy => absurd hy List.not_mem_nil) hS
    · exact Aj_tl hJ
    · show m_dp t5 = sD r
      have : dlt 51 = 1 := rfl; omega
    · show m_rw t5 = sR r
      have : rho 51 = 0 := rfl; omega
    · show m_md t5 + sM r ≤ 3 * m_at t5 + 7 * (r.length) + 10
      have : mu7 51 = 4 := rfl; omega
  · refine Ok_ife (Nat.lt_trans (lo_lt (C_t0.tk hT) _) (by decide)) (by decide) (fun q6 => ?_) (fun q6 => ?_)
    · refine Ok_ife (show t < 2147483648 from by omega) (by decide) (fun q7 => ?_) (fun q7 => ?_)
      · refine Ok_ife (Nat.lt_trans (lo_lt (C_t0.tk hT) _) (by decide)) (by decide) (fun q8 => ?_) (fun q8 => ?_)
        · refine Kp_child C_t0 m_n_t0 g_n_t0 w_n_t0 (by omega) (by omega) (fun t9 C_t9 x_t9 a_t9 b_t9 d_t9 w_t9 u_t9 v_t9 wn_t9 fn_t9 fp_t9 _ l_t9 => ?_)
          have e_t9 := C_t9.2.2.2.1
          have m_n_t9 : n < m_md t9 := by omega
          have g_n_t9 := (x_t9.2.2.1 n m_n_t0).2.1 w_n_t0 g_n_t0
          have w_n_t9 : W5 t9 n := (x_t9.2.2.1 n m_n_t0).1 w_n_t0
          have f_n_t9 : Fz t9 n := fp_t9
          have m_m_mdt0_t9 : m_md t0 < m_md t9 := by omega
          have g_m_mdt0_t9 : GdS t9 (m_md t0) := Or.inl fn_t9
          have w_m_mdt0_t9 : W5 t9 (m_md t0) := by unfold W5; rw [wn_t9]; decide
          have u_m_mdt0_t9 : Up t9 (m_md t0) := Or.inl fn_t9
          clear fp_t9 fn_t9 wn_t9
          have z_t10 : m_at t9 < m_ct t9 := lo_ne (Nat.ne_of_gt (show 0 < lo t9 (m_at t9) from by omega))
          refine Kp_at C_t9 (fun t10 C_t10 x_t10 a_t10 b_t10 d_t10 w_t10 u_t10 v_t10 _ _ _ l_t10 => ?_)
          have e_t10 := C_t10.2.2.2.1
          have m_n_t10 : n < m_md t10 := by omega
          have g_n_t10 := (x_t10.2.2.1 n m_n_t9).2.1 w_n_t9 g_n_t9
          have w_n_t10 : W5 t10 n := (x_t10.2.2.1 n m_n_t9).1 w_n_t9
          have f_n_t10 : Fz t10 n := (x_t10.2.2.1 n m_n_t9).2.2.1 f_n_t9
          have m_m_mdt0_t10 : m_md t0 < m_md t10 := by omega
          have g_m_mdt0_t10 := (x_t10.2.2.1 (m_md t0) m_m_mdt0_t9).2.1 w_m_mdt0_t9 g_m_mdt0_t9
          have w_m_mdt0_t10 : W5 t10 (m_md t0) := (x_t10.2.2.1 (m_md t0) m_m_mdt0_t9).1 w_m_mdt0_t9
          have u_m_mdt0_t10 := (x_t10.2.2.1 (m_md t0) m_m_mdt0_t9).2.2.2.1 u_m_mdt0_t9
          refine Kp_push C_t10 (by omega) (fun t11 C_t11 x_t11 a_t11 b_t11 d_t11 w_t11 u_t11 v_t11 _ _ _ l_t11 => ?_)
          have e_t11 := C_t11.2.2.2.1
          have m_n_t11 : n < m_md t11 := by omega
          have g_n_t11 := (x_t11.2.2.1 n m_n_t10).2.1 w_n_t10 g_n_t10
          have w_n_t11 : W5 t11 n := (x_t11.2.2.1 n m_n_t10).1 w_n_t10
          have f_n_t11 : Fz t11 n := (x_t11.2.2.1 n m_n_t10).2.2.1 f_n_t10
          have m_m_mdt0_t11 : m_md t0 < m_md t11 := by omega
          have g_m_mdt0_t11 := (x_t11.2.2.1 (m_md t0) m_m_mdt0_t10).2.1 w_m_mdt0_t10 g_m_mdt0_t10
          have w_m_mdt0_t11 : W5 t11 (m_md t0) := (x_t11.2.2.1 (m_md t0) m_m_mdt0_t10).1 w_m_mdt0_t10
          have u_m_mdt0_t11 := (x_t11.2.2.1 (m_md t0) m_m_mdt0_t10).2.2.2.1 u_m_mdt0_t10
          refine Kp_push C_t11 (by omega) (fun t12 C_t12 x_t12 a_t12 b_t12 d_t12 w_t12 u_t12 v_t12 _ _ _ l_t12 => ?_)
          have e_t12 := C_t12.2.2.2.1
          have m_n_t12 : n < m_md t12 := by omega
          have g_n_t12 := (x_t12.2.2.1 n m_n_t11).2.1 w_n_t11 g_n_t11
          have w_n_t12 : W5 t12 n := (x_t12.2.2.1 n m_n_t11).1 w_n_t11
          have f_n_t12 : Fz t12 n := (x_t12.2.2.1 n m_n_t11).2.2.1 f_n_t11
          have m_m_mdt0_t12 : m_md t0 < m_md t12 := by omega
          have g_m_mdt0_t12 := (x_t12.2.2.1 (m_md t0) m_m_mdt0_t11).2.1 w_m_mdt0_t11 g_m_mdt0_t11
          have w_m_mdt0_t12 : W5 t12 (m_md t0) := (x_t12.2.2.1 (m_md t0) m_m_mdt0_t11).1 w_m_mdt0_t11
          have u_m_mdt0_t12 := (x_t12.2.2.1 (m_md t0) m_m_mdt0_t11).2.2.2.1 u_m_mdt0_t11
          refine Ok_ife (Nat.lt_trans (lo_lt (C_t0.tk hT) _) (by decide)) (by decide) (fun q13 => ?_) (fun q13 => ?_)
          · refine Ok_ret (show Ok _ _ _ from ?_)
            refine Ok_ret (show Ok _ _ _ from ?_)
            refine Hv_mk C_t12 hT (by omega) (by omega) (by omega) ?_ ?_ ?_ (by omega) ?_ ?_
            · exact ⟨(Io_n (by decide) (by decide) m_m_mdt0_t12 g_m_mdt0_t12 w_m_mdt0_t12 (fun q => absurd q (by decide)) (fun q => absurd q (by decide))), (Nd_0 (by decide) Mo_nil), ⟨(Io_n (by decide) (show t < 4096 from by omega) m_n_t12 g_n_t12 w_n_t12 (fun q => absurd q (by decide)) (fun q => absurd q (by decide))), (Nd_0 (by decide) (Mo_cons (fun q => show n ≤ m_md t0 from by omega) Mo_nil)), Stk_step (N := n) (pop := (51, n, t)) (new := [(51, n, t), (52, m_md t0, 0)]) F0 C_t12.1 (fun _ => m_n_t0) (fun q _ h => h (51, n, t) rfl) (fun _ => rfl) (fun y hy hk => ⟨rfl, (Mo_cons (fun q => show n ≤ n from by omega) (Mo_cons (fun q => show n ≤ m_md t0 from by omega) Mo_nil)) y hy hk⟩) (fun (h : 51 = 3 ∨ 51 = 18 ∨ 51 = 41) => absurd h (by decide)) (fun (h : 51 = 18) => absurd h (by decide)) (fun (h : 51 = 41 ∨ 51 = 42 ∨ 51 = 43) => absurd h (by decide)) r [] (fun y hy => absurd hy List.not_mem_nil) hS⟩⟩
            · exact (Aj_up (x := (52, m_md t0, 0)) (Aj_sub (y := (51, n, t)) hJ (Nat.le_of_ble_eq_true rfl)) (Or.inl (Nat.le_of_ble_eq_true rfl)))
            · show m_dp t12 = (dlt 52 + (dlt 51 + sD r))
              have : dlt 51 = 1 := rfl; have : dlt 52 = 0 := rfl; omega
            · show m_rw t12 = (rho 52 + (rho 51 + sR r))
              have : rho 51 = 0 := rfl; have : rho 52 = 0 := rfl; omega
            · show m_md t12 + (mu7 52 + (mu7 51 + sM r)) ≤ 3 * m_at t12 + 7 * (r.length + 1 + 1) + 10
              have : mu7 51 = 4 := rfl; have : mu7 52 = 5 := rfl; omega
          · refine Ok_ifz (show t < 2147483648 from by omega) (fun q14 => ?_) (fun q14 => ?_)
            · refine Ok_bnc ?_
              try unfold b_X6_exprs
              refine Kp_child C_t12 m_m_mdt0_t12 g_m_mdt0_t12 w_m_mdt0_t12 (by omega) (by omega) (fun t16 C_t16 x_t16 a_t16 b_t16 d_t16 w_t16 u_t16 v_t16 wn_t16 fn_t16 fp_t16 _ l_t16 => ?_)
              have e_t16 := C_t16.2.2.2.1
              have m_n_t16 : n < m_md t16 := by omega
              have g_n_t16 := (x_t16.2.2.1 n m_n_t12).2.1 w_n_t12 g_n_t12
              have w_n_t16 : W5 t16 n := (x_t16.2.2.1 n m_n_t12).1 w_n_t12
              have f_n_t16 : Fz t16 n := (x_t16.2.2.1 n m_n_t12).2.2.1 f_n_t12
              have m_m_mdt0_t16 : m_md t0 < m_md t16 := by omega
              have g_m_mdt0_t16 := (x_t16.2.2.1 (m_md t0) m_m_mdt0_t12).2.1 w_m_mdt0_t12 g_m_mdt0_t12
              have w_m_mdt0_t16 : W5 t16 (m_md t0) := (x_t16.2.2.1 (m_md t0) m_m_mdt0_t12).1 w_m_mdt0_t12
              have u_m_mdt0_t16 := (x_t16.2.2.1 (m_md t0) m_m_mdt0_t12).2.2.2.1 u_m_mdt0_t12
              have f_m_mdt0_t16 : Fz t16 (m_md t0) := fp_t16
              have m_m_mdt12_t16 : m_md t12 < m_md t16 := by omega
              have g_m_mdt12_t16 : GdS t16 (m_md t12) := Or.inl fn_t16
              have w_m_mdt12_t16 : W5 t16 (m_md t12) := by unfold W5; rw [wn_t16]; decide
              have u_m_mdt12_t16 : Up t16 (m_md t12) := Or.inl fn_t16
              clear fp_t16 fn_t16 wn_t16
              refine Kp_push C_t16 (by omega) (fun t17 C_t17 x_t17 a_t17 b_t17 d_t17 w_t17 u_t17 v_t17 _ _ _ l_t17 => ?_)
              have e_t17 := C_t17.2.2.2.1
              have m_n_t17 : n < m_md t17 := by omega
              have g_n_t17 := (x_t17.2.2.1 n m_n_t16).2.1 w_n_t16 g_n_t16
              have w_n_t17 : W5 t17 n := (x_t17.2.2.1 n m_n_t16).1 w_n_t16
              have f_n_t17 : Fz t17 n := (x_t17.2.2.1 n m_n_t16).2.2.1 f_n_t16
              have m_m_mdt0_t17 : m_md t0 < m_md t17 := by omega
              have g_m_mdt0_t17 := (x_t17.2.2.1 (m_md t0) m_m_mdt0_t16).2.1 w_m_mdt0_t16 g_m_mdt0_t16
              have w_m_mdt0_t17 : W5 t17 (m_md t0) := (x_t17.2.2.1 (m_md t0) m_m_mdt0_t16).1 w_m_mdt0_t16
              have f_m_mdt0_t17 : Fz t17 (m_md t0) := (x_t17.2.2.1 (m_md t0) m_m_mdt0_t16).2.2.1 f_m_mdt0_t16
              have u_m_mdt0_t17 := (x_t17.2.2.1 (m_md t0) m_m_mdt0_t16).2.2.2.1 u_m_mdt0_t16
              have m_m_mdt12_t17 : m_md t12 < m_md t17 := by omega
              have g_m_mdt12_t17 := (x_t17.2.2.1 (m_md t12) m_m_mdt12_t16).2.1 w_m_mdt12_t16 g_m_mdt12_t16
              have w_m_mdt12_t17 : W5 t17 (m_md t12) := (x_t17.2.2.1 (m_md t12) m_m_mdt12_t16).1 w_m_mdt12_t16
              have u_m_mdt12_t17 := (x_t17.2.2.1 (m_md t12) m_m_mdt12_t16).2.2.2.1 u_m_mdt12_t16
              refine Ok_bnc ?_
              try unfold b_X6_expression
              refine Kp_push C_t17 (by omega) (fun t19 C_t19 x_t19 a_t19 b_t19 d_t19 w_t19 u_t19 v_t19 _ _ _ l_t19 => ?_)
              have e_t19 := C_t19.2.2.2.1
              have m_n_t19 : n < m_md t19 := by omega
              have g_n_t19 := (x_t19.2.2.1 n m_n_t17).2.1 w_n_t17 g_n_t17
              have w_n_t19 : W5 t19 n := (x_t19.2.2.1 n m_n_t17).1 w_n_t17
              have f_n_t19 : Fz t19 n := (x_t19.2.2.1 n m_n_t17).2.2.1 f_n_t17
              have m_m_mdt0_t19 : m_md t0 < m_md t19 := by omega
              have g_m_mdt0_t19 := (x_t19.2.2.1 (m_md t0) m_m_mdt0_t17).2.1 w_m_mdt0_t17 g_m_mdt0_t17
              have w_m_mdt0_t19 : W5 t19 (m_md t0) := (x_t19.2.2.1 (m_md t0) m_m_mdt0_t17).1 w_m_mdt0_t17
              have f_m_mdt0_t19 : Fz t19 (m_md t0) := (x_t19.2.2.1 (m_md t0) m_m_mdt0_t17).2.2.1 f_m_mdt0_t17
              have u_m_mdt0_t19 := (x_t19.2.2.1 (m_md t0) m_m_mdt0_t17).2.2.2.1 u_m_mdt0_t17
              have m_m_mdt12_t19 : m_md t12 < m_md t19 := by omega
              have g_m_mdt12_t19 := (x_t19.2.2.1 (m_md t12) m_m_mdt12_t17).2.1 w_m_mdt12_t17 g_m_mdt12_t17
              have w_m_mdt12_t19 : W5 t19 (m_md t12) := (x_t19.2.2.1 (m_md t12) m_m_mdt12_t17).1 w_m_mdt12_t17
              have u_m_mdt12_t19 := (x_t19.2.2.1 (m_md t12) m_m_mdt12_t17).2.2.2.1 u_m_mdt12_t17
              refine Kp_push C_t19 (by omega) (fun t20 C_t20 x_t20 a_t20 b_t20 d_t20 w_t20 u_t20 v_t20 _ _ _ l_t20 => ?_)
              have e_t20 := C_t20.2.2.2.1
              have m_n_t20 : n < m_md t20 := by omega
              have g_n_t20 := (x_t20.2.2.1 n m_n_t19).2.1 w_n_t19 g_n_t19
              have w_n_t20 : W5 t20 n := (x_t20.2.2.1 n m_n_t19).1 w_n_t19
              have f_n_t20 : Fz t20 n := (x_t20.2.2.1 n m_n_t19).2.2.1 f_n_t19
              have m_m_mdt0_t20 : m_md t0 < m_md t20 := by omega
              have g_m_mdt0_t20 := (x_t20.2.2.1 (m_md t0) m_m_mdt0_t19).2.1 w_m_mdt0_t19 g_m_mdt0_t19
              have w_m_mdt0_t20 : W5 t20 (m_md t0) := (x_t20.2.2.1 (m_md t0) m_m_mdt0_t19).1 w_m_mdt0_t19
              have f_m_mdt0_t20 : Fz t20 (m_md t0) := (x_t20.2.2.1 (m_md t0) m_m_mdt0_t19).2.2.1 f_m_mdt0_t19
              have u_m_mdt0_t20 := (x_t20.2.2.1 (m_md t0) m_m_mdt0_t19).2.2.2.1 u_m_mdt0_t19
              have m_m_mdt12_t20 : m_md t12 < m_md t20 := by omega
              have g_m_mdt12_t20 := (x_t20.2.2.1 (m_md t12) m_m_mdt12_t19).2.1 w_m_mdt12_t19 g_m_mdt12_t19
              have w_m_mdt12_t20 : W5 t20 (m_md t12) := (x_t20.2.2.1 (m_md t12) m_m_mdt12_t19).1 w_m_mdt12_t19
              have u_m_mdt12_t20 := (x_t20.2.2.1 (m_md t12) m_m_mdt12_t19).2.2.2.1 u_m_mdt12_t19
              refine Ok_ret (show Ok _ _ _ from ?_)
              refine Ok_ret (show Ok _ _ _ from ?_)
              refine Ok_ret (show Ok _ _ _ from ?_)
              refine Ok_ret (show Ok _ _ _ from ?_)
              refine Hv_mk C_t20 hT (by omega) (by omega) (by omega) ?_ ?_ ?_ (by omega) ?_ ?_
              · exact ⟨(Io_n (by decide) (show 0 &&& 1 < 4096 from by omega) m_m_mdt12_t20 g_m_mdt12_t20 w_m_mdt12_t20 (fun q => absurd q (by decide)) (fun q => absurd q (by decide))), (Nd_0 (by decide) Mo_nil), ⟨(Io_2 (by have := or_256 (b := 1) (show (0 &&& 1) < 256 from by omega); omega) (by have := or_256 (b := 1) (show (0 &&& 1) < 256 from by omega); omega) (by have := or_256 (b := 1) (show (0 &&& 1) < 256 from by omega); omega) m_m_mdt12_t20 g_m_mdt12_t20 w_m_mdt12_t20), (Nd_A (by decide) (Mo_cons (fun q => show m_md t12 ≤ m_md t12 from by omega) Mo_nil) (Or.inr ⟨(3, m_md t12, 0 &&& 1), List.mem_cons_self, rfl, Or.inl rfl⟩)), ⟨(Io_n (by decide) (show 0 &&& 1 < 4096 from by omega) m_m_mdt12_t20 g_m_mdt12_t20 w_m_mdt12_t20 (fun q => absurd q (by decide)) (fun q => absurd q (by decide))), (Nd_0 (by decide) (Mo_cons (fun q => show m_md t12 ≤ m_md t12 from by omega) (Mo_cons (fun q => show m_md t12 ≤ m_md t12 from by omega) Mo_nil))), ⟨(Io_n (by decide) (by decide) m_m_mdt0_t20 g_m_mdt0_t20 w_m_mdt0_t20 (fun q => absurd q (by decide)) (fun q => absurd q (by decide))), (Nd_0 (by decide) (Mo_cons (fun q => show m_md t0 ≤ m_md t12 from by omega) (Mo_cons (fun q => show m_md t0 ≤ m_md t12 from by omega) (Mo_cons (fun q => show m_md t0 ≤ m_md t12 from by omega) Mo_nil)))), ⟨(Io_n (by decide) (show t < 4096 from by omega) m_n_t20 g_n_t20 w_n_t20 (fun q => absurd q (by decide)) (fun q => absurd q (by decide))), (Nd_0 (by decide) (Mo_cons (fun q => show n ≤ m_md t0 from by omega) (Mo_cons (fun q => show n ≤ m_md t12 from by omega) (Mo_cons (fun q => show n ≤ m_md t12 from by omega) (Mo_cons (fun q => show n ≤ m_md t12 from by omega) Mo_nil))))), Stk_step (N := n) (pop := (51, n, t)) (new := [(51, n, t), (52, m_md t0, 0), (32, m_md t12, 0 &&& 1), (2, m_md t12, (0 &&& 1) ||| (1 * 256)), (3, m_md t12, 0 &&& 1)]) F0 C_t20.1 (fun _ => m_n_t0) (fun q _ h => h (51, n, t) rfl) (fun _ => rfl) (fun y hy hk => ⟨rfl, (Mo_cons (fun q => show n ≤ n from by omega) (Mo_cons (fun q => show n ≤ m_md t0 from by omega) (Mo_cons (fun q => show n ≤ m_md t12 from by omega) (Mo_cons (fun q => show n ≤ m_md t12 from by omega) (Mo_cons (fun q => show n ≤ m_md t12 from by omega) Mo_nil))))) y hy hk⟩) (fun (h : 51 = 3 ∨ 51 = 18 ∨ 51 = 41) => absurd h (by decide)) (fun (h : 51 = 18) => absurd h (by decide)) (fun (h : 51 = 41 ∨ 51 = 42 ∨ 51 = 43) => absurd h (by decide)) r [] (fun y hy => absurd hy List.not_mem_nil) hS⟩⟩⟩⟩⟩
              · exact (Aj_up (x := (3, m_md t12, 0 &&& 1)) (Aj_up (x := (2, m_md t12, (0 &&& 1) ||| (1 * 256))) (Aj_up (x := (32, m_md t12, 0 &&& 1)) (Aj_up (x := (52, m_md t0, 0)) (Aj_sub (y := (51, n, t)) hJ (Nat.le_of_ble_eq_true rfl)) (Or.inl (Nat.le_of_ble_eq_true rfl))) (Or.inr (Nat.le_of_ble_eq_true rfl))) (Or.inr (show 9 - ((0 &&& 1) ||| (1 * 256)) / 256 < 9 from by have := or_256 (b := 1) (show (0 &&& 1) < 256 from by omega); omega))) (Or.inr (show 2 < 9 - ((0 &&& 1) ||| (1 * 256)) / 256 from by have := or_256 (b := 1) (show (0 &&& 1) < 256 from by omega); omega)))
              · show m_dp t20 = (dlt 3 + (dlt 2 + (dlt 32 + (dlt 52 + (dlt 51 + sD r)))))
                have : dlt 2 = 0 := rfl; have : dlt 3 = 0 := rfl; have : dlt 32 = 0 := rfl; have : dlt 51 = 1 := rfl; have : dlt 52 = 0 := rfl; omega
              · show m_rw t20 = (rho 3 + (rho 2 + (rho 32 + (rho 52 + (rho 51 + sR r)))))
                have : rho 2 = 0 := rfl; have : rho 3 = 0 := rfl; have : rho 32 = 0 := rfl; have : rho 51 = 0 := rfl; have : rho 52 = 0 := rfl; omega
              · show m_md t20 + (mu7 3 + (mu7 2 + (mu7 32 + (mu7 52 + (mu7 51 + sM r))))) ≤ 3 * m_at t20 + 7 * (r.length + 1 + 1 + 1 + 1 + 1) + 10
                have : mu7 2 = 7 := rfl; have : mu7 3 = 5 := rfl; have : mu7 32 = 7 := rfl; have : mu7 51 = 4 := rfl; have : mu7 52 = 5 := rfl; omega
            · refine Ok_ife (show t < 2147483648 from by omega) (by decide) (fun q21 => ?_) (fun q21 => ?_)
              · refine Kp_push C_t12 (by omega) (fun t22 C_t22 x_t22 a_t22 b_t22 d_t22 w_t22 u_t22 v_t22 _ _ _ l_t22 => ?_)
                have e_t22 := C_t22.2.2.2.1
                have m_n_t22 : n < m_md t22 := by omega
                have g_n_t22 := (x_t22.2.2.1 n m_n_t12).2.1 w_n_t12 g_n_t12
                have w_n_t22 : W5 t22 n := (x_t22.2.2.1 n m_n_t12).1 w_n_t12
                have f_n_t22 : Fz t22 n := (x_t22.2.2.1 n m_n_t12).2.2.1 f_n_t12
                have m_m_mdt0_t22 : m_md t0 < m_md t22 := by omega
                have g_m_mdt0_t22 := (x_t22.2.2.1 (m_md t0) m_m_mdt0_t12).2.1 w_m_mdt0_t12 g_m_mdt0_t12
                have w_m_mdt0_t22 : W5 t22 (m_md t0) := (x_t22.2.2.1 (m_md t0) m_m_mdt0_t12).1 w_m_mdt0_t12
                have u_m_mdt0_t22 := (x_t22.2.2.1 (m_md t0) m_m_mdt0_t12).2.2.2.1 u_m_mdt0_t12
                refine Ok_ret (show Ok _ _ _ from ?_)
                refine Ok_ret (show Ok _ _ _ from ?_)
                refine Hv_mk C_t22 hT (by omega) (by omega) (by omega) ?_ ?_ ?_ (by omega) ?_ ?_
                · exact ⟨(Io_n (by decide) (by decide) m_m_mdt0_t22 g_m_mdt0_t22 w_m_mdt0_t22 (fun _ => u_m_mdt0_t22) (fun q => absurd q (by decide))), (Nd_0 (by decide) Mo_nil), ⟨(Io_n (by decide) (by decide) m_m_mdt0_t22 g_m_mdt0_t22 w_m_mdt0_t22 (fun q => absurd q (by decide)) (fun q => absurd q (by decide))), (Nd_0 (by decide) (Mo_cons (fun q => show m_md t0 ≤ m_md t0 from by omega) Mo_nil)), ⟨(Io_n (by decide) (show t < 4096 from by omega) m_n_t22 g_n_t22 w_n_t22 (fun q => absurd q (by decide)) (fun q => absurd q (by decide))), (Nd_0 (by decide) (Mo_cons (fun q => show n ≤ m_md t0 from by omega) (Mo_cons (fun q => show n ≤ m_md t0 from by omega) Mo_nil))), Stk_step (N := n) (pop := (51, n, t)) (new := [(51, n, t), (52, m_md t0, 0), (41, m_md t0, 32)]) F0 C_t22.1 (fun _ => m_n_t0) (fun q _ h => h (51, n, t) rfl) (fun _ => rfl) (fun y hy hk => ⟨rfl, (Mo_cons (fun q => show n ≤ n from by omega) (Mo_cons (fun q => show n ≤ m_md t0 from by omega) (Mo_cons (fun q => show n ≤ m_md t0 from by omega) Mo_nil))) y hy hk⟩) (fun (h : 51 = 3 ∨ 51 = 18 ∨ 51 = 41) => absurd h (by decide)) (fun (h : 51 = 18) => absurd h (by decide)) (fun (h : 51 = 41 ∨ 51 = 42 ∨ 51 = 43) => absurd h (by decide)) r [] (fun y hy => absurd hy List.not_mem_nil) hS⟩⟩⟩
                · exact (Aj_up (x := (41, m_md t0, 32)) (Aj_up (x := (52, m_md t0, 0)) (Aj_sub (y := (51, n, t)) hJ (Nat.le_of_ble_eq_true rfl)) (Or.inl (Nat.le_of_ble_eq_true rfl))) (Or.inr (Nat.le_of_ble_eq_true rfl)))
                · show m_dp t22 = (dlt 41 + (dlt 52 + (dlt 51 + sD r)))
                  have : dlt 41 = 0 := rfl; have : dlt 51 = 1 := rfl; have : dlt 52 = 0 := rfl; omega
                · show m_rw t22 = (rho 41 + (rho 52 + (rho 51 + sR r)))
                  have : rho 41 = 0 := rfl; have : rho 51 = 0 := rfl; have : rho 52 = 0 := rfl; omega
                · show m_md t22 + (mu7 41 + (mu7 52 + (mu7 51 + sM r))) ≤ 3 * m_at t22 + 7 * (r.length + 1 + 1 + 1) + 10
                  have : mu7 41 = 6 := rfl; have : mu7 51 = 4 := rfl; have : mu7 52 = 5 := rfl; omega
              · refine Kp_child C_t12 m_m_mdt0_t12 g_m_mdt0_t12 w_m_mdt0_t12 (by omega) (by omega) (fun t23 C_t23 x_t23 a_t23 b_t23 d_t23 w_t23 u_t23 v_t23 wn_t23 fn_t23 fp_t23 _ l_t23 => ?_)
                have e_t23 := C_t23.2.2.2.1
                have m_n_t23 : n < m_md t23 := by omega
                have g_n_t23 := (x_t23.2.2.1 n m_n_t12).2.1 w_n_t12 g_n_t12
                have w_n_t23 : W5 t23 n := (x_t23.2.2.1 n m_n_t12).1 w_n_t12
                have f_n_t23 : Fz t23 n := (x_t23.2.2.1 n m_n_t12).2.2.1 f_n_t12
                have m_m_mdt0_t23 : m_md t0 < m_md t23 := by omega
                have g_m_mdt0_t23 := (x_t23.2.2.1 (m_md t0) m_m_mdt0_t12).2.1 w_m_mdt0_t12 g_m_mdt0_t12
                have w_m_mdt0_t23 : W5 t23 (m_md t0) := (x_t23.2.2.1 (m_md t0) m_m_mdt0_t12).1 w_m_mdt0_t12
                have u_m_mdt0_t23 := (x_t23.2.2.1 (m_md t0) m_m_mdt0_t12).2.2.2.1 u_m_mdt0_t12
                have f_m_mdt0_t23 : Fz t23 (m_md t0) := fp_t23
                have m_m_mdt12_t23 : m_md t12 < m_md t23 := by omega
                have g_m_mdt12_t23 : GdS t23 (m_md t12) := Or.inl fn_t23
                have w_m_mdt12_t23 : W5 t23 (m_md t12) := by unfold W5; rw [wn_t23]; decide
                have u_m_mdt12_t23 : Up t23 (m_md t12) := Or.inl fn_t23
                clear fp_t23 fn_t23 wn_t23
                refine Kp_push C_t23 (by omega) (fun t24 C_t24 x_t24 a_t24 b_t24 d_t24 w_t24 u_t24 v_t24 _ _ _ l_t24 => ?_)
                have e_t24 := C_t24.2.2.2.1
                have m_n_t24 : n < m_md t24 := by omega
                have g_n_t24 := (x_t24.2.2.1 n m_n_t23).2.1 w_n_t23 g_n_t23
                have w_n_t24 : W5 t24 n := (x_t24.2.2.1 n m_n_t23).1 w_n_t23
                have f_n_t24 : Fz t24 n := (x_t24.2.2.1 n m_n_t23).2.2.1 f_n_t23
                have m_m_mdt0_t24 : m_md t0 < m_md t24 := by omega
                have g_m_mdt0_t24 := (x_t24.2.2.1 (m_md t0) m_m_mdt0_t23).2.1 w_m_mdt0_t23 g_m_mdt0_t23
                have w_m_mdt0_t24 : W5 t24 (m_md t0) := (x_t24.2.2.1 (m_md t0) m_m_mdt0_t23).1 w_m_mdt0_t23
                have f_m_mdt0_t24 : Fz t24 (m_md t0) := (x_t24.2.2.1 (m_md t0) m_m_mdt0_t23).2.2.1 f_m_mdt0_t23
                have u_m_mdt0_t24 := (x_t24.2.2.1 (m_md t0) m_m_mdt0_t23).2.2.2.1 u_m_mdt0_t23
                have m_m_mdt12_t24 : m_md t12 < m_md t24 := by omega
                have g_m_mdt12_t24 := (x_t24.2.2.1 (m_md t12) m_m_mdt12_t23).2.1 w_m_mdt12_t23 g_m_mdt12_t23
                have w_m_mdt12_t24 : W5 t24 (m_md t12) := (x_t24.2.2.1 (m_md t12) m_m_mdt12_t23).1 w_m_mdt12_t23
                have u_m_mdt12_t24 := (x_t24.2.2.1 (m_md t12) m_m_mdt12_t23).2.2.2.1 u_m_mdt12_t23
                refine Kp_push C_t24 (by omega) (fun t25 C_t25 x_t25 a_t25 b_t25 d_t25 w_t25 u_t25 v_t25 _ _ _ l_t25 => ?_)
                have e_t25 := C_t25.2.2.2.1
                have m_n_t25 : n < m_md t25 := by omega
                have g_n_t25 := (x_t25.2.2.1 n m_n_t24).2.1 w_n_t24 g_n_t24
                have w_n_t25 : W5 t25 n := (x_t25.2.2.1 n m_n_t24).1 w_n_t24
                have f_n_t25 : Fz t25 n := (x_t25.2.2.1 n m_n_t24).2.2.1 f_n_t24
                have m_m_mdt0_t25 : m_md t0 < m_md t25 := by omega
                have g_m_mdt0_t25 := (x_t25.2.2.1 (m_md t0) m_m_mdt0_t24).2.1 w_m_mdt0_t24 g_m_mdt0_t24
                have w_m_mdt0_t25 : W5 t25 (m_md t0) := (x_t25.2.2.1 (m_md t0) m_m_mdt0_t24).1 w_m_mdt0_t24
                have f_m_mdt0_t25 : Fz t25 (m_md t0) := (x_t25.2.2.1 (m_md t0) m_m_mdt0_t24).2.2.1 f_m_mdt0_t24
                have u_m_mdt0_t25 := (x_t25.2.2.1 (m_md t0) m_m_mdt0_t24).2.2.2.1 u_m_mdt0_t24
                have m_m_mdt12_t25 : m_md t12 < m_md t25 := by omega
                have g_m_mdt12_t25 := (x_t25.2.2.1 (m_md t12) m_m_mdt12_t24).2.1 w_m_mdt12_t24 g_m_mdt12_t24
                have w_m_mdt12_t25 : W5 t25 (m_md t12) := (x_t25.2.2.1 (m_md t12) m_m_mdt12_t24).1 w_m_mdt12_t24
                have u_m_mdt12_t25 := (x_t25.2.2.1 (m_md t12) m_m_mdt12_t24).2.2.2.1 u_m_mdt12_t24
                refine Ok_ret (show Ok _ _ _ from ?_)
                refine Ok_ret (show Ok _ _ _ from ?_)
                refine Hv_mk C_t25 hT (by omega) (by omega) (by omega) ?_ ?_ ?_ (by omega) ?_ ?_
                · exact ⟨(Io_n (by decide) (by decide) m_m_mdt12_t25 g_m_mdt12_t25 w_m_mdt12_t25 (fun q => absurd q (by decide)) (fun q => absurd q (by decide))), (Nd_0 (by decide) Mo_nil), ⟨(Io_n (by decide) (by decide) m_m_mdt12_t25 g_m_mdt12_t25 w_m_mdt12_t25 (fun q => absurd q (by decide)) (fun q => absurd q (by decide))), (Nd_0 (by decide) (Mo_cons (fun q => show m_md t12 ≤ m_md t12 from by omega) Mo_nil)), ⟨(Io_n (by decide) (by decide) m_m_mdt0_t25 g_m_mdt0_t25 w_m_mdt0_t25 (fun q => absurd q (by decide)) (fun q => absurd q (by decide))), (Nd_0 (by decide) (Mo_cons (fun q => show m_md t0 ≤ m_md t12 from by omega) (Mo_cons (fun q => show m_md t0 ≤ m_md t12 from by omega) Mo_nil))), ⟨(Io_n (by decide) (show t < 4096 from by omega) m_n_t25 g_n_t25 w_n_t25 (fun q => absurd q (by decide)) (fun q => absurd q (by decide))), (Nd_0 (by decide) (Mo_cons (fun q => show n ≤ m_md t0 from by omega) (Mo_cons (fun q => show n ≤ m_md t12 from by omega) (Mo_cons (fun q => show n ≤ m_md t12 from by omega) Mo_nil)))), Stk_step (N := n) (pop := (51, n, t)) (new := [(51, n, t), (52, m_md t0, 0), (53, m_md t12, 0), (18, m_md t12, 0)]) F0 C_t25.1 (fun _ => m_n_t0) (fun q _ h => h (51, n, t) rfl) (fun _ => rfl) (fun y hy hk => ⟨rfl, (Mo_cons (fun q => show n ≤ n from by omega) (Mo_cons (fun q => show n ≤ m_md t0 from by omega) (Mo_cons (fun q => show n ≤ m_md t12 from by omega) (Mo_cons (fun q => show n ≤ m_md t12 from by omega) Mo_nil)))) y hy hk⟩) (fun (h : 51 = 3 ∨ 51 = 18 ∨ 51 = 41) => absurd h (by decide)) (fun (h : 51 = 18) => absurd h (by decide)) (fun (h : 51 = 41 ∨ 51 = 42 ∨ 51 = 43) => absurd h (by decide)) r [] (fun y hy => absurd hy List.not_mem_nil) hS⟩⟩⟩⟩
                · exact (Aj_up (x := (18, m_md t12, 0)) (Aj_up (x := (53, m_md t12, 0)) (Aj_up (x := (52, m_md t0, 0)) (Aj_sub (y := (51, n, t)) hJ (Nat.le_of_ble_eq_true rfl)) (Or.inl (Nat.le_of_ble_eq_true rfl))) (Or.inr (Nat.le_of_ble_eq_true rfl))) (Or.inr (Nat.le_of_ble_eq_true rfl)))
                · show m_dp t25 = (dlt 18 + (dlt 53 + (dlt 52 + (dlt 51 + sD r))))
                  have : dlt 18 = 0 := rfl; have : dlt 51 = 1 := rfl; have : dlt 52 = 0 := rfl; have : dlt 53 = 0 := rfl; omega
                · show m_rw t25 = (rho 18 + (rho 53 + (rho 52 + (rho 51 + sR r))))
                  have : rho 18 = 0 := rfl; have : rho 51 = 0 := rfl; have : rho 52 = 0 := rfl; have : rho 53 = 0 := rfl; omega
                · show m_md t25 + (mu7 18 + (mu7 53 + (mu7 52 + (mu7 51 + sM r)))) ≤ 3 * m_at t25 + 7 * (r.length + 1 + 1 + 1 + 1) + 10
                  have : mu7 18 = 5 := rfl; have : mu7 51 = 4 := rfl; have : mu7 52 = 5 := rfl; have : mu7 53 = 7 := rfl; omega
        · refine Kp_child C_t0 m_n_t0 g_n_t0 w_n_t0 (by omega) (by omega) (fun t26 C_t26 x_t26 a_t26 b_t26 d_t26 w_t26 u_t26 v_t26 wn_t26 fn_t26 fp_t26 _ l_t26 => ?_)
          have e_t26 := C_t26.2.2.2.1
          have m_n_t26 : n < m_md t26 := by omega
          have g_n_t26 := (x_t26.2.2.1 n m_n_t0).2.1 w_n_t0 g_n_t0
          have w_n_t26 : W5 t26 n := (x_t26.2.2.1 n m_n_t0).1 w_n_t0
          have f_n_t26 : Fz t26 n := fp_t26
          have m_m_mdt0_t26 : m_md t0 < m_md t26 := by omega
          have g_m_mdt0_t26 : GdS t26 (m_md t0) := Or.inl fn_t26
          have w_m_mdt0_t26 : W5 t26 (m_md t0) := by unfold W5; rw [wn_t26]; decide
          have u_m_mdt0_t26 : Up t26 (m_md t0) := Or.inl fn_t26
          clear fp_t26 fn_t26 wn_t26
          have z_t27 : m_at t26 < m_ct t26 := lo_ne (Nat.ne_of_gt (show 0 < lo t26 (m_at t26) from by omega))
          refine Kp_at C_t26 (fun t27 C_t27 x_t27 a_t27 b_t27 d_t27 w_t27 u_t27 v_t27 _ _ _ l_t27 => ?_)
          have e_t27 := C_t27.2.2.2.1
          have m_n_t27 : n < m_md t27 := by omega
          have g_n_t27 := (x_t27.2.2.1 n m_n_t26).2.1 w_n_t26 g_n_t26
          have w_n_t27 : W5 t27 n := (x_t27.2.2.1 n m_n_t26).1 w_n_t26
          have f_n_t27 : Fz t27 n := (x_t27.2.2.1 n m_n_t26).2.2.1 f_n_t26
          have m_m_mdt0_t27 : m_md t0 < m_md t27 := by omega
          have g_m_mdt0_t27 := (x_t27.2.2.1 (m_md t0) m_m_mdt0_t26).2.1 w_m_mdt0_t26 g_m_mdt0_t26
          have w_m_mdt0_t27 : W5 t27 (m_md t0) := (x_t27.2.2.1 (m_md t0) m_m_mdt0_t26).1 w_m_mdt0_t26
          have u_m_mdt0_t27 := (x_t27.2.2.1 (m_md t0) m_m_mdt0_t26).2.2.2.1 u_m_mdt0_t26
          refine Kp_push C_t27 (by omega) (fun t28 C_t28 x_t28 a_t28 b_t28 d_t28 w_t28 u_t28 v_t28 _ _ _ l_t28 => ?_)
          have e_t28 := C_t28.2.2.2.1
          have m_n_t28 : n < m_md t28 := by omega
          have g_n_t28 := (x_t28.2.2.1 n m_n_t27).2.1 w_n_t27 g_n_t27
          have w_n_t28 : W5 t28 n := (x_t28.2.2.1 n m_n_t27).1 w_n_t27
          have f_n_t28 : Fz t28 n := (x_t28.2.2.1 n m_n_t27).2.2.1 f_n_t27
          have m_m_mdt0_t28 : m_md t0 < m_md t28 := by omega
          have g_m_mdt0_t28 := (x_t28.2.2.1 (m_md t0) m_m_mdt0_t27).2.1 w_m_mdt0_t27 g_m_mdt0_t27
          have w_m_mdt0_t28 : W5 t28 (m_md t0) := (x_t28.2.2.1 (m_md t0) m_m_mdt0_t27).1 w_m_mdt0_t27
          have u_m_mdt0_t28 := (x_t28.2.2.1 (m_md t0) m_m_mdt0_t27).2.2.2.1 u_m_mdt0_t27
          refine Kp_push C_t28 (by omega) (fun t29 C_t29 x_t29 a_t29 b_t29 d_t29 w_t29 u_t29 v_t29 _ _ _ l_t29 => ?_)
          have e_t29 := C_t29.2.2.2.1
          have m_n_t29 : n < m_md t29 := by omega
          have g_n_t29 := (x_t29.2.2.1 n m_n_t28).2.1 w_n_t28 g_n_t28
          have w_n_t29 : W5 t29 n := (x_t29.2.2.1 n m_n_t28).1 w_n_t28
          have f_n_t29 : Fz t29 n := (x_t29.2.2.1 n m_n_t28).2.2.1 f_n_t28
          have m_m_mdt0_t29 : m_md t0 < m_md t29 := by omega
          have g_m_mdt0_t29 := (x_t29.2.2.1 (m_md t0) m_m_mdt0_t28).2.1 w_m_mdt0_t28 g_m_mdt0_t28
          have w_m_mdt0_t29 : W5 t29 (m_md t0) := (x_t29.2.2.1 (m_md t0) m_m_mdt0_t28).1 w_m_mdt0_t28
          have u_m_mdt0_t29 := (x_t29.2.2.1 (m_md t0) m_m_mdt0_t28).2.2.2.1 u_m_mdt0_t28
          refine Ok_ife (Nat.lt_trans (lo_lt (C_t0.tk hT) _) (by decide)) (by decide) (fun q30 => ?_) (fun q30 => ?_)
          · refine Ok_ret (show Ok _ _ _ from ?_)
            refine Ok_ret (show Ok _ _ _ from ?_)
            refine Hv_mk C_t29 hT (by omega) (by omega) (by omega) ?_ ?_ ?_ (by omega) ?_ ?_
            · exact ⟨(Io_n (by decide) (by decide) m_m_mdt0_t29 g_m_mdt0_t29 w_m_mdt0_t29 (fun q => absurd q (by decide)) (fun q => absurd q (by decide))), (Nd_0 (by decide) Mo_nil), ⟨(Io_n (by decide) (show t < 4096 from by omega) m_n_t29 g_n_t29 w_n_t29 (fun q => absurd q (by decide)) (fun q => absurd q (by decide))), (Nd_0 (by decide) (Mo_cons (fun q => show n ≤ m_md t0 from by omega) Mo_nil)), Stk_step (N := n) (pop := (51, n, t)) (new := [(51, n, t), (52, m_md t0, 0)]) F0 C_t29.1 (fun _ => m_n_t0) (fun q _ h => h (51, n, t) rfl) (fun _ => rfl) (fun y hy hk => ⟨rfl, (Mo_cons (fun q => show n ≤ n from by omega) (Mo_cons (fun q => show n ≤ m_md t0 from by omega) Mo_nil)) y hy hk⟩) (fun (h : 51 = 3 ∨ 51 = 18 ∨ 51 = 41) => absurd h (by decide)) (fun (h : 51 = 18) => absurd h (by decide)) (fun (h : 51 = 41 ∨ 51 = 42 ∨ 51 = 43) => absurd h (by decide)) r [] (fun y hy => absurd hy List.not_mem_nil) hS⟩⟩
            · exact (Aj_up (x := (52, m_md t0, 0)) (Aj_sub (y := (51, n, t)) hJ (Nat.le_of_ble_eq_true rfl)) (Or.inl (Nat.le_of_ble_eq_true rfl)))
            · show m_dp t29 = (dlt 52 + (dlt 51 + sD r))
              have : dlt 51 = 1 := rfl; have : dlt 52 = 0 := rfl; omega
            · show m_rw t29 = (rho 52 + (rho 51 + sR r))
              have : rho 51 = 0 := rfl; have : rho 52 = 0 := rfl; omega
            · show m_md t29 + (mu7 52 + (mu7 51 + sM r)) ≤ 3 * m_at t29 + 7 * (r.length + 1 + 1) + 10
              have : mu7 51 = 4 := rfl; have : mu7 52 = 5 := rfl; omega
          · refine Ok_ifz (show t < 2147483648 from by omega) (fun q31 => ?_) (fun q31 => ?_)
            · refine Ok_bnc ?_
              try unfold b_X6_exprs
              refine Kp_child C_t29 m_m_mdt0_t29 g_m_mdt0_t29 w_m_mdt0_t29 (by omega) (by omega) (fun t33 C_t33 x_t33 a_t33 b_t33 d_t33 w_t33 u_t33 v_t33 wn_t33 fn_t33 fp_t33 _ l_t33 => ?_)
              have e_t33 := C_t33.2.2.2.1
              have m_n_t33 : n < m_md t33 := by omega
              have g_n_t33 := (x_t33.2.2.1 n m_n_t29).2.1 w_n_t29 g_n_t29
              have w_n_t33 : W5 t33 n := (x_t33.2.2.1 n m_n_t29).1 w_n_t29
              have f_n_t33 : Fz t33 n := (x_t33.2.2.1 n m_n_t29).2.2.1 f_n_t29
              have m_m_mdt0_t33 : m_md t0 < m_md t33 := by omega
              have g_m_mdt0_t33 := (x_t33.2.2.1 (m_md t0) m_m_mdt0_t29).2.1 w_m_mdt0_t29 g_m_mdt0_t29
              have w_m_mdt0_t33 : W5 t33 (m_md t0) := (x_t33.2.2.1 (m_md t0) m_m_mdt0_t29).1 w_m_mdt0_t29
              have u_m_mdt0_t33 := (x_t33.2.2.1 (m_md t0) m_m_mdt0_t29).2.2.2.1 u_m_mdt0_t29
              have f_m_mdt0_t33 : Fz t33 (m_md t0) := fp_t33
              have m_m_mdt29_t33 : m_md t29 < m_md t33 := by omega
              have g_m_mdt29_t33 : GdS t33 (m_md t29) := Or.inl fn_t33
              have w_m_mdt29_t33 : W5 t33 (m_md t29) := by unfold W5; rw [wn_t33]; decide
              have u_m_mdt29_t33 : Up t33 (m_md t29) := Or.inl fn_t33
              clear fp_t33 fn_t33 wn_t33
              refine Kp_push C_t33 (by omega) (fun t34 C_t34 x_t34 a_t34 b_t34 d_t34 w_t34 u_t34 v_t34 _ _ _ l_t34 => ?_)
              have e_t34 := C_t34.2.2.2.1
              have m_n_t34 : n < m_md t34 := by omega
              have g_n_t34 := (x_t34.2.2.1 n m_n_t33).2.1 w_n_t33 g_n_t33
              have w_n_t34 : W5 t34 n := (x_t34.2.2.1 n m_n_t33).1 w_n_t33
              have f_n_t34 : Fz t34 n := (x_t34.2.2.1 n m_n_t33).2.2.1 f_n_t33
              have m_m_mdt0_t34 : m_md t0 < m_md t34 := by omega
              have g_m_mdt0_t34 := (x_t34.2.2.1 (m_md t0) m_m_mdt0_t33).2.1 w_m_mdt0_t33 g_m_mdt0_t33
              have w_m_mdt0_t34 : W5 t34 (m_md t0) := (x_t34.2.2.1 (m_md t0) m_m_mdt0_t33).1 w_m_mdt0_t33
              have f_m_mdt0_t34 : Fz t34 (m_md t0) := (x_t34.2.2.1 (m_md t0) m_m_mdt0_t33).2.2.1 f_m_mdt0_t33
              have u_m_mdt0_t34 := (x_t34.2.2.1 (m_md t0) m_m_mdt0_t33).2.2.2.1 u_m_mdt0_t33
              have m_m_mdt29_t34 : m_md t29 < m_md t34 := by omega
              have g_m_mdt29_t34 := (x_t34.2.2.1 (m_md t29) m_m_mdt29_t33).2.1 w_m_mdt29_t33 g_m_mdt29_t33
              have w_m_mdt29_t34 : W5 t34 (m_md t29) := (x_t34.2.2.1 (m_md t29) m_m_mdt29_t33).1 w_m_mdt29_t33
              have u_m_mdt29_t34 := (x_t34.2.2.1 (m_md t29) m_m_mdt29_t33).2.2.2.1 u_m_mdt29_t33
              refine Ok_bnc ?_
              try unfold b_X6_expression
              refine Kp_push C_t34 (by omega) (fun t36 C_t36 x_t36 a_t36 b_t36 d_t36 w_t36 u_t36 v_t36 _ _ _ l_t36 => ?_)
              have e_t36 := C_t36.2.2.2.1
              have m_n_t36 : n < m_md t36 := by omega
              have g_n_t36 := (x_t36.2.2.1 n m_n_t34).2.1 w_n_t34 g_n_t34
              have w_n_t36 : W5 t36 n := (x_t36.2.2.1 n m_n_t34).1 w_n_t34
              have f_n_t36 : Fz t36 n := (x_t36.2.2.1 n m_n_t34).2.2.1 f_n_t34
              have m_m_mdt0_t36 : m_md t0 < m_md t36 := by omega
              have g_m_mdt0_t36 := (x_t36.2.2.1 (m_md t0) m_m_mdt0_t34).2.1 w_m_mdt0_t34 g_m_mdt0_t34
              have w_m_mdt0_t36 : W5 t36 (m_md t0) := (x_t36.2.2.1 (m_md t0) m_m_mdt0_t34).1 w_m_mdt0_t34
              have f_m_mdt0_t36 : Fz t36 (m_md t0) := (x_t36.2.2.1 (m_md t0) m_m_mdt0_t34).2.2.1 f_m_mdt0_t34
              have u_m_mdt0_t36 := (x_t36.2.2.1 (m_md t0) m_m_mdt0_t34).2.2.2.1 u_m_mdt0_t34
              have m_m_mdt29_t36 : m_md t29 < m_md t36 := by omega
              have g_m_mdt29_t36 := (x_t36.2.2.1 (m_md t29) m_m_mdt29_t34).2.1 w_m_mdt29_t34 g_m_mdt29_t34
              have w_m_mdt29_t36 : W5 t36 (m_md t29) := (x_t36.2.2.1 (m_md t29) m_m_mdt29_t34).1 w_m_mdt29_t34
              have u_m_mdt29_t36 := (x_t36.2.2.1 (m_md t29) m_m_mdt29_t34).2.2.2.1 u_m_mdt29_t34
              refine Kp_push C_t36 (by omega) (fun t37 C_t37 x_t37 a_t37 b_t37 d_t37 w_t37 u_t37 v_t37 _ _ _ l_t37 => ?_)
              have e_t37 := C_t37.2.2.2.1
              have m_n_t37 : n < m_md t37 := by omega
              have g_n_t37 := (x_t37.2.2.1 n m_n_t36).2.1 w_n_t36 g_n_t36
              have w_n_t37 : W5 t37 n := (x_t37.2.2.1 n m_n_t36).1 w_n_t36
              have f_n_t37 : Fz t37 n := (x_t37.2.2.1 n m_n_t36).2.2.1 f_n_t36
              have m_m_mdt0_t37 : m_md t0 < m_md t37 := by omega
              have g_m_mdt0_t37 := (x_t37.2.2.1 (m_md t0) m_m_mdt0_t36).2.1 w_m_mdt0_t36 g_m_mdt0_t36
              have w_m_mdt0_t37 : W5 t37 (m_md t0) := (x_t37.2.2.1 (m_md t0) m_m_mdt0_t36).1 w_m_mdt0_t36
              have f_m_mdt0_t37 : Fz t37 (m_md t0) := (x_t37.2.2.1 (m_md t0) m_m_mdt0_t36).2.2.1 f_m_mdt0_t36
              have u_m_mdt0_t37 := (x_t37.2.2.1 (m_md t0) m_m_mdt0_t36).2.2.2.1 u_m_mdt0_t36
              have m_m_mdt29_t37 : m_md t29 < m_md t37 := by omega
              have g_m_mdt29_t37 := (x_t37.2.2.1 (m_md t29) m_m_mdt29_t36).2.1 w_m_mdt29_t36 g_m_mdt29_t36
              have w_m_mdt29_t37 : W5 t37 (m_md t29) := (x_t37.2.2.1 (m_md t29) m_m_mdt29_t36).1 w_m_mdt29_t36
              have u_m_mdt29_t37 := (x_t37.2.2.1 (m_md t29) m_m_mdt29_t36).2.2.2.1 u_m_mdt29_t36
              refine Ok_ret (show Ok _ _ _ from ?_)
              refine Ok_ret (show Ok _ _ _ from ?_)
              refine Ok_ret (show Ok _ _ _ from ?_)
              refine Ok_ret (show Ok _ _ _ from ?_)
              refine Hv_mk C_t37 hT (by omega) (by omega) (by omega) ?_ ?_ ?_ (by omega) ?_ ?_
              · exact ⟨(Io_n (by decide) (show 0 &&& 1 < 4096 from by omega) m_m_mdt29_t37 g_m_mdt29_t37 w_m_mdt29_t37 (fun q => absurd q (by decide)) (fun q => absurd q (by decide))), (Nd_0 (by decide) Mo_nil), ⟨(Io_2 (by have := or_256 (b := 1) (show (0 &&& 1) < 256 from by omega); omega) (by have := or_256 (b := 1) (show (0 &&& 1) < 256 from by omega); omega) (by have := or_256 (b := 1) (show (0 &&& 1) < 256 from by omega); omega) m_m_mdt29_t37 g_m_mdt29_t37 w_m_mdt29_t37), (Nd_A (by decide) (Mo_cons (fun q => show m_md t29 ≤ m_md t29 from by omega) Mo_nil) (Or.inr ⟨(3, m_md t29, 0 &&& 1), List.mem_cons_self, rfl, Or.inl rfl⟩)), ⟨(Io_n (by decide) (show 0 &&& 1 < 4096 from by omega) m_m_mdt29_t37 g_m_mdt29_t37 w_m_mdt29_t37 (fun q => absurd q (by decide)) (fun q => absurd q (by decide))), (Nd_0 (by decide) (Mo_cons (fun q => show m_md t29 ≤ m_md t29 from by omega) (Mo_cons (fun q => show m_md t29 ≤ m_md t29 from by omega) Mo_nil))), ⟨(Io_n (by decide) (by decide) m_m_mdt0_t37 g_m_mdt0_t37 w_m_mdt0_t37 (fun q => absurd q (by decide)) (fun q => absurd q (by decide))), (Nd_0 (by decide) (Mo_cons (fun q => show m_md t0 ≤ m_md t29 from by omega) (Mo_cons (fun q => show m_md t0 ≤ m_md t29 from by omega) (Mo_cons (fun q => show m_md t0 ≤ m_md t29 from by omega) Mo_nil)))), ⟨(Io_n (by decide) (show t < 4096 from by omega) m_n_t37 g_n_t37 w_n_t37 (fun q => absurd q (by decide)) (fun q => absurd q (by decide))), (Nd_0 (by decide) (Mo_cons (fun q => show n ≤ m_md t0 from by omega) (Mo_cons (fun q => show n ≤ m_md t29 from by omega) (Mo_cons (fun q => show n ≤ m_md t29 from by omega) (Mo_cons (fun q => show n ≤ m_md t29 from by omega) Mo_nil))))), Stk_step (N := n) (pop := (51, n, t)) (new := [(51, n, t), (52, m_md t0, 0), (32, m_md t29, 0 &&& 1), (2, m_md t29, (0 &&& 1) ||| (1 * 256)), (3, m_md t29, 0 &&& 1)]) F0 C_t37.1 (fun _ => m_n_t0) (fun q _ h => h (51, n, t) rfl) (fun _ => rfl) (fun y hy hk => ⟨rfl, (Mo_cons (fun q => show n ≤ n from by omega) (Mo_cons (fun q => show n ≤ m_md t0 from by omega) (Mo_cons (fun q => show n ≤ m_md t29 from by omega) (Mo_cons (fun q => show n ≤ m_md t29 from by omega) (Mo_cons (fun q => show n ≤ m_md t29 from by omega) Mo_nil))))) y hy hk⟩) (fun (h : 51 = 3 ∨ 51 = 18 ∨ 51 = 41) => absurd h (by decide)) (fun (h : 51 = 18) => absurd h (by decide)) (fun (h : 51 = 41 ∨ 51 = 42 ∨ 51 = 43) => absurd h (by decide)) r [] (fun y hy => absurd hy List.not_mem_nil) hS⟩⟩⟩⟩⟩
              · exact (Aj_up (x := (3, m_md t29, 0 &&& 1)) (Aj_up (x := (2, m_md t29, (0 &&& 1) ||| (1 * 256))) (Aj_up (x := (32, m_md t29, 0 &&& 1)) (Aj_up (x := (52, m_md t0, 0)) (Aj_sub (y := (51, n, t)) hJ (Nat.le_of_ble_eq_true rfl)) (Or.inl (Nat.le_of_ble_eq_true rfl))) (Or.inr (Nat.le_of_ble_eq_true rfl))) (Or.inr (show 9 - ((0 &&& 1) ||| (1 * 256)) / 256 < 9 from by have := or_256 (b := 1) (show (0 &&& 1) < 256 from by omega); omega))) (Or.inr (show 2 < 9 - ((0 &&& 1) ||| (1 * 256)) / 256 from by have := or_256 (b := 1) (show (0 &&& 1) < 256 from by omega); omega)))
              · show m_dp t37 = (dlt 3 + (dlt 2 + (dlt 32 + (dlt 52 + (dlt 51 + sD r)))))
                have : dlt 2 = 0 := rfl; have : dlt 3 = 0 := rfl; have : dlt 32 = 0 := rfl; have : dlt 51 = 1 := rfl; have : dlt 52 = 0 := rfl; omega
              · show m_rw t37 = (rho 3 + (rho 2 + (rho 32 + (rho 52 + (rho 51 + sR r)))))
                have : rho 2 = 0 := rfl; have : rho 3 = 0 := rfl; have : rho 32 = 0 := rfl; have : rho 51 = 0 := rfl; have : rho 52 = 0 := rfl; omega
              · show m_md t37 + (mu7 3 + (mu7 2 + (mu7 32 + (mu7 52 + (mu7 51 + sM r))))) ≤ 3 * m_at t37 + 7 * (r.length + 1 + 1 + 1 + 1 + 1) + 10
                have : mu7 2 = 7 := rfl; have : mu7 3 = 5 := rfl; have : mu7 32 = 7 := rfl; have : mu7 51 = 4 := rfl; have : mu7 52 = 5 := rfl; omega
            · refine Ok_ife (show t < 2147483648 from by omega) (by decide) (fun q38 => ?_) (fun q38 => ?_)
              · refine Kp_push C_t29 (by omega) (fun t39 C_t39 x_t39 a_t39 b_t39 d_t39 w_t39 u_t39 v_t39 _ _ _ l_t39 => ?_)
                have e_t39 := C_t39.2.2.2.1
                have m_n_t39 : n < m_md t39 := by omega
                have g_n_t39 := (x_t39.2.2.1 n m_n_t29).2.1 w_n_t29 g_n_t29
                have w_n_t39 : W5 t39 n := (x_t39.2.2.1 n m_n_t29).1 w_n_t29
                have f_n_t39 : Fz t39 n := (x_t39.2.2.1 n m_n_t29).2.2.1 f_n_t29
                have m_m_mdt0_t39 : m_md t0 < m_md t39 := by omega
                have g_m_mdt0_t39 := (x_t39.2.2.1 (m_md t0) m_m_mdt0_t29).2.1 w_m_mdt0_t29 g_m_mdt0_t29
                have w_m_mdt0_t39 : W5 t39 (m_md t0) := (x_t39.2.2.1 (m_md t0) m_m_mdt0_t29).1 w_m_mdt0_t29
                have u_m_mdt0_t39 := (x_t39.2.2.1 (m_md t0) m_m_mdt0_t29).2.2.2.1 u_m_mdt0_t29
                refine Ok_ret (show Ok _ _ _ from ?_)
                refine Ok_ret (show Ok _ _ _ from ?_)
                refine Hv_mk C_t39 hT (by omega) (by omega) (by omega) ?_ ?_ ?_ (by omega) ?_ ?_
                · exact ⟨(Io_n (by decide) (by decide) m_m_mdt0_t39 g_m_mdt0_t39 w_m_mdt0_t39 (fun _ => u_m_mdt0_t39) (fun q => absurd q (by decide))), (Nd_0 (by decide) Mo_nil), ⟨(Io_n (by decide) (by decide) m_m_mdt0_t39 g_m_mdt0_t39 w_m_mdt0_t39 (fun q => absurd q (by decide)) (fun q => absurd q (by decide))), (Nd_0 (by decide) (Mo_cons (fun q => show m_md t0 ≤ m_md t0 from by omega) Mo_nil)), ⟨(Io_n (by decide) (show t < 4096 from by omega) m_n_t39 g_n_t39 w_n_t39 (fun q => absurd q (by decide)) (fun q => absurd q (by decide))), (Nd_0 (by decide) (Mo_cons (fun q => show n ≤ m_md t0 from by omega) (Mo_cons (fun q => show n ≤ m_md t0 from by omega) Mo_nil))), Stk_step (N := n) (pop := (51, n, t)) (new := [(51, n, t), (52, m_md t0, 0), (41, m_md t0, 32)]) F0 C_t39.1 (fun _ => m_n_t0) (fun q _ h => h (51, n, t) rfl) (fun _ => rfl) (fun y hy hk => ⟨rfl, (Mo_cons (fun q => show n ≤ n from by omega) (Mo_cons (fun q => show n ≤ m_md t0 from by omega) (Mo_cons (fun q => show n ≤ m_md t0 from by omega) Mo_nil))) y hy hk⟩) (fun (h : 51 = 3 ∨ 51 = 18 ∨ 51 = 41) => absurd h (by decide)) (fun (h : 51 = 18) => absurd h (by decide)) (fun (h : 51 = 41 ∨ 51 = 42 ∨ 51 = 43) => absurd h (by decide)) r [] (fun y hy => absurd hy List.not_mem_nil) hS⟩⟩⟩
                · exact (Aj_up (x := (41, m_md t0, 32)) (Aj_up (x := (52, m_md t0, 0)) (Aj_sub (y := (51, n, t)) hJ (Nat.le_of_ble_eq_true rfl)) (Or.inl (Nat.le_of_ble_eq_true rfl))) (Or.inr (Nat.le_of_ble_eq_true rfl)))
                · show m_dp t39 = (dlt 41 + (dlt 52 + (dlt 51 + sD r)))
                  have : dlt 41 = 0 := rfl; have : dlt 51 = 1 := rfl; have : dlt 52 = 0 := rfl; omega
                · show m_rw t39 = (rho 41 + (rho 52 + (rho 51 + sR r)))
                  have : rho 41 = 0 := rfl; have : rho 51 = 0 := rfl; have : rho 52 = 0 := rfl; omega
                · show m_md t39 + (mu7 41 + (mu7 52 + (mu7 51 + sM r))) ≤ 3 * m_at t39 + 7 * (r.length + 1 + 1 + 1) + 10
                  have : mu7 41 = 6 := rfl; have : mu7 51 = 4 := rfl; have : mu7 52 = 5 := rfl; omega
              · refine Kp_child C_t29 m_m_mdt0_t29 g_m_mdt0_t29 w_m_mdt0_t29 (by omega) (by omega) (fun t40 C_t40 x_t40 a_t40 b_t40 d_t40 w_t40 u_t40 v_t40 wn_t40 fn_t40 fp_t40 _ l_t40 => ?_)
                have e_t40 := C_t40.2.2.2.1
                have m_n_t40 : n < m_md t40 := by omega
                have g_n_t40 := (x_t40.2.2.1 n m_n_t29).2.1 w_n_t29 g_n_t29
                have w_n_t40 : W5 t40 n := (x_t40.2.2.1 n m_n_t29).1 w_n_t29
                have f_n_t40 : Fz t40 n := (x_t40.2.2.1 n m_n_t29).2.2.1 f_n_t29
                have m_m_mdt0_t40 : m_md t0 < m_md t40 := by omega
                have g_m_mdt0_t40 := (x_t40.2.2.1 (m_md t0) m_m_mdt0_t29).2.1 w_m_mdt0_t29 g_m_mdt0_t29
                have w_m_mdt0_t40 : W5 t40 (m_md t0) := (x_t40.2.2.1 (m_md t0) m_m_mdt0_t29).1 w_m_mdt0_t29
                have u_m_mdt0_t40 := (x_t40.2.2.1 (m_md t0) m_m_mdt0_t29).2.2.2.1 u_m_mdt0_t29
                have f_m_mdt0_t40 : Fz t40 (m_md t0) := fp_t40
                have m_m_mdt29_t40 : m_md t29 < m_md t40 := by omega
                have g_m_mdt29_t40 : GdS t40 (m_md t29) := Or.inl fn_t40
                have w_m_mdt29_t40 : W5 t40 (m_md t29) := by unfold W5; rw [wn_t40]; decide
                have u_m_mdt29_t40 : Up t40 (m_md t29) := Or.inl fn_t40
                clear fp_t40 fn_t40 wn_t40
                refine Kp_push C_t40 (by omega) (fun t41 C_t41 x_t41 a_t41 b_t41 d_t41 w_t41 u_t41 v_t41 _ _ _ l_t41 => ?_)
                have e_t41 := C_t41.2.2.2.1
                have m_n_t41 : n < m_md t41 := by omega
                have g_n_t41 := (x_t41.2.2.1 n m_n_t40).2.1 w_n_t40 g_n_t40
                have w_n_t41 : W5 t41 n := (x_t41.2.2.1 n m_n_t40).1 w_n_t40
                have f_n_t41 : Fz t41 n := (x_t41.2.2.1 n m_n_t40).2.2.1 f_n_t40
                have m_m_mdt0_t41 : m_md t0 < m_md t41 := by omega
                have g_m_mdt0_t41 := (x_t41.2.2.1 (m_md t0) m_m_mdt0_t40).2.1 w_m_mdt0_t40 g_m_mdt0_t40
                have w_m_mdt0_t41 : W5 t41 (m_md t0) := (x_t41.2.2.1 (m_md t0) m_m_mdt0_t40).1 w_m_mdt0_t40
                have f_m_mdt0_t41 : Fz t41 (m_md t0) := (x_t41.2.2.1 (m_md t0) m_m_mdt0_t40).2.2.1 f_m_mdt0_t40
                have u_m_mdt0_t41 := (x_t41.2.2.1 (m_md t0) m_m_mdt0_t40).2.2.2.1 u_m_mdt0_t40
                have m_m_mdt29_t41 : m_md t29 < m_md t41 := by omega
                have g_m_mdt29_t41 := (x_t41.2.2.1 (m_md t29) m_m_mdt29_t40).2.1 w_m_mdt29_t40 g_m_mdt29_t40
                have w_m_mdt29_t41 : W5 t41 (m_md t29) := (x_t41.2.2.1 (m_md t29) m_m_mdt29_t40).1 w_m_mdt29_t40
                have u_m_mdt29_t41 := (x_t41.2.2.1 (m_md t29) m_m_mdt29_t40).2.2.2.1 u_m_mdt29_t40
                refine Kp_push C_t41 (by omega) (fun t42 C_t42 x_t42 a_t42 b_t42 d_t42 w_t42 u_t42 v_t42 _ _ _ l_t42 => ?_)
                have e_t42 := C_t42.2.2.2.1
                have m_n_t42 : n < m_md t42 := by omega
                have g_n_t42 := (x_t42.2.2.1 n m_n_t41).2.1 w_n_t41 g_n_t41
                have w_n_t42 : W5 t42 n := (x_t42.2.2.1 n m_n_t41).1 w_n_t41
                have f_n_t42 : Fz t42 n := (x_t42.2.2.1 n m_n_t41).2.2.1 f_n_t41
                have m_m_mdt0_t42 : m_md t0 < m_md t42 := by omega
                have g_m_mdt0_t42 := (x_t42.2.2.1 (m_md t0) m_m_mdt0_t41).2.1 w_m_mdt0_t41 g_m_mdt0_t41
                have w_m_mdt0_t42 : W5 t42 (m_md t0) := (x_t42.2.2.1 (m_md t0) m_m_mdt0_t41).1 w_m_mdt0_t41
                have f_m_mdt0_t42 : Fz t42 (m_md t0) := (x_t42.2.2.1 (m_md t0) m_m_mdt0_t41).2.2.1 f_m_mdt0_t41
                have u_m_mdt0_t42 := (x_t42.2.2.1 (m_md t0) m_m_mdt0_t41).2.2.2.1 u_m_mdt0_t41
                have m_m_mdt29_t42 : m_md t29 < m_md t42 := by omega
                have g_m_mdt29_t42 := (x_t42.2.2.1 (m_md t29) m_m_mdt29_t41).2.1 w_m_mdt29_t41 g_m_mdt29_t41
                have w_m_mdt29_t42 : W5 t42 (m_md t29) := (x_t42.2.2.1 (m_md t29) m_m_mdt29_t41).1 w_m_mdt29_t41
                have u_m_mdt29_t42 := (x_t42.2.2.1 (m_md t29) m_m_mdt29_t41).2.2.2.1 u_m_mdt29_t41
                refine Ok_ret (show Ok _ _ _ from ?_)
                refine Ok_ret (show Ok _ _ _ from ?_)
                refine Hv_mk C_t42 hT (by omega) (by omega) (by omega) ?_ ?_ ?_ (by omega) ?_ ?_
                · exact ⟨(Io_n (by decide) (by decide) m_m_mdt29_t42 g_m_mdt29_t42 w_m_mdt29_t42 (fun q => absurd q (by decide)) (fun q => absurd q (by decide))), (Nd_0 (by decide) Mo_nil), ⟨(Io_n (by decide) (by decide) m_m_mdt29_t42 g_m_mdt29_t42 w_m_mdt29_t42 (fun q => absurd q (by decide)) (fun q => absurd q (by decide))), (Nd_0 (by decide) (Mo_cons (fun q => show m_md t29 ≤ m_md t29 from by omega) Mo_nil)), ⟨(Io_n (by decide) (by decide) m_m_mdt0_t42 g_m_mdt0_t42 w_m_mdt0_t42 (fun q => absurd q (by decide)) (fun q => absurd q (by decide))), (Nd_0 (by decide) (Mo_cons (fun q => show m_md t0 ≤ m_md t29 from by omega) (Mo_cons (fun q => show m_md t0 ≤ m_md t29 from by omega) Mo_nil))), ⟨(Io_n (by decide) (show t < 4096 from by omega) m_n_t42 g_n_t42 w_n_t42 (fun q => absurd q (by decide)) (fun q => absurd q (by decide))), (Nd_0 (by decide) (Mo_cons (fun q => show n ≤ m_md t0 from by omega) (Mo_cons (fun q => show n ≤ m_md t29 from by omega) (Mo_cons (fun q => show n ≤ m_md t29 from by omega) Mo_nil)))), Stk_step (N := n) (pop := (51, n, t)) (new := [(51, n, t), (52, m_md t0, 0), (53, m_md t29, 0), (18, m_md t29, 0)]) F0 C_t42.1 (fun _ => m_n_t0) (fun q _ h => h (51, n, t) rfl) (fun _ => rfl) (fun y hy hk => ⟨rfl, (Mo_cons (fun q => show n ≤ n from by omega) (Mo_cons (fun q => show n ≤ m_md t0 from by omega) (Mo_cons (fun q => show n ≤ m_md t29 from by omega) (Mo_cons (fun q => show n ≤ m_md t29 from by omega) Mo_nil)))) y hy hk⟩) (fun (h : 51 = 3 ∨ 51 = 18 ∨ 51 = 41) => absurd h (by decide)) (fun (h : 51 = 18) => absurd h (by decide)) (fun (h : 51 = 41 ∨ 51 = 42 ∨ 51 = 43) => absurd h (by decide)) r [] (fun y hy => absurd hy List.not_mem_nil) hS⟩⟩⟩⟩
                · exact (Aj_up (x := (18, m_md t29, 0)) (Aj_up (x := (53, m_md t29, 0)) (Aj_up (x := (52, m_md t0, 0)) (Aj_sub (y := (51, n, t)) hJ (Nat.le_of_ble_eq_true rfl)) (Or.inl (Nat.le_of_ble_eq_true rfl))) (Or.inr (Nat.le_of_ble_eq_true rfl))) (Or.inr (Nat.le_of_ble_eq_true rfl)))
                · show m_dp t42 = (dlt 18 + (dlt 53 + (dlt 52 + (dlt 51 + sD r))))
                  have : dlt 18 = 0 := rfl; have : dlt 51 = 1 := rfl; have : dlt 52 = 0 := rfl; have : dlt 53 = 0 := rfl; omega
                · show m_rw t42 = (rho 18 + (rho 53 + (rho 52 + (rho 51 + sR r))))
                  have : rho 18 = 0 := rfl; have : rho 51 = 0 := rfl; have : rho 52 = 0 := rfl; have : rho 53 = 0 := rfl; omega
                · show m_md t42 + (mu7 18 + (mu7 53 + (mu7 52 + (mu7 51 + sM r)))) ≤ 3 * m_at t42 + 7 * (r.length + 1 + 1 + 1 + 1) + 10
                  have : mu7 18 = 5 := rfl; have : mu7 51 = 4 := rfl; have : mu7 52 = 5 := rfl; have : mu7 53 = 7 := rfl; omega
      · refine Ok_ife (Nat.lt_trans (lo_lt (C_t0.tk hT) _) (by decide)) (by decide) (fun q43 => ?_) (fun q43 => ?_)
        · refine Kp_child C_t0 m_n_t0 g_n_t0 w_n_t0 (by omega) (by omega) (fun t44 C_t44 x_t44 a_t44 b_t44 d_t44 w_t44 u_t44 v_t44 wn_t44 fn_t44 fp_t44 _ l_t44 => ?_)
          have e_t44 := C_t44.2.2.2.1
          have m_n_t44 : n < m_md t44 := by omega
          have g_n_t44 := (x_t44.2.2.1 n m_n_t0).2.1 w_n_t0 g_n_t0
          have w_n_t44 : W5 t44 n := (x_t44.2.2.1 n m_n_t0).1 w_n_t0
          have f_n_t44 : Fz t44 n := fp_t44
          have m_m_mdt0_t44 : m_md t0 < m_md t44 := by omega
          have g_m_mdt0_t44 : GdS t44 (m_md t0) := Or.inl fn_t44
          have w_m_mdt0_t44 : W5 t44 (m_md t0) := by unfold W5; rw [wn_t44]; decide
          have u_m_mdt0_t44 : Up t44 (m_md t0) := Or.inl fn_t44
          clear fp_t44 fn_t44 wn_t44
          have z_t45 : m_at t44 < m_ct t44 := lo_ne (Nat.ne_of_gt (show 0 < lo t44 (m_at t44) from by omega))
          refine Kp_at C_t44 (fun t45 C_t45 x_t45 a_t45 b_t45 d_t45 w_t45 u_t45 v_t45 _ _ _ l_t45 => ?_)
          have e_t45 := C_t45.2.2.2.1
          have m_n_t45 : n < m_md t45 := by omega
          have g_n_t45 := (x_t45.2.2.1 n m_n_t44).2.1 w_n_t44 g_n_t44
          have w_n_t45 : W5 t45 n := (x_t45.2.2.1 n m_n_t44).1 w_n_t44
          have f_n_t45 : Fz t45 n := (x_t45.2.2.1 n m_n_t44).2.2.1 f_n_t44
          have m_m_mdt0_t45 : m_md t0 < m_md t45 := by omega
          have g_m_mdt0_t45 := (x_t45.2.2.1 (m_md t0) m_m_mdt0_t44).2.1 w_m_mdt0_t44 g_m_mdt0_t44
          have w_m_mdt0_t45 : W5 t45 (m_md t0) := (x_t45.2.2.1 (m_md t0) m_m_mdt0_t44).1 w_m_mdt0_t44
          have u_m_mdt0_t45 := (x_t45.2.2.1 (m_md t0) m_m_mdt0_t44).2.2.2.1 u_m_mdt0_t44
          refine Kp_push C_t45 (by omega) (fun t46 C_t46 x_t46 a_t46 b_t46 d_t46 w_t46 u_t46 v_t46 _ _ _ l_t46 => ?_)
          have e_t46 := C_t46.2.2.2.1
          have m_n_t46 : n < m_md t46 := by omega
          have g_n_t46 := (x_t46.2.2.1 n m_n_t45).2.1 w_n_t45 g_n_t45
          have w_n_t46 : W5 t46 n := (x_t46.2.2.1 n m_n_t45).1 w_n_t45
          have f_n_t46 : Fz t46 n := (x_t46.2.2.1 n m_n_t45).2.2.1 f_n_t45
          have m_m_mdt0_t46 : m_md t0 < m_md t46 := by omega
          have g_m_mdt0_t46 := (x_t46.2.2.1 (m_md t0) m_m_mdt0_t45).2.1 w_m_mdt0_t45 g_m_mdt0_t45
          have w_m_mdt0_t46 : W5 t46 (m_md t0) := (x_t46.2.2.1 (m_md t0) m_m_mdt0_t45).1 w_m_mdt0_t45
          have u_m_mdt0_t46 := (x_t46.2.2.1 (m_md t0) m_m_mdt0_t45).2.2.2.1 u_m_mdt0_t45
          refine Kp_push C_t46 (by omega) (fun t47 C_t47 x_t47 a_t47 b_t47 d_t47 w_t47 u_t47 v_t47 _ _ _ l_t47 => ?_)
          have e_t47 := C_t47.2.2.2.1
          have m_n_t47 : n < m_md t47 := by omega
          have g_n_t47 := (x_t47.2.2.1 n m_n_t46).2.1 w_n_t46 g_n_t46
          have w_n_t47 : W5 t47 n := (x_t47.2.2.1 n m_n_t46).1 w_n_t46
          have f_n_t47 : Fz t47 n := (x_t47.2.2.1 n m_n_t46).2.2.1 f_n_t46
          have m_m_mdt0_t47 : m_md t0 < m_md t47 := by omega
          have g_m_mdt0_t47 := (x_t47.2.2.1 (m_md t0) m_m_mdt0_t46).2.1 w_m_mdt0_t46 g_m_mdt0_t46
          have w_m_mdt0_t47 : W5 t47 (m_md t0) := (x_t47.2.2.1 (m_md t0) m_m_mdt0_t46).1 w_m_mdt0_t46
          have u_m_mdt0_t47 := (x_t47.2.2.1 (m_md t0) m_m_mdt0_t46).2.2.2.1 u_m_mdt0_t46
          refine Ok_ife (Nat.lt_trans (lo_lt (C_t0.tk hT) _) (by decide)) (by decide) (fun q48 => ?_) (fun q48 => ?_)
          · refine Ok_ret (show Ok _ _ _ from ?_)
            refine Ok_ret (show Ok _ _ _ from ?_)
            refine Hv_mk C_t47 hT (by omega) (by omega) (by omega) ?_ ?_ ?_ (by omega) ?_ ?_
            · exact ⟨(Io_n (by decide) (by decide) m_m_mdt0_t47 g_m_mdt0_t47 w_m_mdt0_t47 (fun q => absurd q (by decide)) (fun q => absurd q (by decide))), (Nd_0 (by decide) Mo_nil), ⟨(Io_n (by decide) (show t < 4096 from by omega) m_n_t47 g_n_t47 w_n_t47 (fun q => absurd q (by decide)) (fun q => absurd q (by decide))), (Nd_0 (by decide) (Mo_cons (fun q => show n ≤ m_md t0 from by omega) Mo_nil)), Stk_step (N := n) (pop := (51, n, t)) (new := [(51, n, t), (52, m_md t0, 0)]) F0 C_t47.1 (fun _ => m_n_t0) (fun q _ h => h (51, n, t) rfl) (fun _ => rfl) (fun y hy hk => ⟨rfl, (Mo_cons (fun q => show n ≤ n from by omega) (Mo_cons (fun q => show n ≤ m_md t0 from by omega) Mo_nil)) y hy hk⟩) (fun (h : 51 = 3 ∨ 51 = 18 ∨ 51 = 41) => absurd h (by decide)) (fun (h : 51 = 18) => absurd h (by decide)) (fun (h : 51 = 41 ∨ 51 = 42 ∨ 51 = 43) => absurd h (by decide)) r [] (fun y hy => absurd hy List.not_mem_nil) hS⟩⟩
            · exact (Aj_up (x := (52, m_md t0, 0)) (Aj_sub (y := (51, n, t)) hJ (Nat.le_of_ble_eq_true rfl)) (Or.inl (Nat.le_of_ble_eq_true rfl)))
            · show m_dp t47 = (dlt 52 + (dlt 51 + sD r))
              have : dlt 51 = 1 := rfl; have : dlt 52 = 0 := rfl; omega
            · show m_rw t47 = (rho 52 + (rho 51 + sR r))
              have : rho 51 = 0 := rfl; have : rho 52 = 0 := rfl; omega
            · show m_md t47 + (mu7 52 + (mu7 51 + sM r)) ≤ 3 * m_at t47 + 7 * (r.length + 1 + 1) + 10
              have : mu7 51 = 4 := rfl; have : mu7 52 = 5 := rfl; omega
          · refine Ok_ifz (show t < 2147483648 from by omega) (fun q49 => ?_) (fun q49 => ?_)
            · refine Ok_bnc ?_
              try unfold b_X6_exprs
              refine Kp_child C_t47 m_m_mdt0_t47 g_m_mdt0_t47 w_m_mdt0_t47 (by omega) (by omega) (fun t51 C_t51 x_t51 a_t51 b_t51 d_t51 w_t51 u_t51 v_t51 wn_t51 fn_t51 fp_t51 _ l_t51 => ?_)
              have e_t51 := C_t51.2.2.2.1
              have m_n_t51 : n < m_md t51 := by omega
              have g_n_t51 := (x_t51.2.2.1 n m_n_t47).2.1 w_n_t47 g_n_t47
              have w_n_t51 : W5 t51 n := (x_t51.2.2.1 n m_n_t47).1 w_n_t47
              have f_n_t51 : Fz t51 n := (x_t51.2.2.1 n m_n_t47).2.2.1 f_n_t47
              have m_m_mdt0_t51 : m_md t0 < m_md t51 := by omega
              have g_m_mdt0_t51 := (x_t51.2.2.1 (m_md t0) m_m_mdt0_t47).2.1 w_m_mdt0_t47 g_m_mdt0_t47
              have w_m_mdt0_t51 : W5 t51 (m_md t0) := (x_t51.2.2.1 (m_md t0) m_m_mdt0_t47).1 w_m_mdt0_t47
              have u_m_mdt0_t51 := (x_t51.2.2.1 (m_md t0) m_m_mdt0_t47).2.2.2.1 u_m_mdt0_t47
              have f_m_mdt0_t51 : Fz t51 (m_md t0) := fp_t51
              have m_m_mdt47_t51 : m_md t47 < m_md t51 := by omega
              have g_m_mdt47_t51 : GdS t51 (m_md t47) := Or.inl fn_t51
              have w_m_mdt47_t51 : W5 t51 (m_md t47) := by unfold W5; rw [wn_t51]; decide
              have u_m_mdt47_t51 : Up t51 (m_md t47) := Or.inl fn_t51
              clear fp_t51 fn_t51 wn_t51
              refine Kp_push C_t51 (by omega) (fun t52 C_t52 x_t52 a_t52 b_t52 d_t52 w_t52 u_t52 v_t52 _ _ _ l_t52 => ?_)
              have e_t52 := C_t52.2.2.2.1
              have m_n_t52 : n < m_md t52 := by omega
              have g_n_t52 := (x_t52.2.2.1 n m_n_t51).2.1 w_n_t51 g_n_t51
              have w_n_t52 : W5 t52 n := (x_t52.2.2.1 n m_n_t51).1 w_n_t51
              have f_n_t52 : Fz t52 n := (x_t52.2.2.1 n m_n_t51).2.2.1 f_n_t51
              have m_m_mdt0_t52 : m_md t0 < m_md t52 := by omega
              have g_m_mdt0_t52 := (x_t52.2.2.1 (m_md t0) m_m_mdt0_t51).2.1 w_m_mdt0_t51 g_m_mdt0_t51
              have w_m_mdt0_t52 : W5 t52 (m_md t0) := (x_t52.2.2.1 (m_md t0) m_m_mdt0_t51).1 w_m_mdt0_t51
              have f_m_mdt0_t52 : Fz t52 (m_md t0) := (x_t52.2.2.1 (m_md t0) m_m_mdt0_t51).2.2.1 f_m_mdt0_t51
              have u_m_mdt0_t52 := (x_t52.2.2.1 (m_md t0) m_m_mdt0_t51).2.2.2.1 u_m_mdt0_t51
              have m_m_mdt47_t52 : m_md t47 < m_md t52 := by omega
              have g_m_mdt47_t52 := (x_t52.2.2.1 (m_md t47) m_m_mdt47_t51).2.1 w_m_mdt47_t51 g_m_mdt47_t51
              have w_m_mdt47_t52 : W5 t52 (m_md t47) := (x_t52.2.2.1 (m_md t47) m_m_mdt47_t51).1 w_m_mdt47_t51
              have u_m_mdt47_t52 := (x_t52.2.2.1 (m_md t47) m_m_mdt47_t51).2.2.2.1 u_m_mdt47_t51
              refine Ok_bnc ?_
              try unfold b_X6_expression
              refine Kp_push C_t52 (by omega) (fun t54 C_t54 x_t54 a_t54 b_t54 d_t54 w_t54 u_t54 v_t54 _ _ _ l_t54 => ?_)
              have e_t54 := C_t54.2.2.2.1
              have m_n_t54 : n < m_md t54 := by omega
              have g_n_t54 := (x_t54.2.2.1 n m_n_t52).2.1 w_n_t52 g_n_t52
              have w_n_t54 : W5 t54 n := (x_t54.2.2.1 n m_n_t52).1 w_n_t52
              have f_n_t54 : Fz t54 n := (x_t54.2.2.1 n m_n_t52).2.2.1 f_n_t52
              have m_m_mdt0_t54 : m_md t0 < m_md t54 := by omega
              have g_m_mdt0_t54 := (x_t54.2.2.1 (m_md t0) m_m_mdt0_t52).2.1 w_m_mdt0_t52 g_m_mdt0_t52
              have w_m_mdt0_t54 : W5 t54 (m_md t0) := (x_t54.2.2.1 (m_md t0) m_m_mdt0_t52).1 w_m_mdt0_t52
              have f_m_mdt0_t54 : Fz t54 (m_md t0) := (x_t54.2.2.1 (m_md t0) m_m_mdt0_t52).2.2.1 f_m_mdt0_t52
              have u_m_mdt0_t54 := (x_t54.2.2.1 (m_md t0) m_m_mdt0_t52).2.2.2.1 u_m_mdt0_t52
              have m_m_mdt47_t54 : m_md t47 < m_md t54 := by omega
              have g_m_mdt47_t54 := (x_t54.2.2.1 (m_md t47) m_m_mdt47_t52).2.1 w_m_mdt47_t52 g_m_mdt47_t52
              have w_m_mdt47_t54 : W5 t54 (m_md t47) := (x_t54.2.2.1 (m_md t47) m_m_mdt47_t52).1 w_m_mdt47_t52
              have u_m_mdt47_t54 := (x_t54.2.2.1 (m_md t47) m_m_mdt47_t52).2.2.2.1 u_m_mdt47_t52
              refine Kp_push C_t54 (by omega) (fun t55 C_t55 x_t55 a_t55 b_t55 d_t55 w_t55 u_t55 v_t55 _ _ _ l_t55 => ?_)
              have e_t55 := C_t55.2.2.2.1
              have m_n_t55 : n < m_md t55 := by omega
              have g_n_t55 := (x_t55.2.2.1 n m_n_t54).2.1 w_n_t54 g_n_t54
              have w_n_t55 : W5 t55 n := (x_t55.2.2.1 n m_n_t54).1 w_n_t54
              have f_n_t55 : Fz t55 n := (x_t55.2.2.1 n m_n_t54).2.2.1 f_n_t54
              have m_m_mdt0_t55 : m_md t0 < m_md t55 := by omega
              have g_m_mdt0_t55 := (x_t55.2.2.1 (m_md t0) m_m_mdt0_t54).2.1 w_m_mdt0_t54 g_m_mdt0_t54
              have w_m_mdt0_t55 : W5 t55 (m_md t0) := (x_t55.2.2.1 (m_md t0) m_m_mdt0_t54).1 w_m_mdt0_t54
              have f_m_mdt0_t55 : Fz t55 (m_md t0) := (x_t55.2.2.1 (m_md t0) m_m_mdt0_t54).2.2.1 f_m_mdt0_t54
              have u_m_mdt0_t55 := (x_t55.2.2.1 (m_md t0) m_m_mdt0_t54).2.2.2.1 u_m_mdt0_t54
              have m_m_mdt47_t55 : m_md t47 < m_md t55 := by omega
              have g_m_mdt47_t55 := (x_t55.2.2.1 (m_md t47) m_m_mdt47_t54).2.1 w_m_mdt47_t54 g_m_mdt47_t54
              have w_m_mdt47_t55 : W5 t55 (m_md t47) := (x_t55.2.2.1 (m_md t47) m_m_mdt47_t54).1 w_m_mdt47_t54
              have u_m_mdt47_t55 := (x_t55.2.2.1 (m_md t47) m_m_mdt47_t54).2.2.2.1 u_m_mdt47_t54
              refine Ok_ret (show Ok _ _ _ from ?_)
              refine Ok_ret (show Ok _ _ _ from ?_)
              refine Ok_ret (show Ok _ _ _ from ?_)
              refine Ok_ret (show Ok _ _ _ from ?_)
              refine Hv_mk C_t55 hT (by omega) (by omega) (by omega) ?_ ?_ ?_ (by omega) ?_ ?_
              · exact ⟨(Io_n (by decide) (show 0 &&& 1 < 4096 from by omega) m_m_mdt47_t55 g_m_mdt47_t55 w_m_mdt47_t55 (fun q => absurd q (by decide)) (fun q => absurd q (by decide))), (Nd_0 (by decide) Mo_nil), ⟨(Io_2 (by have := or_256 (b := 1) (show (0 &&& 1) < 256 from by omega); omega) (by have := or_256 (b := 1) (show (0 &&& 1) < 256 from by omega); omega) (by have := or_256 (b := 1) (show (0 &&& 1) < 256 from by omega); omega) m_m_mdt47_t55 g_m_mdt47_t55 w_m_mdt47_t55), (Nd_A (by decide) (Mo_cons (fun q => show m_md t47 ≤ m_md t47 from by omega) Mo_nil) (Or.inr ⟨(3, m_md t47, 0 &&& 1), List.mem_cons_self, rfl, Or.inl rfl⟩)), ⟨(Io_n (by decide) (show 0 &&& 1 < 4096 from by omega) m_m_mdt47_t55 g_m_mdt47_t55 w_m_mdt47_t55 (fun q => absurd q (by decide)) (fun q => absurd q (by decide))), (Nd_0 (by decide) (Mo_cons (fun q => show m_md t47 ≤ m_md t47 from by omega) (Mo_cons (fun q => show m_md t47 ≤ m_md t47 from by omega) Mo_nil))), ⟨(Io_n (by decide) (by decide) m_m_mdt0_t55 g_m_mdt0_t55 w_m_mdt0_t55 (fun q => absurd q (by decide)) (fun q => absurd q (by decide))), (Nd_0 (by decide) (Mo_cons (fun q => show m_md t0 ≤ m_md t47 from by omega) (Mo_cons (fun q => show m_md t0 ≤ m_md t47 from by omega) (Mo_cons (fun q => show m_md t0 ≤ m_md t47 from by omega) Mo_nil)))), ⟨(Io_n (by decide) (show t < 4096 from by omega) m_n_t55 g_n_t55 w_n_t55 (fun q => absurd q (by decide)) (fun q => absurd q (by decide))), (Nd_0 (by decide) (Mo_cons (fun q => show n ≤ m_md t0 from by omega) (Mo_cons (fun q => show n ≤ m_md t47 from by omega) (Mo_cons (fun q => show n ≤ m_md t47 from by omega) (Mo_cons (fun q => show n ≤ m_md t47 from by omega) Mo_nil))))), Stk_step (N := n) (pop := (51, n, t)) (new := [(51, n, t), (52, m_md t0, 0), (32, m_md t47, 0 &&& 1), (2, m_md t47, (0 &&& 1) ||| (1 * 256)), (3, m_md t47, 0 &&& 1)]) F0 C_t55.1 (fun _ => m_n_t0) (fun q _ h => h (51, n, t) rfl) (fun _ => rfl) (fun y hy hk => ⟨rfl, (Mo_cons (fun q => show n ≤ n from by omega) (Mo_cons (fun q => show n ≤ m_md t0 from by omega) (Mo_cons (fun q => show n ≤ m_md t47 from by omega) (Mo_cons (fun q => show n ≤ m_md t47 from by omega) (Mo_cons (fun q => show n ≤ m_md t47 from by omega) Mo_nil))))) y hy hk⟩) (fun (h : 51 = 3 ∨ 51 = 18 ∨ 51 = 41) => absurd h (by decide)) (fun (h : 51 = 18) => absurd h (by decide)) (fun (h : 51 = 41 ∨ 51 = 42 ∨ 51 = 43) => absurd h (by decide)) r [] (fun y hy => absurd hy List.not_mem_nil) hS⟩⟩⟩⟩⟩
              · exact (Aj_up (x := (3, m_md t47, 0 &&& 1)) (Aj_up (x := (2, m_md t47, (0 &&& 1) ||| (1 * 256))) (Aj_up (x := (32, m_md t47, 0 &&& 1)) (Aj_up (x := (52, m_md t0, 0)) (Aj_sub (y := (51, n, t)) hJ (Nat.le_of_ble_eq_true rfl)) (Or.inl (Nat.le_of_ble_eq_true rfl))) (Or.inr (Nat.le_of_ble_eq_true rfl))) (Or.inr (show 9 - ((0 &&& 1) ||| (1 * 256)) / 256 < 9 from by have := or_256 (b := 1) (show (0 &&& 1) < 256 from by omega); omega))) (Or.inr (show 2 < 9 - ((0 &&& 1) ||| (1 * 256)) / 256 from by have := or_256 (b := 1) (show (0 &&& 1) < 256 from by omega); omega)))
              · show m_dp t55 = (dlt 3 + (dlt 2 + (dlt 32 + (dlt 52 + (dlt 51 + sD r)))))
                have : dlt 2 = 0 := rfl; have : dlt 3 = 0 := rfl; have : dlt 32 = 0 := rfl; have : dlt 51 = 1 := rfl; have : dlt 52 = 0 := rfl; omega
              · show m_rw t55 = (rho 3 + (rho 2 + (rho 32 + (rho 52 + (rho 51 + sR r)))))
                have : rho 2 = 0 := rfl; have : rho 3 = 0 := rfl; have : rho 32 = 0 := rfl; have : rho 51 = 0 := rfl; have : rho 52 = 0 := rfl; omega
              · show m_md t55 + (mu7 3 + (mu7 2 + (mu7 32 + (mu7 52 + (mu7 51 + sM r))))) ≤ 3 * m_at t55 + 7 * (r.length + 1 + 1 + 1 + 1 + 1) + 10
                have : mu7 2 = 7 := rfl; have : mu7 3 = 5 := rfl; have : mu7 32 = 7 := rfl; have : mu7 51 = 4 := rfl; have : mu7 52 = 5 := rfl; omega
            · refine Ok_ife (show t < 2147483648 from by omega) (by decide) (fun q56 => ?_) (fun q56 => ?_)
              · refine Kp_push C_t47 (by omega) (fun t57 C_t57 x_t57 a_t57 b_t57 d_t57 w_t57 u_t57 v_t57 _ _ _ l_t57 => ?_)
                have e_t57 := C_t57.2.2.2.1
                have m_n_t57 : n < m_md t57 := by omega
                have g_n_t57 := (x_t57.2.2.1 n m_n_t47).2.1 w_n_t47 g_n_t47
                have w_n_t57 : W5 t57 n := (x_t57.2.2.1 n m_n_t47).1 w_n_t47
                have f_n_t57 : Fz t57 n := (x_t57.2.2.1 n m_n_t47).2.2.1 f_n_t47
                have m_m_mdt0_t57 : m_md t0 < m_md t57 := by omega
                have g_m_mdt0_t57 := (x_t57.2.2.1 (m_md t0) m_m_mdt0_t47).2.1 w_m_mdt0_t47 g_m_mdt0_t47
                have w_m_mdt0_t57 : W5 t57 (m_md t0) := (x_t57.2.2.1 (m_md t0) m_m_mdt0_t47).1 w_m_mdt0_t47
                have u_m_mdt0_t57 := (x_t57.2.2.1 (m_md t0) m_m_mdt0_t47).2.2.2.1 u_m_mdt0_t47
                refine Ok_ret (show Ok _ _ _ from ?_)
                refine Ok_ret (show Ok _ _ _ from ?_)
                refine Hv_mk C_t57 hT (by omega) (by omega) (by omega) ?_ ?_ ?_ (by omega) ?_ ?_
                · exact ⟨(Io_n (by decide) (by decide) m_m_mdt0_t57 g_m_mdt0_t57 w_m_mdt0_t57 (fun _ => u_m_mdt0_t57) (fun q => absurd q (by decide))), (Nd_0 (by decide) Mo_nil), ⟨(Io_n (by decide) (by decide) m_m_mdt0_t57 g_m_mdt0_t57 w_m_mdt0_t57 (fun q => absurd q (by decide)) (fun q => absurd q (by decide))), (Nd_0 (by decide) (Mo_cons (fun q => show m_md t0 ≤ m_md t0 from by omega) Mo_nil)), ⟨(Io_n (by decide) (show t < 4096 from by omega) m_n_t57 g_n_t57 w_n_t57 (fun q => absurd q (by decide)) (fun q => absurd q (by decide))), (Nd_0 (by decide) (Mo_cons (fun q => show n ≤ m_md t0 from by omega) (Mo_cons (fun q => show n ≤ m_md t0 from by omega) Mo_nil))), Stk_step (N := n) (pop := (51, n, t)) (new := [(51, n, t), (52, m_md t0, 0), (41, m_md t0, 32)]) F0 C_t57.1 (fun _ => m_n_t0) (fun q _ h => h (51, n, t) rfl) (fun _ => rfl) (fun y hy hk => ⟨rfl, (Mo_cons (fun q => show n ≤ n from by omega) (Mo_cons (fun q => show n ≤ m_md t0 from by omega) (Mo_cons (fun q => show n ≤ m_md t0 from by omega) Mo_nil))) y hy hk⟩) (fun (h : 51 = 3 ∨ 51 = 18 ∨ 51 = 41) => absurd h (by decide)) (fun (h : 51 = 18) => absurd h (by decide)) (fun (h : 51 = 41 ∨ 51 = 42 ∨ 51 = 43) => absurd h (by decide)) r [] (fun y hy => absurd hy List.not_mem_nil) hS⟩⟩⟩
                · exact (Aj_up (x := (41, m_md t0, 32)) (Aj_up (x := (52, m_md t0, 0)) (Aj_sub (y := (51, n, t)) hJ (Nat.le_of_ble_eq_true rfl)) (Or.inl (Nat.le_of_ble_eq_true rfl))) (Or.inr (Nat.le_of_ble_eq_true rfl)))
                · show m_dp t57 = (dlt 41 + (dlt 52 + (dlt 51 + sD r)))
                  have : dlt 41 = 0 := rfl; have : dlt 51 = 1 := rfl; have : dlt 52 = 0 := rfl; omega
                · show m_rw t57 = (rho 41 + (rho 52 + (rho 51 + sR r)))
                  have : rho 41 = 0 := rfl; have : rho 51 = 0 := rfl; have : rho 52 = 0 := rfl; omega
                · show m_md t57 + (mu7 41 + (mu7 52 + (mu7 51 + sM r))) ≤ 3 * m_at t57 + 7 * (r.length + 1 + 1 + 1) + 10
                  have : mu7 41 = 6 := rfl; have : mu7 51 = 4 := rfl; have : mu7 52 = 5 := rfl; omega
              · refine Kp_child C_t47 m_m_mdt0_t47 g_m_mdt0_t47 w_m_mdt0_t47 (by omega) (by omega) (fun t58 C_t58 x_t58 a_t58 b_t58 d_t58 w_t58 u_t58 v_t58 wn_t58 fn_t58 fp_t58 _ l_t58 => ?_)
                have e_t58 := C_t58.2.2.2.1
                have m_n_t58 : n < m_md t58 := by omega
                have g_n_t58 := (x_t58.2.2.1 n m_n_t47).2.1 w_n_t47 g_n_t47
                have w_n_t58 : W5 t58 n := (x_t58.2.2.1 n m_n_t47).1 w_n_t47
                have f_n_t58 : Fz t58 n := (x_t58.2.2.1 n m_n_t47).2.2.1 f_n_t47
                have m_m_mdt0_t58 : m_md t0 < m_md t58 := by omega
                have g_m_mdt0_t58 := (x_t58.2.2.1 (m_md t0) m_m_mdt0_t47).2.1 w_m_mdt0_t47 g_m_mdt0_t47
                have w_m_mdt0_t58 : W5 t58 (m_md t0) := (x_t58.2.2.1 (m_md t0) m_m_mdt0_t47).1 w_m_mdt0_t47
                have u_m_mdt0_t58 := (x_t58.2.2.1 (m_md t0) m_m_mdt0_t47).2.2.2.1 u_m_mdt0_t47
                have f_m_mdt0_t58 : Fz t58 (m_md t0) := fp_t58
                have m_m_mdt47_t58 : m_md t47 < m_md t58 := by omega
                have g_m_mdt47_t58 : GdS t58 (m_md t47) := Or.inl fn_t58
                have w_m_mdt47_t58 : W5 t58 (m_md t47) := by unfold W5; rw [wn_t58]; decide
                have u_m_mdt47_t58 : Up t58 (m_md t47) := Or.inl fn_t58
                clear fp_t58 fn_t58 wn_t58
                refine Kp_push C_t58 (by omega) (fun t59 C_t59 x_t59 a_t59 b_t59 d_t59 w_t59 u_t59 v_t59 _ _ _ l_t59 => ?_)
                have e_t59 := C_t59.2.2.2.1
                have m_n_t59 : n < m_md t59 := by omega
                have g_n_t59 := (x_t59.2.2.1 n m_n_t58).2.1 w_n_t58 g_n_t58
                have w_n_t59 : W5 t59 n := (x_t59.2.2.1 n m_n_t58).1 w_n_t58
                have f_n_t59 : Fz t59 n := (x_t59.2.2.1 n m_n_t58).2.2.1 f_n_t58
                have m_m_mdt0_t59 : m_md t0 < m_md t59 := by omega
                have g_m_mdt0_t59 := (x_t59.2.2.1 (m_md t0) m_m_mdt0_t58).2.1 w_m_mdt0_t58 g_m_mdt0_t58
                have w_m_mdt0_t59 : W5 t59 (m_md t0) := (x_t59.2.2.1 (m_md t0) m_m_mdt0_t58).1 w_m_mdt0_t58
                have f_m_mdt0_t59 : Fz t59 (m_md t0) := (x_t59.2.2.1 (m_md t0) m_m_mdt0_t58).2.2.1 f_m_mdt0_t58
                have u_m_mdt0_t59 := (x_t59.2.2.1 (m_md t0) m_m_mdt0_t58).2.2.2.1 u_m_mdt0_t58
                have m_m_mdt47_t59 : m_md t47 < m_md t59 := by omega
                have g_m_mdt47_t59 := (x_t59.2.2.1 (m_md t47) m_m_mdt47_t58).2.1 w_m_mdt47_t58 g_m_mdt47_t58
                have w_m_mdt47_t59 : W5 t59 (m_md t47) := (x_t59.2.2.1 (m_md t47) m_m_mdt47_t58).1 w_m_mdt47_t58
                have u_m_mdt47_t59 := (x_t59.2.2.1 (m_md t47) m_m_mdt47_t58).2.2.2.1 u_m_mdt47_t58
                refine Kp_push C_t59 (by omega) (fun t60 C_t60 x_t60 a_t60 b_t60 d_t60 w_t60 u_t60 v_t60 _ _ _ l_t60 => ?_)
                have e_t60 := C_t60.2.2.2.1
                have m_n_t60 : n < m_md t60 := by omega
                have g_n_t60 := (x_t60.2.2.1 n m_n_t59).2.1 w_n_t59 g_n_t59
                have w_n_t60 : W5 t60 n := (x_t60.2.2.1 n m_n_t59).1 w_n_t59
                have f_n_t60 : Fz t60 n := (x_t60.2.2.1 n m_n_t59).2.2.1 f_n_t59
                have m_m_mdt0_t60 : m_md t0 < m_md t60 := by omega
                have g_m_mdt0_t60 := (x_t60.2.2.1 (m_md t0) m_m_mdt0_t59).2.1 w_m_mdt0_t59 g_m_mdt0_t59
                have w_m_mdt0_t60 : W5 t60 (m_md t0) := (x_t60.2.2.1 (m_md t0) m_m_mdt0_t59).1 w_m_mdt0_t59
                have f_m_mdt0_t60 : Fz t60 (m_md t0) := (x_t60.2.2.1 (m_md t0) m_m_mdt0_t59).2.2.1 f_m_mdt0_t59
                have u_m_mdt0_t60 := (x_t60.2.2.1 (m_md t0) m_m_mdt0_t59).2.2.2.1 u_m_mdt0_t59
                have m_m_mdt47_t60 : m_md t47 < m_md t60 := by omega
                have g_m_mdt47_t60 := (x_t60.2.2.1 (m_md t47) m_m_mdt47_t59).2.1 w_m_mdt47_t59 g_m_mdt47_t59
                have w_m_mdt47_t60 : W5 t60 (m_md t47) := (x_t60.2.2.1 (m_md t47) m_m_mdt47_t59).1 w_m_mdt47_t59
                have u_m_mdt47_t60 := (x_t60.2.2.1 (m_md t47) m_m_mdt47_t59).2.2.2.1 u_m_mdt47_t59
                refine Ok_ret (show Ok _ _ _ from ?_)
                refine Ok_ret (show Ok _ _ _ from ?_)
                refine Hv_mk C_t60 hT (by omega) (by omega) (by omega) ?_ ?_ ?_ (by omega) ?_ ?_
                · exact ⟨(Io_n (by decide) (by decide) m_m_mdt47_t60 g_m_mdt47_t60 w_m_mdt47_t60 (fun q => absurd q (by decide)) (fun q => absurd q (by decide))), (Nd_0 (by decide) Mo_nil), ⟨(Io_n (by decide) (by decide) m_m_mdt47_t60 g_m_mdt47_t60 w_m_mdt47_t60 (fun q => absurd q (by decide)) (fun q => absurd q (by decide))), (Nd_0 (by decide) (Mo_cons (fun q => show m_md t47 ≤ m_md t47 from by omega) Mo_nil)), ⟨(Io_n (by decide) (by decide) m_m_mdt0_t60 g_m_mdt0_t60 w_m_mdt0_t60 (fun q => absurd q (by decide)) (fun q => absurd q (by decide))), (Nd_0 (by decide) (Mo_cons (fun q => show m_md t0 ≤ m_md t47 from by omega) (Mo_cons (fun q => show m_md t0 ≤ m_md t47 from by omega) Mo_nil))), ⟨(Io_n (by decide) (show t < 4096 from by omega) m_n_t60 g_n_t60 w_n_t60 (fun q => absurd q (by decide)) (fun q => absurd q (by decide))), (Nd_0 (by decide) (Mo_cons (fun q => show n ≤ m_md t0 from by omega) (Mo_cons (fun q => show n ≤ m_md t47 from by omega) (Mo_cons (fun q => show n ≤ m_md t47 from by omega) Mo_nil)))), Stk_step (N := n) (pop := (51, n, t)) (new := [(51, n, t), (52, m_md t0, 0), (53, m_md t47, 0), (18, m_md t47, 0)]) F0 C_t60.1 (fun _ => m_n_t0) (fun q _ h => h (51, n, t) rfl) (fun _ => rfl) (fun y hy hk => ⟨rfl, (Mo_cons (fun q => show n ≤ n from by omega) (Mo_cons (fun q => show n ≤ m_md t0 from by omega) (Mo_cons (fun q => show n ≤ m_md t47 from by omega) (Mo_cons (fun q => show n ≤ m_md t47 from by omega) Mo_nil)))) y hy hk⟩) (fun (h : 51 = 3 ∨ 51 = 18 ∨ 51 = 41) => absurd h (by decide)) (fun (h : 51 = 18) => absurd h (by decide)) (fun (h : 51 = 41 ∨ 51 = 42 ∨ 51 = 43) => absurd h (by decide)) r [] (fun y hy => absurd hy List.not_mem_nil) hS⟩⟩⟩⟩
                · exact (Aj_up (x := (18, m_md t47, 0)) (Aj_up (x := (53, m_md t47, 0)) (Aj_up (x := (52, m_md t0, 0)) (Aj_sub (y := (51, n, t)) hJ (Nat.le_of_ble_eq_true rfl)) (Or.inl (Nat.le_of_ble_eq_true rfl))) (Or.inr (Nat.le_of_ble_eq_true rfl))) (Or.inr (Nat.le_of_ble_eq_true rfl)))
                · show m_dp t60 = (dlt 18 + (dlt 53 + (dlt 52 + (dlt 51 + sD r))))
                  have : dlt 18 = 0 := rfl; have : dlt 51 = 1 := rfl; have : dlt 52 = 0 := rfl; have : dlt 53 = 0 := rfl; omega
                · show m_rw t60 = (rho 18 + (rho 53 + (rho 52 + (rho 51 + sR r))))
                  have : rho 18 = 0 := rfl; have : rho 51 = 0 := rfl; have : rho 52 = 0 := rfl; have : rho 53 = 0 := rfl; omega
                · show m_md t60 + (mu7 18 + (mu7 53 + (mu7 52 + (mu7 51 + sM r)))) ≤ 3 * m_at t60 + 7 * (r.length + 1 + 1 + 1 + 1) + 10
                  have : mu7 18 = 5 := rfl; have : mu7 51 = 4 := rfl; have : mu7 52 = 5 := rfl; have : mu7 53 = 7 := rfl; omega
        · refine Kp_child C_t0 m_n_t0 g_n_t0 w_n_t0 (by omega) (by omega) (fun t61 C_t61 x_t61 a_t61 b_t61 d_t61 w_t61 u_t61 v_t61 wn_t61 fn_t61 fp_t61 _ l_t61 => ?_)
          have e_t61 := C_t61.2.2.2.1
          have m_n_t61 : n < m_md t61 := by omega
          have g_n_t61 := (x_t61.2.2.1 n m_n_t0).2.1 w_n_t0 g_n_t0
          have w_n_t61 : W5 t61 n := (x_t61.2.2.1 n m_n_t0).1 w_n_t0
          have f_n_t61 : Fz t61 n := fp_t61
          have m_m_mdt0_t61 : m_md t0 < m_md t61 := by omega
          have g_m_mdt0_t61 : GdS t61 (m_md t0) := Or.inl fn_t61
          have w_m_mdt0_t61 : W5 t61 (m_md t0) := by unfold W5; rw [wn_t61]; decide
          have u_m_mdt0_t61 : Up t61 (m_md t0) := Or.inl fn_t61
          clear fp_t61 fn_t61 wn_t61
          have z_t62 : m_at t61 < m_ct t61 := lo_ne (Nat.ne_of_gt (show 0 < lo t61 (m_at t61) from by omega))
          refine Kp_at C_t61 (fun t62 C_t62 x_t62 a_t62 b_t62 d_t62 w_t62 u_t62 v_t62 _ _ _ l_t62 => ?_)
          have e_t62 := C_t62.2.2.2.1
          have m_n_t62 : n < m_md t62 := by omega
          have g_n_t62 := (x_t62.2.2.1 n m_n_t61).2.1 w_n_t61 g_n_t61
          have w_n_t62 : W5 t62 n := (x_t62.2.2.1 n m_n_t61).1 w_n_t61
          have f_n_t62 : Fz t62 n := (x_t62.2.2.1 n m_n_t61).2.2.1 f_n_t61
          have m_m_mdt0_t62 : m_md t0 < m_md t62 := by omega
          have g_m_mdt0_t62 := (x_t62.2.2.1 (m_md t0) m_m_mdt0_t61).2.1 w_m_mdt0_t61 g_m_mdt0_t61
          have w_m_mdt0_t62 : W5 t62 (m_md t0) := (x_t62.2.2.1 (m_md t0) m_m_mdt0_t61).1 w_m_mdt0_t61
          have u_m_mdt0_t62 := (x_t62.2.2.1 (m_md t0) m_m_mdt0_t61).2.2.2.1 u_m_mdt0_t61
          refine Kp_push C_t62 (by omega) (fun t63 C_t63 x_t63 a_t63 b_t63 d_t63 w_t63 u_t63 v_t63 _ _ _ l_t63 => ?_)
          have e_t63 := C_t63.2.2.2.1
          have m_n_t63 : n < m_md t63 := by omega
          have g_n_t63 := (x_t63.2.2.1 n m_n_t62).2.1 w_n_t62 g_n_t62
          have w_n_t63 : W5 t63 n := (x_t63.2.2.1 n m_n_t62).1 w_n_t62
          have f_n_t63 : Fz t63 n := (x_t63.2.2.1 n m_n_t62).2.2.1 f_n_t62
          have m_m_mdt0_t63 : m_md t0 < m_md t63 := by omega
          have g_m_mdt0_t63 := (x_t63.2.2.1 (m_md t0) m_m_mdt0_t62).2.1 w_m_mdt0_t62 g_m_mdt0_t62
          have w_m_mdt0_t63 : W5 t63 (m_md t0) := (x_t63.2.2.1 (m_md t0) m_m_mdt0_t62).1 w_m_mdt0_t62
          have u_m_mdt0_t63 := (x_t63.2.2.1 (m_md t0) m_m_mdt0_t62).2.2.2.1 u_m_mdt0_t62
          refine Kp_push C_t63 (by omega) (fun t64 C_t64 x_t64 a_t64 b_t64 d_t64 w_t64 u_t64 v_t64 _ _ _ l_t64 => ?_)
          have e_t64 := C_t64.2.2.2.1
          have m_n_t64 : n < m_md t64 := by omega
          have g_n_t64 := (x_t64.2.2.1 n m_n_t63).2.1 w_n_t63 g_n_t63
          have w_n_t64 : W5 t64 n := (x_t64.2.2.1 n m_n_t63).1 w_n_t63
          have f_n_t64 : Fz t64 n := (x_t64.2.2.1 n m_n_t63).2.2.1 f_n_t63
          have m_m_mdt0_t64 : m_md t0 < m_md t64 := by omega
          have g_m_mdt0_t64 := (x_t64.2.2.1 (m_md t0) m_m_mdt0_t63).2.1 w_m_mdt0_t63 g_m_mdt0_t63
          have w_m_mdt0_t64 : W5 t64 (m_md t0) := (x_t64.2.2.1 (m_md t0) m_m_mdt0_t63).1 w_m_mdt0_t63
          have u_m_mdt0_t64 := (x_t64.2.2.1 (m_md t0) m_m_mdt0_t63).2.2.2.1 u_m_mdt0_t63
          refine Ok_ife (Nat.lt_trans (lo_lt (C_t0.tk hT) _) (by decide)) (by decide) (fun q65 => ?_) (fun q65 => ?_)
          · refine Ok_ret (show Ok _ _ _ from ?_)
            refine Ok_ret (show Ok _ _ _ from ?_)
            refine Hv_mk C_t64 hT (by omega) (by omega) (by omega) ?_ ?_ ?_ (by omega) ?_ ?_
            · exact ⟨(Io_n (by decide) (by decide) m_m_mdt0_t64 g_m_mdt0_t64 w_m_mdt0_t64 (fun q => absurd q (by decide)) (fun q => absurd q (by decide))), (Nd_0 (by decide) Mo_nil), ⟨(Io_n (by decide) (show t < 4096 from by omega) m_n_t64 g_n_t64 w_n_t64 (fun q => absurd q (by decide)) (fun q => absurd q (by decide))), (Nd_0 (by decide) (Mo_cons (fun q => show n ≤ m_md t0 from by omega) Mo_nil)), Stk_step (N := n) (pop := (51, n, t)) (new := [(51, n, t), (52, m_md t0, 0)]) F0 C_t64.1 (fun _ => m_n_t0) (fun q _ h => h (51, n, t) rfl) (fun _ => rfl) (fun y hy hk => ⟨rfl, (Mo_cons (fun q => show n ≤ n from by omega) (Mo_cons (fun q => show n ≤ m_md t0 from by omega) Mo_nil)) y hy hk⟩) (fun (h : 51 = 3 ∨ 51 = 18 ∨ 51 = 41) => absurd h (by decide)) (fun (h : 51 = 18) => absurd h (by decide)) (fun (h : 51 = 41 ∨ 51 = 42 ∨ 51 = 43) => absurd h (by decide)) r [] (fun y hy => absurd hy List.not_mem_nil) hS⟩⟩
            · exact (Aj_up (x := (52, m_md t0, 0)) (Aj_sub (y := (51, n, t)) hJ (Nat.le_of_ble_eq_true rfl)) (Or.inl (Nat.le_of_ble_eq_true rfl)))
            · show m_dp t64 = (dlt 52 + (dlt 51 + sD r))
              have : dlt 51 = 1 := rfl; have : dlt 52 = 0 := rfl; omega
            · show m_rw t64 = (rho 52 + (rho 51 + sR r))
              have : rho 51 = 0 := rfl; have : rho 52 = 0 := rfl; omega
            · show m_md t64 + (mu7 52 + (mu7 51 + sM r)) ≤ 3 * m_at t64 + 7 * (r.length + 1 + 1) + 10
              have : mu7 51 = 4 := rfl; have : mu7 52 = 5 := rfl; omega
          · refine Ok_ifz (show t < 2147483648 from by omega) (fun q66 => ?_) (fun q66 => ?_)
            · refine Ok_bnc ?_
              try unfold b_X6_exprs
              refine Kp_child C_t64 m_m_mdt0_t64 g_m_mdt0_t64 w_m_mdt0_t64 (by omega) (by omega) (fun t68 C_t68 x_t68 a_t68 b_t68 d_t68 w_t68 u_t68 v_t68 wn_t68 fn_t68 fp_t68 _ l_t68 => ?_)
              have e_t68 := C_t68.2.2.2.1
              have m_n_t68 : n < m_md t68 := by omega
              have g_n_t68 := (x_t68.2.2.1 n m_n_t64).2.1 w_n_t64 g_n_t64
              have w_n_t68 : W5 t68 n := (x_t68.2.2.1 n m_n_t64).1 w_n_t64
              have f_n_t68 : Fz t68 n := (x_t68.2.2.1 n m_n_t64).2.2.1 f_n_t64
              have m_m_mdt0_t68 : m_md t0 < m_md t68 := by omega
              have g_m_mdt0_t68 := (x_t68.2.2.1 (m_md t0) m_m_mdt0_t64).2.1 w_m_mdt0_t64 g_m_mdt0_t64
              have w_m_mdt0_t68 : W5 t68 (m_md t0) := (x_t68.2.2.1 (m_md t0) m_m_mdt0_t64).1 w_m_mdt0_t64
              have u_m_mdt0_t68 := (x_t68.2.2.1 (m_md t0) m_m_mdt0_t64).2.2.2.1 u_m_mdt0_t64
              have f_m_mdt0_t68 : Fz t68 (m_md t0) := fp_t68
              have m_m_mdt64_t68 : m_md t64 < m_md t68 := by omega
              have g_m_mdt64_t68 : GdS t68 (m_md t64) := Or.inl fn_t68
              have w_m_mdt64_t68 : W5 t68 (m_md t64) := by unfold W5; rw [wn_t68]; decide
              have u_m_mdt64_t68 : Up t68 (m_md t64) := Or.inl fn_t68
              clear fp_t68 fn_t68 wn_t68
              refine Kp_push C_t68 (by omega) (fun t69 C_t69 x_t69 a_t69 b_t69 d_t69 w_t69 u_t69 v_t69 _ _ _ l_t69 => ?_)
              have e_t69 := C_t69.2.2.2.1
              have m_n_t69 : n < m_md t69 := by omega
              have g_n_t69 := (x_t69.2.2.1 n m_n_t68).2.1 w_n_t68 g_n_t68
              have w_n_t69 : W5 t69 n := (x_t69.2.2.1 n m_n_t68).1 w_n_t68
              have f_n_t69 : Fz t69 n := (x_t69.2.2.1 n m_n_t68).2.2.1 f_n_t68
              have m_m_mdt0_t69 : m_md t0 < m_md t69 := by omega
              have g_m_mdt0_t69 := (x_t69.2.2.1 (m_md t0) m_m_mdt0_t68).2.1 w_m_mdt0_t68 g_m_mdt0_t68
              have w_m_mdt0_t69 : W5 t69 (m_md t0) := (x_t69.2.2.1 (m_md t0) m_m_mdt0_t68).1 w_m_mdt0_t68
              have f_m_mdt0_t69 : Fz t69 (m_md t0) := (x_t69.2.2.1 (m_md t0) m_m_mdt0_t68).2.2.1 f_m_mdt0_t68
              have u_m_mdt0_t69 := (x_t69.2.2.1 (m_md t0) m_m_mdt0_t68).2.2.2.1 u_m_mdt0_t68
              have m_m_mdt64_t69 : m_md t64 < m_md t69 := by omega
              have g_m_mdt64_t69 := (x_t69.2.2.1 (m_md t64) m_m_mdt64_t68).2.1 w_m_mdt64_t68 g_m_mdt64_t68
              have w_m_mdt64_t69 : W5 t69 (m_md t64) := (x_t69.2.2.1 (m_md t64) m_m_mdt64_t68).1 w_m_mdt64_t68
              have u_m_mdt64_t69 := (x_t69.2.2.1 (m_md t64) m_m_mdt64_t68).2.2.2.1 u_m_mdt64_t68
              refine Ok_bnc ?_
              try unfold b_X6_expression
              refine Kp_push C_t69 (by omega) (fun t71 C_t71 x_t71 a_t71 b_t71 d_t71 w_t71 u_t71 v_t71 _ _ _ l_t71 => ?_)
              have e_t71 := C_t71.2.2.2.1
              have m_n_t71 : n < m_md t71 := by omega
              have g_n_t71 := (x_t71.2.2.1 n m_n_t69).2.1 w_n_t69 g_n_t69
              have w_n_t71 : W5 t71 n := (x_t71.2.2.1 n m_n_t69).1 w_n_t69
              have f_n_t71 : Fz t71 n := (x_t71.2.2.1 n m_n_t69).2.2.1 f_n_t69
              have m_m_mdt0_t71 : m_md t0 < m_md t71 := by omega
              have g_m_mdt0_t71 := (x_t71.2.2.1 (m_md t0) m_m_mdt0_t69).2.1 w_m_mdt0_t69 g_m_mdt0_t69
              have w_m_mdt0_t71 : W5 t71 (m_md t0) := (x_t71.2.2.1 (m_md t0) m_m_mdt0_t69).1 w_m_mdt0_t69
              have f_m_mdt0_t71 : Fz t71 (m_md t0) := (x_t71.2.2.1 (m_md t0) m_m_mdt0_t69).2.2.1 f_m_mdt0_t69
              have u_m_mdt0_t71 := (x_t71.2.2.1 (m_md t0) m_m_mdt0_t69).2.2.2.1 u_m_mdt0_t69
              have m_m_mdt64_t71 : m_md t64 < m_md t71 := by omega
              have g_m_mdt64_t71 := (x_t71.2.2.1 (m_md t64) m_m_mdt64_t69).2.1 w_m_mdt64_t69 g_m_mdt64_t69
              have w_m_mdt64_t71 : W5 t71 (m_md t64) := (x_t71.2.2.1 (m_md t64) m_m_mdt64_t69).1 w_m_mdt64_t69
              have u_m_mdt64_t71 := (x_t71.2.2.1 (m_md t64) m_m_mdt64_t69).2.2.2.1 u_m_mdt64_t69
              refine Kp_push C_t71 (by omega) (fun t72 C_t72 x_t72 a_t72 b_t72 d_t72 w_t72 u_t72 v_t72 _ _ _ l_t72 => ?_)
              have e_t72 := C_t72.2.2.2.1
              have m_n_t72 : n < m_md t72 := by omega
              have g_n_t72 := (x_t72.2.2.1 n m_n_t71).2.1 w_n_t71 g_n_t71
              have w_n_t72 : W5 t72 n := (x_t72.2.2.1 n m_n_t71).1 w_n_t71
              have f_n_t72 : Fz t72 n := (x_t72.2.2.1 n m_n_t71).2.2.1 f_n_t71
              have m_m_mdt0_t72 : m_md t0 < m_md t72 := by omega
              have g_m_mdt0_t72 := (x_t72.2.2.1 (m_md t0) m_m_mdt0_t71).2.1 w_m_mdt0_t71 g_m_mdt0_t71
              have w_m_mdt0_t72 : W5 t72 (m_md t0) := (x_t72.2.2.1 (m_md t0) m_m_mdt0_t71).1 w_m_mdt0_t71
              have f_m_mdt0_t72 : Fz t72 (m_md t0) := (x_t72.2.2.1 (m_md t0) m_m_mdt0_t71).2.2.1 f_m_mdt0_t71
              have u_m_mdt0_t72 := (x_t72.2.2.1 (m_md t0) m_m_mdt0_t71).2.2.2.1 u_m_mdt0_t71
              have m_m_mdt64_t72 : m_md t64 < m_md t72 := by omega
              have g_m_mdt64_t72 := (x_t72.2.2.1 (m_md t64) m_m_mdt64_t71).2.1 w_m_mdt64_t71 g_m_mdt64_t71
              have w_m_mdt64_t72 : W5 t72 (m_md t64) := (x_t72.2.2.1 (m_md t64) m_m_mdt64_t71).1 w_m_mdt64_t71
              have u_m_mdt64_t72 := (x_t72.2.2.1 (m_md t64) m_m_mdt64_t71).2.2.2.1 u_m_mdt64_t71
              refine Ok_ret (show Ok _ _ _ from ?_)
              refine Ok_ret (show Ok _ _ _ from ?_)
              refine Ok_ret (show Ok _ _ _ from ?_)
              refine Ok_ret (show Ok _ _ _ from ?_)
              refine Hv_mk C_t72 hT (by omega) (by omega) (by omega) ?_ ?_ ?_ (by omega) ?_ ?_
              · exact ⟨(Io_n (by decide) (show 0 &&& 1 < 4096 from by omega) m_m_mdt64_t72 g_m_mdt64_t72 w_m_mdt64_t72 (fun q => absurd q (by decide)) (fun q => absurd q (by decide))), (Nd_0 (by decide) Mo_nil), ⟨(Io_2 (by have := or_256 (b := 1) (show (0 &&& 1) < 256 from by omega); omega) (by have := or_256 (b := 1) (show (0 &&& 1) < 256 from by omega); omega) (by have := or_256 (b := 1) (show (0 &&& 1) < 256 from by omega); omega) m_m_mdt64_t72 g_m_mdt64_t72 w_m_mdt64_t72), (Nd_A (by decide) (Mo_cons (fun q => show m_md t64 ≤ m_md t64 from by omega) Mo_nil) (Or.inr ⟨(3, m_md t64, 0 &&& 1), List.mem_cons_self, rfl, Or.inl rfl⟩)), ⟨(Io_n (by decide) (show 0 &&& 1 < 4096 from by omega) m_m_mdt64_t72 g_m_mdt64_t72 w_m_mdt64_t72 (fun q => absurd q (by decide)) (fun q => absurd q (by decide))), (Nd_0 (by decide) (Mo_cons (fun q => show m_md t64 ≤ m_md t64 from by omega) (Mo_cons (fun q => show m_md t64 ≤ m_md t64 from by omega) Mo_nil))), ⟨(Io_n (by decide) (by decide) m_m_mdt0_t72 g_m_mdt0_t72 w_m_mdt0_t72 (fun q => absurd q (by decide)) (fun q => absurd q (by decide))), (Nd_0 (by decide) (Mo_cons (fun q => show m_md t0 ≤ m_md t64 from by omega) (Mo_cons (fun q => show m_md t0 ≤ m_md t64 from by omega) (Mo_cons (fun q => show m_md t0 ≤ m_md t64 from by omega) Mo_nil)))), ⟨(Io_n (by decide) (show t < 4096 from by omega) m_n_t72 g_n_t72 w_n_t72 (fun q => absurd q (by decide)) (fun q => absurd q (by decide))), (Nd_0 (by decide) (Mo_cons (fun q => show n ≤ m_md t0 from by omega) (Mo_cons (fun q => show n ≤ m_md t64 from by omega) (Mo_cons (fun q => show n ≤ m_md t64 from by omega) (Mo_cons (fun q => show n ≤ m_md t64 from by omega) Mo_nil))))), Stk_step (N := n) (pop := (51, n, t)) (new := [(51, n, t), (52, m_md t0, 0), (32, m_md t64, 0 &&& 1), (2, m_md t64, (0 &&& 1) ||| (1 * 256)), (3, m_md t64, 0 &&& 1)]) F0 C_t72.1 (fun _ => m_n_t0) (fun q _ h => h (51, n, t) rfl) (fun _ => rfl) (fun y hy hk => ⟨rfl, (Mo_cons (fun q => show n ≤ n from by omega) (Mo_cons (fun q => show n ≤ m_md t0 from by omega) (Mo_cons (fun q => show n ≤ m_md t64 from by omega) (Mo_cons (fun q => show n ≤ m_md t64 from by omega) (Mo_cons (fun q => show n ≤ m_md t64 from by omega) Mo_nil))))) y hy hk⟩) (fun (h : 51 = 3 ∨ 51 = 18 ∨ 51 = 41) => absurd h (by decide)) (fun (h : 51 = 18) => absurd h (by decide)) (fun (h : 51 = 41 ∨ 51 = 42 ∨ 51 = 43) => absurd h (by decide)) r [] (fun y hy => absurd hy List.not_mem_nil) hS⟩⟩⟩⟩⟩
              · exact (Aj_up (x := (3, m_md t64, 0 &&& 1)) (Aj_up (x := (2, m_md t64, (0 &&& 1) ||| (1 * 256))) (Aj_up (x := (32, m_md t64, 0 &&& 1)) (Aj_up (x := (52, m_md t0, 0)) (Aj_sub (y := (51, n, t)) hJ (Nat.le_of_ble_eq_true rfl)) (Or.inl (Nat.le_of_ble_eq_true rfl))) (Or.inr (Nat.le_of_ble_eq_true rfl))) (Or.inr (show 9 - ((0 &&& 1) ||| (1 * 256)) / 256 < 9 from by have := or_256 (b := 1) (show (0 &&& 1) < 256 from by omega); omega))) (Or.inr (show 2 < 9 - ((0 &&& 1) ||| (1 * 256)) / 256 from by have := or_256 (b := 1) (show (0 &&& 1) < 256 from by omega); omega)))
              · show m_dp t72 = (dlt 3 + (dlt 2 + (dlt 32 + (dlt 52 + (dlt 51 + sD r)))))
                have : dlt 2 = 0 := rfl; have : dlt 3 = 0 := rfl; have : dlt 32 = 0 := rfl; have : dlt 51 = 1 := rfl; have : dlt 52 = 0 := rfl; omega
              · show m_rw t72 = (rho 3 + (rho 2 + (rho 32 + (rho 52 + (rho 51 + sR r)))))
                have : rho 2 = 0 := rfl; have : rho 3 = 0 := rfl; have : rho 32 = 0 := rfl; have : rho 51 = 0 := rfl; have : rho 52 = 0 := rfl; omega
              · show m_md t72 + (mu7 3 + (mu7 2 + (mu7 32 + (mu7 52 + (mu7 51 + sM r))))) ≤ 3 * m_at t72 + 7 * (r.length + 1 + 1 + 1 + 1 + 1) + 10
                have : mu7 2 = 7 := rfl; have : mu7 3 = 5 := rfl; have : mu7 32 = 7 := rfl; have : mu7 51 = 4 := rfl; have : mu7 52 = 5 := rfl; omega
            · refine Ok_ife (show t < 2147483648 from by omega) (by decide) (fun q73 => ?_) (fun q73 => ?_)
              · refine Kp_push C_t64 (by omega) (fun t74 C_t74 x_t74 a_t74 b_t74 d_t74 w_t74 u_t74 v_t74 _ _ _ l_t74 => ?_)
                have e_t74 := C_t74.2.2.2.1
                have m_n_t74 : n < m_md t74 := by omega
                have g_n_t74 := (x_t74.2.2.1 n m_n_t64).2.1 w_n_t64 g_n_t64
                have w_n_t74 : W5 t74 n := (x_t74.2.2.1 n m_n_t64).1 w_n_t64
                have f_n_t74 : Fz t74 n := (x_t74.2.2.1 n m_n_t64).2.2.1 f_n_t64
                have m_m_mdt0_t74 : m_md t0 < m_md t74 := by omega
                have g_m_mdt0_t74 := (x_t74.2.2.1 (m_md t0) m_m_mdt0_t64).2.1 w_m_mdt0_t64 g_m_mdt0_t64
                have w_m_mdt0_t74 : W5 t74 (m_md t0) := (x_t74.2.2.1 (m_md t0) m_m_mdt0_t64).1 w_m_mdt0_t64
                have u_m_mdt0_t74 := (x_t74.2.2.1 (m_md t0) m_m_mdt0_t64).2.2.2.1 u_m_mdt0_t64
                refine Ok_ret (show Ok _ _ _ from ?_)
                refine Ok_ret (show Ok _ _ _ from ?_)
                refine Hv_mk C_t74 hT (by omega) (by omega) (by omega) ?_ ?_ ?_ (by omega) ?_ ?_
                · exact ⟨(Io_n (by decide) (by decide) m_m_mdt0_t74 g_m_mdt0_t74 w_m_mdt0_t74 (fun _ => u_m_mdt0_t74) (fun q => absurd q (by decide))), (Nd_0 (by decide) Mo_nil), ⟨(Io_n (by decide) (by decide) m_m_mdt0_t74 g_m_mdt0_t74 w_m_mdt0_t74 (fun q => absurd q (by decide)) (fun q => absurd q (by decide))), (Nd_0 (by decide) (Mo_cons (fun q => show m_md t0 ≤ m_md t0 from by omega) Mo_nil)), ⟨(Io_n (by decide) (show t < 4096 from by omega) m_n_t74 g_n_t74 w_n_t74 (fun q => absurd q (by decide)) (fun q => absurd q (by decide))), (Nd_0 (by decide) (Mo_cons (fun q => show n ≤ m_md t0 from by omega) (Mo_cons (fun q => show n ≤ m_md t0 from by omega) Mo_nil))), Stk_step (N := n) (pop := (51, n, t)) (new := [(51, n, t), (52, m_md t0, 0), (41, m_md t0, 32)]) F0 C_t74.1 (fun _ => m_n_t0) (fun q _ h => h (51, n, t) rfl) (fun _ => rfl) (fun y hy hk => ⟨rfl, (Mo_cons (fun q => show n ≤ n from by omega) (Mo_cons (fun q => show n ≤ m_md t0 from by omega) (Mo_cons (fun q => show n ≤ m_md t0 from by omega) Mo_nil))) y hy hk⟩) (fun (h : 51 = 3 ∨ 51 = 18 ∨ 51 = 41) => absurd h (by decide)) (fun (h : 51 = 18) => absurd h (by decide)) (fun (h : 51 = 41 ∨ 51 = 42 ∨ 51 = 43) => absurd h (by decide)) r [] (fun y hy => absurd hy List.not_mem_nil) hS⟩⟩⟩
                · exact (Aj_up (x := (41, m_md t0, 32)) (Aj_up (x := (52, m_md t0, 0)) (Aj_sub (y := (51, n, t)) hJ (Nat.le_of_ble_eq_true rfl)) (Or.inl (Nat.le_of_ble_eq_true rfl))) (Or.inr (Nat.le_of_ble_eq_true rfl)))
                · show m_dp t74 = (dlt 41 + (dlt 52 + (dlt 51 + sD r)))
                  have : dlt 41 = 0 := rfl; have : dlt 51 = 1 := rfl; have : dlt 52 = 0 := rfl; omega
                · show m_rw t74 = (rho 41 + (rho 52 + (rho 51 + sR r)))
                  have : rho 41 = 0 := rfl; have : rho 51 = 0 := rfl; have : rho 52 = 0 := rfl; omega
                · show m_md t74 + (mu7 41 + (mu7 52 + (mu7 51 + sM r))) ≤ 3 * m_at t74 + 7 * (r.length + 1 + 1 + 1) + 10
                  have : mu7 41 = 6 := rfl; have : mu7 51 = 4 := rfl; have : mu7 52 = 5 := rfl; omega
              · refine Kp_child C_t64 m_m_mdt0_t64 g_m_mdt0_t64 w_m_mdt0_t64 (by omega) (by omega) (fun t75 C_t75 x_t75 a_t75 b_t75 d_t75 w_t75 u_t75 v_t75 wn_t75 fn_t75 fp_t75 _ l_t75 => ?_)
                have e_t75 := C_t75.2.2.2.1
                have m_n_t75 : n < m_md t75 := by omega
                have g_n_t75 := (x_t75.2.2.1 n m_n_t64).2.1 w_n_t64 g_n_t64
                have w_n_t75 : W5 t75 n := (x_t75.2.2.1 n m_n_t64).1 w_n_t64
                have f_n_t75 : Fz t75 n := (x_t75.2.2.1 n m_n_t64).2.2.1 f_n_t64
                have m_m_mdt0_t75 : m_md t0 < m_md t75 := by omega
                have g_m_mdt0_t75 := (x_t75.2.2.1 (m_md t0) m_m_mdt0_t64).2.1 w_m_mdt0_t64 g_m_mdt0_t64
                have w_m_mdt0_t75 : W5 t75 (m_md t0) := (x_t75.2.2.1 (m_md t0) m_m_mdt0_t64).1 w_m_mdt0_t64
                have u_m_mdt0_t75 := (x_t75.2.2.1 (m_md t0) m_m_mdt0_t64).2.2.2.1 u_m_mdt0_t64
                have f_m_mdt0_t75 : Fz t75 (m_md t0) := fp_t75
                have m_m_mdt64_t75 : m_md t64 < m_md t75 := by omega
                have g_m_mdt64_t75 : GdS t75 (m_md t64) := Or.inl fn_t75
                have w_m_mdt64_t75 : W5 t75 (m_md t64) := by unfold W5; rw [wn_t75]; decide
                have u_m_mdt64_t75 : Up t75 (m_md t64) := Or.inl fn_t75
                clear fp_t75 fn_t75 wn_t75
                refine Kp_push C_t75 (by omega) (fun t76 C_t76 x_t76 a_t76 b_t76 d_t76 w_t76 u_t76 v_t76 _ _ _ l_t76 => ?_)
                have e_t76 := C_t76.2.2.2.1
                have m_n_t76 : n < m_md t76 := by omega
                have g_n_t76 := (x_t76.2.2.1 n m_n_t75).2.1 w_n_t75 g_n_t75
                have w_n_t76 : W5 t76 n := (x_t76.2.2.1 n m_n_t75).1 w_n_t75
                have f_n_t76 : Fz t76 n := (x_t76.2.2.1 n m_n_t75).2.2.1 f_n_t75
                have m_m_mdt0_t76 : m_md t0 < m_md t76 := by omega
                have g_m_mdt0_t76 := (x_t76.2.2.1 (m_md t0) m_m_mdt0_t75).2.1 w_m_mdt0_t75 g_m_mdt0_t75
                have w_m_mdt0_t76 : W5 t76 (m_md t0) := (x_t76.2.2.1 (m_md t0) m_m_mdt0_t75).1 w_m_mdt0_t75
                have f_m_mdt0_t76 : Fz t76 (m_md t0) := (x_t76.2.2.1 (m_md t0) m_m_mdt0_t75).2.2.1 f_m_mdt0_t75
                have u_m_mdt0_t76 := (x_t76.2.2.1 (m_md t0) m_m_mdt0_t75).2.2.2.1 u_m_mdt0_t75
                have m_m_mdt64_t76 : m_md t64 < m_md t76 := by omega
                have g_m_mdt64_t76 := (x_t76.2.2.1 (m_md t64) m_m_mdt64_t75).2.1 w_m_mdt64_t75 g_m_mdt64_t75
                have w_m_mdt64_t76 : W5 t76 (m_md t64) := (x_t76.2.2.1 (m_md t64) m_m_mdt64_t75).1 w_m_mdt64_t75
                have u_m_mdt64_t76 := (x_t76.2.2.1 (m_md t64) m_m_mdt64_t75).2.2.2.1 u_m_mdt64_t75
                refine Kp_push C_t76 (by omega) (fun t77 C_t77 x_t77 a_t77 b_t77 d_t77 w_t77 u_t77 v_t77 _ _ _ l_t77 => ?_)
                have e_t77 := C_t77.2.2.2.1
                have m_n_t77 : n < m_md t77 := by omega
                have g_n_t77 := (x_t77.2.2.1 n m_n_t76).2.1 w_n_t76 g_n_t76
                have w_n_t77 : W5 t77 n := (x_t77.2.2.1 n m_n_t76).1 w_n_t76
                have f_n_t77 : Fz t77 n := (x_t77.2.2.1 n m_n_t76).2.2.1 f_n_t76
                have m_m_mdt0_t77 : m_md t0 < m_md t77 := by omega
                have g_m_mdt0_t77 := (x_t77.2.2.1 (m_md t0) m_m_mdt0_t76).2.1 w_m_mdt0_t76 g_m_mdt0_t76
                have w_m_mdt0_t77 : W5 t77 (m_md t0) := (x_t77.2.2.1 (m_md t0) m_m_mdt0_t76).1 w_m_mdt0_t76
                have f_m_mdt0_t77 : Fz t77 (m_md t0) := (x_t77.2.2.1 (m_md t0) m_m_mdt0_t76).2.2.1 f_m_mdt0_t76
                have u_m_mdt0_t77 := (x_t77.2.2.1 (m_md t0) m_m_mdt0_t76).2.2.2.1 u_m_mdt0_t76
                have m_m_mdt64_t77 : m_md t64 < m_md t77 := by omega
                have g_m_mdt64_t77 := (x_t77.2.2.1 (m_md t64) m_m_mdt64_t76).2.1 w_m_mdt64_t76 g_m_mdt64_t76
                have w_m_mdt64_t77 : W5 t77 (m_md t64) := (x_t77.2.2.1 (m_md t64) m_m_mdt64_t76).1 w_m_mdt64_t76
                have u_m_mdt64_t77 := (x_t77.2.2.1 (m_md t64) m_m_mdt64_t76).2.2.2.1 u_m_mdt64_t76
                refine Ok_ret (show Ok _ _ _ from ?_)
                refine Ok_ret (show Ok _ _ _ from ?_)
                refine Hv_mk C_t77 hT (by omega) (by omega) (by omega) ?_ ?_ ?_ (by omega) ?_ ?_
                · exact ⟨(Io_n (by decide) (by decide) m_m_mdt64_t77 g_m_mdt64_t77 w_m_mdt64_t77 (fun q => absurd q (by decide)) (fun q => absurd q (by decide))), (Nd_0 (by decide) Mo_nil), ⟨(Io_n (by decide) (by decide) m_m_mdt64_t77 g_m_mdt64_t77 w_m_mdt64_t77 (fun q => absurd q (by decide)) (fun q => absurd q (by decide))), (Nd_0 (by decide) (Mo_cons (fun q => show m_md t64 ≤ m_md t64 from by omega) Mo_nil)), ⟨(Io_n (by decide) (by decide) m_m_mdt0_t77 g_m_mdt0_t77 w_m_mdt0_t77 (fun q => absurd q (by decide)) (fun q => absurd q (by decide))), (Nd_0 (by decide) (Mo_cons (fun q => show m_md t0 ≤ m_md t64 from by omega) (Mo_cons (fun q => show m_md t0 ≤ m_md t64 from by omega) Mo_nil))), ⟨(Io_n (by decide) (show t < 4096 from by omega) m_n_t77 g_n_t77 w_n_t77 (fun q => absurd q (by decide)) (fun q => absurd q (by decide))), (Nd_0 (by decide) (Mo_cons (fun q => show n ≤ m_md t0 from by omega) (Mo_cons (fun q => show n ≤ m_md t64 from by omega) (Mo_cons (fun q => show n ≤ m_md t64 from by omega) Mo_nil)))), Stk_step (N := n) (pop := (51, n, t)) (new := [(51, n, t), (52, m_md t0, 0), (53, m_md t64, 0), (18, m_md t64, 0)]) F0 C_t77.1 (fun _ => m_n_t0) (fun q _ h => h (51, n, t) rfl) (fun _ => rfl) (fun y hy hk => ⟨rfl, (Mo_cons (fun q => show n ≤ n from by omega) (Mo_cons (fun q => show n ≤ m_md t0 from by omega) (Mo_cons (fun q => show n ≤ m_md t64 from by omega) (Mo_cons (fun q => show n ≤ m_md t64 from by omega) Mo_nil)))) y hy hk⟩) (fun (h : 51 = 3 ∨ 51 = 18 ∨ 51 = 41) => absurd h (by decide)) (fun (h : 51 = 18) => absurd h (by decide)) (fun (h : 51 = 41 ∨ 51 = 42 ∨ 51 = 43) => absurd h (by decide)) r [] (fun y hy => absurd hy List.not_mem_nil) hS⟩⟩⟩⟩
                · exact (Aj_up (x := (18, m_md t64, 0)) (Aj_up (x := (53, m_md t64, 0)) (Aj_up (x := (52, m_md t0, 0)) (Aj_sub (y := (51, n, t)) hJ (Nat.le_of_ble_eq_true rfl)) (Or.inl (Nat.le_of_ble_eq_true rfl))) (Or.inr (Nat.le_of_ble_eq_true rfl))) (Or.inr (Nat.le_of_ble_eq_true rfl)))
                · show m_dp t77 = (dlt 18 + (dlt 53 + (dlt 52 + (dlt 51 + sD r))))
                  have : dlt 18 = 0 := rfl; have : dlt 51 = 1 := rfl; have : dlt 52 = 0 := rfl; have : dlt 53 = 0 := rfl; omega
                · show m_rw t77 = (rho 18 + (rho 53 + (rho 52 + (rho 51 + sR r))))
                  have : rho 18 = 0 := rfl; have : rho 51 = 0 := rfl; have : rho 52 = 0 := rfl; have : rho 53 = 0 := rfl; omega
                · show m_md t77 + (mu7 18 + (mu7 53 + (mu7 52 + (mu7 51 + sM r)))) ≤ 3 * m_at t77 + 7 * (r.length + 1 + 1 + 1 + 1) + 10
                  have : mu7 18 = 5 := rfl; have : mu7 51 = 4 := rfl; have : mu7 52 = 5 := rfl; have : mu7 53 = 7 := rfl; omega
    · refine Ok_ife (Nat.lt_trans (lo_lt (C_t0.tk hT) _) (by decide)) (by decide) (fun q78 => ?_) (fun q78 => ?_)
      · refine Ok_ife (show t < 2147483648 from by omega) (by decide) (fun q79 => ?_) (fun q79 => ?_)
        · refine Ok_ife (Nat.lt_trans (lo_lt (C_t0.tk hT) _) (by decide)) (by decide) (fun q80 => ?_) (fun q80 => ?_)
          · refine Kp_child C_t0 m_n_t0 g_n_t0 w_n_t0 (by omega) (by omega) (fun t81 C_t81 x_t81 a_t81 b_t81 d_t81 w_t81 u_t81 v_t81 wn_t81 fn_t81 fp_t81 _ l_t81 => ?_)
            have e_t81 := C_t81.2.2.2.1
            have m_n_t81 : n < m_md t81 := by omega
            have g_n_t81 := (x_t81.2.2.1 n m_n_t0).2.1 w_n_t0 g_n_t0
            have w_n_t81 : W5 t81 n := (x_t81.2.2.1 n m_n_t0).1 w_n_t0
            have f_n_t81 : Fz t81 n := fp_t81
            have m_m_mdt0_t81 : m_md t0 < m_md t81 := by omega
            have g_m_mdt0_t81 : GdS t81 (m_md t0) := Or.inl fn_t81
            have w_m_mdt0_t81 : W5 t81 (m_md t0) := by unfold W5; rw [wn_t81]; decide
            have u_m_mdt0_t81 : Up t81 (m_md t0) := Or.inl fn_t81
            clear fp_t81 fn_t81 wn_t81
            have z_t82 : m_at t81 < m_ct t81 := lo_ne (Nat.ne_of_gt (show 0 < lo t81 (m_at t81) from by omega))
            refine Kp_at C_t81 (fun t82 C_t82 x_t82 a_t82 b_t82 d_t82 w_t82 u_t82 v_t82 _ _ _ l_t82 => ?_)
            have e_t82 := C_t82.2.2.2.1
            have m_n_t82 : n < m_md t82 := by omega
            have g_n_t82 := (x_t82.2.2.1 n m_n_t81).2.1 w_n_t81 g_n_t81
            have w_n_t82 : W5 t82 n := (x_t82.2.2.1 n m_n_t81).1 w_n_t81
            have f_n_t82 : Fz t82 n := (x_t82.2.2.1 n m_n_t81).2.2.1 f_n_t81
            have m_m_mdt0_t82 : m_md t0 < m_md t82 := by omega
            have g_m_mdt0_t82 := (x_t82.2.2.1 (m_md t0) m_m_mdt0_t81).2.1 w_m_mdt0_t81 g_m_mdt0_t81
            have w_m_mdt0_t82 : W5 t82 (m_md t0) := (x_t82.2.2.1 (m_md t0) m_m_mdt0_t81).1 w_m_mdt0_t81
            have u_m_mdt0_t82 := (x_t82.2.2.1 (m_md t0) m_m_mdt0_t81).2.2.2.1 u_m_mdt0_t81
            refine Kp_push C_t82 (by omega) (fun t83 C_t83 x_t83 a_t83 b_t83 d_t83 w_t83 u_t83 v_t83 _ _ _ l_t83 => ?_)
            have e_t83 := C_t83.2.2.2.1
            have m_n_t83 : n < m_md t83 := by omega
            have g_n_t83 := (x_t83.2.2.1 n m_n_t82).2.1 w_n_t82 g_n_t82
            have w_n_t83 : W5 t83 n := (x_t83.2.2.1 n m_n_t82).1 w_n_t82
            have f_n_t83 : Fz t83 n := (x_t83.2.2.1 n m_n_t82).2.2.1 f_n_t82
            have m_m_mdt0_t83 : m_md t0 < m_md t83 := by omega
            have g_m_mdt0_t83 := (x_t83.2.2.1 (m_md t0) m_m_mdt0_t82).2.1 w_m_mdt0_t82 g_m_mdt0_t82
            have w_m_mdt0_t83 : W5 t83 (m_md t0) := (x_t83.2.2.1 (m_md t0) m_m_mdt0_t82).1 w_m_mdt0_t82
            have u_m_mdt0_t83 := (x_t83.2.2.1 (m_md t0) m_m_mdt0_t82).2.2.2.1 u_m_mdt0_t82
            refine Kp_push C_t83 (by omega) (fun t84 C_t84 x_t84 a_t84 b_t84 d_t84 w_t84 u_t84 v_t84 _ _ _ l_t84 => ?_)
            have e_t84 := C_t84.2.2.2.1
            have m_n_t84 : n < m_md t84 := by omega
            have g_n_t84 := (x_t84.2.2.1 n m_n_t83).2.1 w_n_t83 g_n_t83
            have w_n_t84 : W5 t84 n := (x_t84.2.2.1 n m_n_t83).1 w_n_t83
            have f_n_t84 : Fz t84 n := (x_t84.2.2.1 n m_n_t83).2.2.1 f_n_t83
            have m_m_mdt0_t84 : m_md t0 < m_md t84 := by omega
            have g_m_mdt0_t84 := (x_t84.2.2.1 (m_md t0) m_m_mdt0_t83).2.1 w_m_mdt0_t83 g_m_mdt0_t83
            have w_m_mdt0_t84 : W5 t84 (m_md t0) := (x_t84.2.2.1 (m_md t0) m_m_mdt0_t83).1 w_m_mdt0_t83
            have u_m_mdt0_t84 := (x_t84.2.2.1 (m_md t0) m_m_mdt0_t83).2.2.2.1 u_m_mdt0_t83
            refine Ok_ife (Nat.lt_trans (lo_lt (C_t0.tk hT) _) (by decide)) (by decide) (fun q85 => ?_) (fun q85 => ?_)
            · refine Ok_ret (show Ok _ _ _ from ?_)
              refine Ok_ret (show Ok _ _ _ from ?_)
              refine Hv_mk C_t84 hT (by omega) (by omega) (by omega) ?_ ?_ ?_ (by omega) ?_ ?_
              · exact ⟨(Io_n (by decide) (by decide) m_m_mdt0_t84 g_m_mdt0_t84 w_m_mdt0_t84 (fun q => absurd q (by decide)) (fun q => absurd q (by decide))), (Nd_0 (by decide) Mo_nil), ⟨(Io_n (by decide) (show t < 4096 from by omega) m_n_t84 g_n_t84 w_n_t84 (fun q => absurd q (by decide)) (fun q => absurd q (by decide))), (Nd_0 (by decide) (Mo_cons (fun q => show n ≤ m_md t0 from by omega) Mo_nil)), Stk_step (N := n) (pop := (51, n, t)) (new := [(51, n, t), (52, m_md t0, 0)]) F0 C_t84.1 (fun _ => m_n_t0) (fun q _ h => h (51, n, t) rfl) (fun _ => rfl) (fun y hy hk => ⟨rfl, (Mo_cons (fun q => show n ≤ n from by omega) (Mo_cons (fun q => show n ≤ m_md t0 from by omega) Mo_nil)) y hy hk⟩) (fun (h : 51 = 3 ∨ 51 = 18 ∨ 51 = 41) => absurd h (by decide)) (fun (h : 51 = 18) => absurd h (by decide)) (fun (h : 51 = 41 ∨ 51 = 42 ∨ 51 = 43) => absurd h (by decide)) r [] (fun y hy => absurd hy List.not_mem_nil) hS⟩⟩
              · exact (Aj_up (x := (52, m_md t0, 0)) (Aj_sub (y := (51, n, t)) hJ (Nat.le_of_ble_eq_true rfl)) (Or.inl (Nat.le_of_ble_eq_true rfl)))
              · show m_dp t84 = (dlt 52 + (dlt 51 + sD r))
                have : dlt 51 = 1 := rfl; have : dlt 52 = 0 := rfl; omega
              · show m_rw t84 = (rho 52 + (rho 51 + sR r))
                have : rho 51 = 0 := rfl; have : rho 52 = 0 := rfl; omega
              · show m_md t84 + (mu7 52 + (mu7 51 + sM r)) ≤ 3 * m_at t84 + 7 * (r.length + 1 + 1) + 10
                have : mu7 51 = 4 := rfl; have : mu7 52 = 5 := rfl; omega
            · refine Ok_ifz (show t < 2147483648 from by omega) (fun q86 => ?_) (fun q86 => ?_)
              · refine Ok_bnc ?_
                try unfold b_X6_exprs
                refine Kp_child C_t84 m_m_mdt0_t84 g_m_mdt0_t84 w_m_mdt0_t84 (by omega) (by omega) (fun t88 C_t88 x_t88 a_t88 b_t88 d_t88 w_t88 u_t88 v_t88 wn_t88 fn_t88 fp_t88 _ l_t88 => ?_)
                have e_t88 := C_t88.2.2.2.1
                have m_n_t88 : n < m_md t88 := by omega
                have g_n_t88 := (x_t88.2.2.1 n m_n_t84).2.1 w_n_t84 g_n_t84
                have w_n_t88 : W5 t88 n := (x_t88.2.2.1 n m_n_t84).1 w_n_t84
                have f_n_t88 : Fz t88 n := (x_t88.2.2.1 n m_n_t84).2.2.1 f_n_t84
                have m_m_mdt0_t88 : m_md t0 < m_md t88 := by omega
                have g_m_mdt0_t88 := (x_t88.2.2.1 (m_md t0) m_m_mdt0_t84).2.1 w_m_mdt0_t84 g_m_mdt0_t84
                have w_m_mdt0_t88 : W5 t88 (m_md t0) := (x_t88.2.2.1 (m_md t0) m_m_mdt0_t84).1 w_m_mdt0_t84
                have u_m_mdt0_t88 := (x_t88.2.2.1 (m_md t0) m_m_mdt0_t84).2.2.2.1 u_m_mdt0_t84
                have f_m_mdt0_t88 : Fz t88 (m_md t0) := fp_t88
                have m_m_mdt84_t88 : m_md t84 < m_md t88 := by omega
                have g_m_mdt84_t88 : GdS t88 (m_md t84) := Or.inl fn_t88
                have w_m_mdt84_t88 : W5 t88 (m_md t84) := by unfold W5; rw [wn_t88]; decide
                have u_m_mdt84_t88 : Up t88 (m_md t84) := Or.inl fn_t88
                clear fp_t88 fn_t88 wn_t88
                refine Kp_push C_t88 (by omega) (fun t89 C_t89 x_t89 a_t89 b_t89 d_t89 w_t89 u_t89 v_t89 _ _ _ l_t89 => ?_)
                have e_t89 := C_t89.2.2.2.1
                have m_n_t89 : n < m_md t89 := by omega
                have g_n_t89 := (x_t89.2.2.1 n m_n_t88).2.1 w_n_t88 g_n_t88
                have w_n_t89 : W5 t89 n := (x_t89.2.2.1 n m_n_t88).1 w_n_t88
                have f_n_t89 : Fz t89 n := (x_t89.2.2.1 n m_n_t88).2.2.1 f_n_t88
                have m_m_mdt0_t89 : m_md t0 < m_md t89 := by omega
                have g_m_mdt0_t89 := (x_t89.2.2.1 (m_md t0) m_m_mdt0_t88).2.1 w_m_mdt0_t88 g_m_mdt0_t88
                have w_m_mdt0_t89 : W5 t89 (m_md t0) := (x_t89.2.2.1 (m_md t0) m_m_mdt0_t88).1 w_m_mdt0_t88
                have f_m_mdt0_t89 : Fz t89 (m_md t0) := (x_t89.2.2.1 (m_md t0) m_m_mdt0_t88).2.2.1 f_m_mdt0_t88
                have u_m_mdt0_t89 := (x_t89.2.2.1 (m_md t0) m_m_mdt0_t88).2.2.2.1 u_m_mdt0_t88
                have m_m_mdt84_t89 : m_md t84 < m_md t89 := by omega
                have g_m_mdt84_t89 := (x_t89.2.2.1 (m_md t84) m_m_mdt84_t88).2.1 w_m_mdt84_t88 g_m_mdt84_t88
                have w_m_mdt84_t89 : W5 t89 (m_md t84) := (x_t89.2.2.1 (m_md t84) m_m_mdt84_t88).1 w_m_mdt84_t88
                have u_m_mdt84_t89 := (x_t89.2.2.1 (m_md t84) m_m_mdt84_t88).2.2.2.1 u_m_mdt84_t88
                refine Ok_bnc ?_
                try unfold b_X6_expression
                refine Kp_push C_t89 (by omega) (fun t91 C_t91 x_t91 a_t91 b_t91 d_t91 w_t91 u_t91 v_t91 _ _ _ l_t91 => ?_)
                have e_t91 := C_t91.2.2.2.1
                have m_n_t91 : n < m_md t91 := by omega
                have g_n_t91 := (x_t91.2.2.1 n m_n_t89).2.1 w_n_t89 g_n_t89
                have w_n_t91 : W5 t91 n := (x_t91.2.2.1 n m_n_t89).1 w_n_t89
                have f_n_t91 : Fz t91 n := (x_t91.2.2.1 n m_n_t89).2.2.1 f_n_t89
                have m_m_mdt0_t91 : m_md t0 < m_md t91 := by omega
                have g_m_mdt0_t91 := (x_t91.2.2.1 (m_md t0) m_m_mdt0_t89).2.1 w_m_mdt0_t89 g_m_mdt0_t89
                have w_m_mdt0_t91 : W5 t91 (m_md t0) := (x_t91.2.2.1 (m_md t0) m_m_mdt0_t89).1 w_m_mdt0_t89
                have f_m_mdt0_t91 : Fz t91 (m_md t0) := (x_t91.2.2.1 (m_md t0) m_m_mdt0_t89).2.2.1 f_m_mdt0_t89
                have u_m_mdt0_t91 := (x_t91.2.2.1 (m_md t0) m_m_mdt0_t89).2.2.2.1 u_m_mdt0_t89
                have m_m_mdt84_t91 : m_md t84 < m_md t91 := by omega
                have g_m_mdt84_t91 := (x_t91.2.2.1 (m_md t84) m_m_mdt84_t89).2.1 w_m_mdt84_t89 g_m_mdt84_t89
                have w_m_mdt84_t91 : W5 t91 (m_md t84) := (x_t91.2.2.1 (m_md t84) m_m_mdt84_t89).1 w_m_mdt84_t89
                have u_m_mdt84_t91 := (x_t91.2.2.1 (m_md t84) m_m_mdt84_t89).2.2.2.1 u_m_mdt84_t89
                refine Kp_push C_t91 (by omega) (fun t92 C_t92 x_t92 a_t92 b_t92 d_t92 w_t92 u_t92 v_t92 _ _ _ l_t92 => ?_)
                have e_t92 := C_t92.2.2.2.1
                have m_n_t92 : n < m_md t92 := by omega
                have g_n_t92 := (x_t92.2.2.1 n m_n_t91).2.1 w_n_t91 g_n_t91
                have w_n_t92 : W5 t92 n := (x_t92.2.2.1 n m_n_t91).1 w_n_t91
                have f_n_t92 : Fz t92 n := (x_t92.2.2.1 n m_n_t91).2.2.1 f_n_t91
                have m_m_mdt0_t92 : m_md t0 < m_md t92 := by omega
                have g_m_mdt0_t92 := (x_t92.2.2.1 (m_md t0) m_m_mdt0_t91).2.1 w_m_mdt0_t91 g_m_mdt0_t91
                have w_m_mdt0_t92 : W5 t92 (m_md t0) := (x_t92.2.2.1 (m_md t0) m_m_mdt0_t91).1 w_m_mdt0_t91
                have f_m_mdt0_t92 : Fz t92 (m_md t0) := (x_t92.2.2.1 (m_md t0) m_m_mdt0_t91).2.2.1 f_m_mdt0_t91
                have u_m_mdt0_t92 := (x_t92.2.2.1 (m_md t0) m_m_mdt0_t91).2.2.2.1 u_m_mdt0_t91
                have m_m_mdt84_t92 : m_md t84 < m_md t92 := by omega
                have g_m_mdt84_t92 := (x_t92.2.2.1 (m_md t84) m_m_mdt84_t91).2.1 w_m_mdt84_t91 g_m_mdt84_t91
                have w_m_mdt84_t92 : W5 t92 (m_md t84) := (x_t92.2.2.1 (m_md t84) m_m_mdt84_t91).1 w_m_mdt84_t91
                have u_m_mdt84_t92 := (x_t92.2.2.1 (m_md t84) m_m_mdt84_t91).2.2.2.1 u_m_mdt84_t91
                refine Ok_ret (show Ok _ _ _ from ?_)
                refine Ok_ret (show Ok _ _ _ from ?_)
                refine Ok_ret (show Ok _ _ _ from ?_)
                refine Ok_ret (show Ok _ _ _ from ?_)
                refine Hv_mk C_t92 hT (by omega) (by omega) (by omega) ?_ ?_ ?_ (by omega) ?_ ?_
                · exact ⟨(Io_n (by decide) (show 0 &&& 1 < 4096 from by omega) m_m_mdt84_t92 g_m_mdt84_t92 w_m_mdt84_t92 (fun q => absurd q (by decide)) (fun q => absurd q (by decide))), (Nd_0 (by decide) Mo_nil), ⟨(Io_2 (by have := or_256 (b := 1) (show (0 &&& 1) < 256 from by omega); omega) (by have := or_256 (b := 1) (show (0 &&& 1) < 256 from by omega); omega) (by have := or_256 (b := 1) (show (0 &&& 1) < 256 from by omega); omega) m_m_mdt84_t92 g_m_mdt84_t92 w_m_mdt84_t92), (Nd_A (by decide) (Mo_cons (fun q => show m_md t84 ≤ m_md t84 from by omega) Mo_nil) (Or.inr ⟨(3, m_md t84, 0 &&& 1), List.mem_cons_self, rfl, Or.inl rfl⟩)), ⟨(Io_n (by decide) (show 0 &&& 1 < 4096 from by omega) m_m_mdt84_t92 g_m_mdt84_t92 w_m_mdt84_t92 (fun q => absurd q (by decide)) (fun q => absurd q (by decide))), (Nd_0 (by decide) (Mo_cons (fun q => show m_md t84 ≤ m_md t84 from by omega) (Mo_cons (fun q => show m_md t84 ≤ m_md t84 from by omega) Mo_nil))), ⟨(Io_n (by decide) (by decide) m_m_mdt0_t92 g_m_mdt0_t92 w_m_mdt0_t92 (fun q => absurd q (by decide)) (fun q => absurd q (by decide))), (Nd_0 (by decide) (Mo_cons (fun q => show m_md t0 ≤ m_md t84 from by omega) (Mo_cons (fun q => show m_md t0 ≤ m_md t84 from by omega) (Mo_cons (fun q => show m_md t0 ≤ m_md t84 from by omega) Mo_nil)))), ⟨(Io_n (by decide) (show t < 4096 from by omega) m_n_t92 g_n_t92 w_n_t92 (fun q => absurd q (by decide)) (fun q => absurd q (by decide))), (Nd_0 (by decide) (Mo_cons (fun q => show n ≤ m_md t0 from by omega) (Mo_cons (fun q => show n ≤ m_md t84 from by omega) (Mo_cons (fun q => show n ≤ m_md t84 from by omega) (Mo_cons (fun q => show n ≤ m_md t84 from by omega) Mo_nil))))), Stk_step (N := n) (pop := (51, n, t)) (new := [(51, n, t), (52, m_md t0, 0), (32, m_md t84, 0 &&& 1), (2, m_md t84, (0 &&& 1) ||| (1 * 256)), (3, m_md t84, 0 &&& 1)]) F0 C_t92.1 (fun _ => m_n_t0) (fun q _ h => h (51, n, t) rfl) (fun _ => rfl) (fun y hy hk => ⟨rfl, (Mo_cons (fun q => show n ≤ n from by omega) (Mo_cons (fun q => show n ≤ m_md t0 from by omega) (Mo_cons (fun q => show n ≤ m_md t84 from by omega) (Mo_cons (fun q => show n ≤ m_md t84 from by omega) (Mo_cons (fun q => show n ≤ m_md t84 from by omega) Mo_nil))))) y hy hk⟩) (fun (h : 51 = 3 ∨ 51 = 18 ∨ 51 = 41) => absurd h (by decide)) (fun (h : 51 = 18) => absurd h (by decide)) (fun (h : 51 = 41 ∨ 51 = 42 ∨ 51 = 43) => absurd h (by decide)) r [] (fun y hy => absurd hy List.not_mem_nil) hS⟩⟩⟩⟩⟩
                · exact (Aj_up (x := (3, m_md t84, 0 &&& 1)) (Aj_up (x := (2, m_md t84, (0 &&& 1) ||| (1 * 256))) (Aj_up (x := (32, m_md t84, 0 &&& 1)) (Aj_up (x := (52, m_md t0, 0)) (Aj_sub (y := (51, n, t)) hJ (Nat.le_of_ble_eq_true rfl)) (Or.inl (Nat.le_of_ble_eq_true rfl))) (Or.inr (Nat.le_of_ble_eq_true rfl))) (Or.inr (show 9 - ((0 &&& 1) ||| (1 * 256)) / 256 < 9 from by have := or_256 (b := 1) (show (0 &&& 1) < 256 from by omega); omega))) (Or.inr (show 2 < 9 - ((0 &&& 1) ||| (1 * 256)) / 256 from by have := or_256 (b := 1) (show (0 &&& 1) < 256 from by omega); omega)))
                · show m_dp t92 = (dlt 3 + (dlt 2 + (dlt 32 + (dlt 52 + (dlt 51 + sD r)))))
                  have : dlt 2 = 0 := rfl; have : dlt 3 = 0 := rfl; have : dlt 32 = 0 := rfl; have : dlt 51 = 1 := rfl; have : dlt 52 = 0 := rfl; omega
                · show m_rw t92 = (rho 3 + (rho 2 + (rho 32 + (rho 52 + (rho 51 + sR r)))))
                  have : rho 2 = 0 := rfl; have : rho 3 = 0 := rfl; have : rho 32 = 0 := rfl; have : rho 51 = 0 := rfl; have : rho 52 = 0 := rfl; omega
                · show m_md t92 + (mu7 3 + (mu7 2 + (mu7 32 + (mu7 52 + (mu7 51 + sM r))))) ≤ 3 * m_at t92 + 7 * (r.length + 1 + 1 + 1 + 1 + 1) + 10
                  have : mu7 2 = 7 := rfl; have : mu7 3 = 5 := rfl; have : mu7 32 = 7 := rfl; have : mu7 51 = 4 := rfl; have : mu7 52 = 5 := rfl; omega
              · refine Ok_ife (show t < 2147483648 from by omega) (by decide) (fun q93 => ?_) (fun q93 => ?_)
                · refine Kp_push C_t84 (by omega) (fun t94 C_t94 x_t94 a_t94 b_t94 d_t94 w_t94 u_t94 v_t94 _ _ _ l_t94 => ?_)
                  have e_t94 := C_t94.2.2.2.1
                  have m_n_t94 : n < m_md t94 := by omega
                  have g_n_t94 := (x_t94.2.2.1 n m_n_t84).2.1 w_n_t84 g_n_t84
                  have w_n_t94 : W5 t94 n := (x_t94.2.2.1 n m_n_t84).1 w_n_t84
                  have f_n_t94 : Fz t94 n := (x_t94.2.2.1 n m_n_t84).2.2.1 f_n_t84
                  have m_m_mdt0_t94 : m_md t0 < m_md t94 := by omega
                  have g_m_mdt0_t94 := (x_t94.2.2.1 (m_md t0) m_m_mdt0_t84).2.1 w_m_mdt0_t84 g_m_mdt0_t84
                  have w_m_mdt0_t94 : W5 t94 (m_md t0) := (x_t94.2.2.1 (m_md t0) m_m_mdt0_t84).1 w_m_mdt0_t84
                  have u_m_mdt0_t94 := (x_t94.2.2.1 (m_md t0) m_m_mdt0_t84).2.2.2.1 u_m_mdt0_t84
                  refine Ok_ret (show Ok _ _ _ from ?_)
                  refine Ok_ret (show Ok _ _ _ from ?_)
                  refine Hv_mk C_t94 hT (by omega) (by omega) (by omega) ?_ ?_ ?_ (by omega) ?_ ?_
                  · exact ⟨(Io_n (by decide) (by decide) m_m_mdt0_t94 g_m_mdt0_t94 w_m_mdt0_t94 (fun _ => u_m_mdt0_t94) (fun q => absurd q (by decide))), (Nd_0 (by decide) Mo_nil), ⟨(Io_n (by decide) (by decide) m_m_mdt0_t94 g_m_mdt0_t94 w_m_mdt0_t94 (fun q => absurd q (by decide)) (fun q => absurd q (by decide))), (Nd_0 (by decide) (Mo_cons (fun q => show m_md t0 ≤ m_md t0 from by omega) Mo_nil)), ⟨(Io_n (by decide) (show t < 4096 from by omega) m_n_t94 g_n_t94 w_n_t94 (fun q => absurd q (by decide)) (fun q => absurd q (by decide))), (Nd_0 (by decide) (Mo_cons (fun q => show n ≤ m_md t0 from by omega) (Mo_cons (fun q => show n ≤ m_md t0 from by omega) Mo_nil))), Stk_step (N := n) (pop := (51, n, t)) (new := [(51, n, t), (52, m_md t0, 0), (41, m_md t0, 32)]) F0 C_t94.1 (fun _ => m_n_t0) (fun q _ h => h (51, n, t) rfl) (fun _ => rfl) (fun y hy hk => ⟨rfl, (Mo_cons (fun q => show n ≤ n from by omega) (Mo_cons (fun q => show n ≤ m_md t0 from by omega) (Mo_cons (fun q => show n ≤ m_md t0 from by omega) Mo_nil))) y hy hk⟩) (fun (h : 51 = 3 ∨ 51 = 18 ∨ 51 = 41) => absurd h (by decide)) (fun (h : 51 = 18) => absurd h (by decide)) (fun (h : 51 = 41 ∨ 51 = 42 ∨ 51 = 43) => absurd h (by decide)) r [] (fun y hy => absurd hy List.not_mem_nil) hS⟩⟩⟩
                  · exact (Aj_up (x := (41, m_md t0, 32)) (Aj_up (x := (52, m_md t0, 0)) (Aj_sub (y := (51, n, t)) hJ (Nat.le_of_ble_eq_true rfl)) (Or.inl (Nat.le_of_ble_eq_true rfl))) (Or.inr (Nat.le_of_ble_eq_true rfl)))
                  · show m_dp t94 = (dlt 41 + (dlt 52 + (dlt 51 + sD r)))
                    have : dlt 41 = 0 := rfl; have : dlt 51 = 1 := rfl; have : dlt 52 = 0 := rfl; omega
                  · show m_rw t94 = (rho 41 + (rho 52 + (rho 51 + sR r)))
                    have : rho 41 = 0 := rfl; have : rho 51 = 0 := rfl; have : rho 52 = 0 := rfl; omega
                  · show m_md t94 + (mu7 41 + (mu7 52 + (mu7 51 + sM r))) ≤ 3 * m_at t94 + 7 * (r.length + 1 + 1 + 1) + 10
                    have : mu7 41 = 6 := rfl; have : mu7 51 = 4 := rfl; have : mu7 52 = 5 := rfl; omega
                · refine Kp_child C_t84 m_m_mdt0_t84 g_m_mdt0_t84 w_m_mdt0_t84 (by omega) (by omega) (fun t95 C_t95 x_t95 a_t95 b_t95 d_t95 w_t95 u_t95 v_t95 wn_t95 fn_t95 fp_t95 _ l_t95 => ?_)
                  have e_t95 := C_t95.2.2.2.1
                  have m_n_t95 : n < m_md t95 := by omega
                  have g_n_t95 := (x_t95.2.2.1 n m_n_t84).2.1 w_n_t84 g_n_t84
                  have w_n_t95 : W5 t95 n := (x_t95.2.2.1 n m_n_t84).1 w_n_t84
                  have f_n_t95 : Fz t95 n := (x_t95.2.2.1 n m_n_t84).2.2.1 f_n_t84
                  have m_m_mdt0_t95 : m_md t0 < m_md t95 := by omega
                  have g_m_mdt0_t95 := (x_t95.2.2.1 (m_md t0) m_m_mdt0_t84).2.1 w_m_mdt0_t84 g_m_mdt0_t84
                  have w_m_mdt0_t95 : W5 t95 (m_md t0) := (x_t95.2.2.1 (m_md t0) m_m_mdt0_t84).1 w_m_mdt0_t84
                  have u_m_mdt0_t95 := (x_t95.2.2.1 (m_md t0) m_m_mdt0_t84).2.2.2.1 u_m_mdt0_t84
                  have f_m_mdt0_t95 : Fz t95 (m_md t0) := fp_t95
                  have m_m_mdt84_t95 : m_md t84 < m_md t95 := by omega
                  have g_m_mdt84_t95 : GdS t95 (m_md t84) := Or.inl fn_t95
                  have w_m_mdt84_t95 : W5 t95 (m_md t84) := by unfold W5; rw [wn_t95]; decide
                  have u_m_mdt84_t95 : Up t95 (m_md t84) := Or.inl fn_t95
                  clear fp_t95 fn_t95 wn_t95
                  refine Kp_push C_t95 (by omega) (fun t96 C_t96 x_t96 a_t96 b_t96 d_t96 w_t96 u_t96 v_t96 _ _ _ l_t96 => ?_)
                  have e_t96 := C_t96.2.2.2.1
                  have m_n_t96 : n < m_md t96 := by omega
                  have g_n_t96 := (x_t96.2.2.1 n m_n_t95).2.1 w_n_t95 g_n_t95
                  have w_n_t96 : W5 t96 n := (x_t96.2.2.1 n m_n_t95).1 w_n_t95
                  have f_n_t96 : Fz t96 n := (x_t96.2.2.1 n m_n_t95).2.2.1 f_n_t95
                  have m_m_mdt0_t96 : m_md t0 < m_md t96 := by omega
                  have g_m_mdt0_t96 := (x_t96.2.2.1 (m_md t0) m_m_mdt0_t95).2.1 w_m_mdt0_t95 g_m_mdt0_t95
                  have w_m_mdt0_t96 : W5 t96 (m_md t0) := (x_t96.2.2.1 (m_md t0) m_m_mdt0_t95).1 w_m_mdt0_t95
                  have f_m_mdt0_t96 : Fz t96 (m_md t0) := (x_t96.2.2.1 (m_md t0) m_m_mdt0_t95).2.2.1 f_m_mdt0_t95
                  have u_m_mdt0_t96 := (x_t96.2.2.1 (m_md t0) m_m_mdt0_t95).2.2.2.1 u_m_mdt0_t95
                  have m_m_mdt84_t96 : m_md t84 < m_md t96 := by omega
                  have g_m_mdt84_t96 := (x_t96.2.2.1 (m_md t84) m_m_mdt84_t95).2.1 w_m_mdt84_t95 g_m_mdt84_t95
                  have w_m_mdt84_t96 : W5 t96 (m_md t84) := (x_t96.2.2.1 (m_md t84) m_m_mdt84_t95).1 w_m_mdt84_t95
                  have u_m_mdt84_t96 := (x_t96.2.2.1 (m_md t84) m_m_mdt84_t95).2.2.2.1 u_m_mdt84_t95
                  refine Kp_push C_t96 (by omega) (fun t97 C_t97 x_t97 a_t97 b_t97 d_t97 w_t97 u_t97 v_t97 _ _ _ l_t97 => ?_)
                  have e_t97 := C_t97.2.2.2.1
                  have m_n_t97 : n < m_md t97 := by omega
                  have g_n_t97 := (x_t97.2.2.1 n m_n_t96).2.1 w_n_t96 g_n_t96
                  have w_n_t97 : W5 t97 n := (x_t97.2.2.1 n m_n_t96).1 w_n_t96
                  have f_n_t97 : Fz t97 n := (x_t97.2.2.1 n m_n_t96).2.2.1 f_n_t96
                  have m_m_mdt0_t97 : m_md t0 < m_md t97 := by omega
                  have g_m_mdt0_t97 := (x_t97.2.2.1 (m_md t0) m_m_mdt0_t96).2.1 w_m_mdt0_t96 g_m_mdt0_t96
                  have w_m_mdt0_t97 : W5 t97 (m_md t0) := (x_t97.2.2.1 (m_md t0) m_m_mdt0_t96).1 w_m_mdt0_t96
                  have f_m_mdt0_t97 : Fz t97 (m_md t0) := (x_t97.2.2.1 (m_md t0) m_m_mdt0_t96).2.2.1 f_m_mdt0_t96
                  have u_m_mdt0_t97 := (x_t97.2.2.1 (m_md t0) m_m_mdt0_t96).2.2.2.1 u_m_mdt0_t96
                  have m_m_mdt84_t97 : m_md t84 < m_md t97 := by omega
                  have g_m_mdt84_t97 := (x_t97.2.2.1 (m_md t84) m_m_mdt84_t96).2.1 w_m_mdt84_t96 g_m_mdt84_t96
                  have w_m_mdt84_t97 : W5 t97 (m_md t84) := (x_t97.2.2.1 (m_md t84) m_m_mdt84_t96).1 w_m_mdt84_t96
                  have u_m_mdt84_t97 := (x_t97.2.2.1 (m_md t84) m_m_mdt84_t96).2.2.2.1 u_m_mdt84_t96
                  refine Ok_ret (show Ok _ _ _ from ?_)
                  refine Ok_ret (show Ok _ _ _ from ?_)
                  refine Hv_mk C_t97 hT (by omega) (by omega) (by omega) ?_ ?_ ?_ (by omega) ?_ ?_
                  · exact ⟨(Io_n (by decide) (by decide) m_m_mdt84_t97 g_m_mdt84_t97 w_m_mdt84_t97 (fun q => absurd q (by decide)) (fun q => absurd q (by decide))), (Nd_0 (by decide) Mo_nil), ⟨(Io_n (by decide) (by decide) m_m_mdt84_t97 g_m_mdt84_t97 w_m_mdt84_t97 (fun q => absurd q (by decide)) (fun q => absurd q (by decide))), (Nd_0 (by decide) (Mo_cons (fun q => show m_md t84 ≤ m_md t84 from by omega) Mo_nil)), ⟨(Io_n (by decide) (by decide) m_m_mdt0_t97 g_m_mdt0_t97 w_m_mdt0_t97 (fun q => absurd q (by decide)) (fun q => absurd q (by decide))), (Nd_0 (by decide) (Mo_cons (fun q => show m_md t0 ≤ m_md t84 from by omega) (Mo_cons (fun q => show m_md t0 ≤ m_md t84 from by omega) Mo_nil))), ⟨(Io_n (by decide) (show t < 4096 from by omega) m_n_t97 g_n_t97 w_n_t97 (fun q => absurd q (by decide)) (fun q => absurd q (by decide))), (Nd_0 (by decide) (Mo_cons (fun q => show n ≤ m_md t0 from by omega) (Mo_cons (fun q => show n ≤ m_md t84 from by omega) (Mo_cons (fun q => show n ≤ m_md t84 from by omega) Mo_nil)))), Stk_step (N := n) (pop := (51, n, t)) (new := [(51, n, t), (52, m_md t0, 0), (53, m_md t84, 0), (18, m_md t84, 0)]) F0 C_t97.1 (fun _ => m_n_t0) (fun q _ h => h (51, n, t) rfl) (fun _ => rfl) (fun y hy hk => ⟨rfl, (Mo_cons (fun q => show n ≤ n from by omega) (Mo_cons (fun q => show n ≤ m_md t0 from by omega) (Mo_cons (fun q => show n ≤ m_md t84 from by omega) (Mo_cons (fun q => show n ≤ m_md t84 from by omega) Mo_nil)))) y hy hk⟩) (fun (h : 51 = 3 ∨ 51 = 18 ∨ 51 = 41) => absurd h (by decide)) (fun (h : 51 = 18) => absurd h (by decide)) (fun (h : 51 = 41 ∨ 51 = 42 ∨ 51 = 43) => absurd h (by decide)) r [] (fun y hy => absurd hy List.not_mem_nil) hS⟩⟩⟩⟩
                  · exact (Aj_up (x := (18, m_md t84, 0)) (Aj_up (x := (53, m_md t84, 0)) (Aj_up (x := (52, m_md t0, 0)) (Aj_sub (y := (51, n, t)) hJ (Nat.le_of_ble_eq_true rfl)) (Or.inl (Nat.le_of_ble_eq_true rfl))) (Or.inr (Nat.le_of_ble_eq_true rfl))) (Or.inr (Nat.le_of_ble_eq_true rfl)))
                  · show m_dp t97 = (dlt 18 + (dlt 53 + (dlt 52 + (dlt 51 + sD r))))
                    have : dlt 18 = 0 := rfl; have : dlt 51 = 1 := rfl; have : dlt 52 = 0 := rfl; have : dlt 53 = 0 := rfl; omega
                  · show m_rw t97 = (rho 18 + (rho 53 + (rho 52 + (rho 51 + sR r))))
                    have : rho 18 = 0 := rfl; have : rho 51 = 0 := rfl; have : rho 52 = 0 := rfl; have : rho 53 = 0 := rfl; omega
                  · show m_md t97 + (mu7 18 + (mu7 53 + (mu7 52 + (mu7 51 + sM r)))) ≤ 3 * m_at t97 + 7 * (r.length + 1 + 1 + 1 + 1) + 10
                    have : mu7 18 = 5 := rfl; have : mu7 51 = 4 := rfl; have : mu7 52 = 5 := rfl; have : mu7 53 = 7 := rfl; omega
          · refine Kp_child C_t0 m_n_t0 g_n_t0 w_n_t0 (by omega) (by omega) (fun t98 C_t98 x_t98 a_t98 b_t98 d_t98 w_t98 u_t98 v_t98 wn_t98 fn_t98 fp_t98 _ l_t98 => ?_)
            have e_t98 := C_t98.2.2.2.1
            have m_n_t98 : n < m_md t98 := by omega
            have g_n_t98 := (x_t98.2.2.1 n m_n_t0).2.1 w_n_t0 g_n_t0
            have w_n_t98 : W5 t98 n := (x_t98.2.2.1 n m_n_t0).1 w_n_t0
            have f_n_t98 : Fz t98 n := fp_t98
            have m_m_mdt0_t98 : m_md t0 < m_md t98 := by omega
            have g_m_mdt0_t98 : GdS t98 (m_md t0) := Or.inl fn_t98
            have w_m_mdt0_t98 : W5 t98 (m_md t0) := by unfold W5; rw [wn_t98]; decide
            have u_m_mdt0_t98 : Up t98 (m_md t0) := Or.inl fn_t98
            clear fp_t98 fn_t98 wn_t98
            have z_t99 : m_at t98 < m_ct t98 := lo_ne (Nat.ne_of_gt (show 0 < lo t98 (m_at t98) from by omega))
            refine Kp_at C_t98 (fun t99 C_t99 x_t99 a_t99 b_t99 d_t99 w_t99 u_t99 v_t99 _ _ _ l_t99 => ?_)
            have e_t99 := C_t99.2.2.2.1
            have m_n_t99 : n < m_md t99 := by omega
            have g_n_t99 := (x_t99.2.2.1 n m_n_t98).2.1 w_n_t98 g_n_t98
            have w_n_t99 : W5 t99 n := (x_t99.2.2.1 n m_n_t98).1 w_n_t98
            have f_n_t99 : Fz t99 n := (x_t99.2.2.1 n m_n_t98).2.2.1 f_n_t98
            have m_m_mdt0_t99 : m_md t0 < m_md t99 := by omega
            have g_m_mdt0_t99 := (x_t99.2.2.1 (m_md t0) m_m_mdt0_t98).2.1 w_m_mdt0_t98 g_m_mdt0_t98
            have w_m_mdt0_t99 : W5 t99 (m_md t0) := (x_t99.2.2.1 (m_md t0) m_m_mdt0_t98).1 w_m_mdt0_t98
            have u_m_mdt0_t99 := (x_t99.2.2.1 (m_md t0) m_m_mdt0_t98).2.2.2.1 u_m_mdt0_t98
            refine Kp_push C_t99 (by omega) (fun t100 C_t100 x_t100 a_t100 b_t100 d_t100 w_t100 u_t100 v_t100 _ _ _ l_t100 => ?_)
            have e_t100 := C_t100.2.2.2.1
            have m_n_t100 : n < m_md t100 := by omega
            have g_n_t100 := (x_t100.2.2.1 n m_n_t99).2.1 w_n_t99 g_n_t99
            have w_n_t100 : W5 t100 n := (x_t100.2.2.1 n m_n_t99).1 w_n_t99
            have f_n_t100 : Fz t100 n := (x_t100.2.2.1 n m_n_t99).2.2.1 f_n_t99
            have m_m_mdt0_t100 : m_md t0 < m_md t100 := by omega
            have g_m_mdt0_t100 := (x_t100.2.2.1 (m_md t0) m_m_mdt0_t99).2.1 w_m_mdt0_t99 g_m_mdt0_t99
            have w_m_mdt0_t100 : W5 t100 (m_md t0) := (x_t100.2.2.1 (m_md t0) m_m_mdt0_t99).1 w_m_mdt0_t99
            have u_m_mdt0_t100 := (x_t100.2.2.1 (m_md t0) m_m_mdt0_t99).2.2.2.1 u_m_mdt0_t99
            refine Kp_push C_t100 (by omega) (fun t101 C_t101 x_t101 a_t101 b_t101 d_t101 w_t101 u_t101 v_t101 _ _ _ l_t101 => ?_)
            have e_t101 := C_t101.2.2.2.1
            have m_n_t101 : n < m_md t101 := by omega
            have g_n_t101 := (x_t101.2.2.1 n m_n_t100).2.1 w_n_t100 g_n_t100
            have w_n_t101 : W5 t101 n := (x_t101.2.2.1 n m_n_t100).1 w_n_t100
            have f_n_t101 : Fz t101 n := (x_t101.2.2.1 n m_n_t100).2.2.1 f_n_t100
            have m_m_mdt0_t101 : m_md t0 < m_md t101 := by omega
            have g_m_mdt0_t101 := (x_t101.2.2.1 (m_md t0) m_m_mdt0_t100).2.1 w_m_mdt0_t100 g_m_mdt0_t100
            have w_m_mdt0_t101 : W5 t101 (m_md t0) := (x_t101.2.2.1 (m_md t0) m_m_mdt0_t100).1 w_m_mdt0_t100
            have u_m_mdt0_t101 := (x_t101.2.2.1 (m_md t0) m_m_mdt0_t100).2.2.2.1 u_m_mdt0_t100
            refine Ok_ife (Nat.lt_trans (lo_lt (C_t0.tk hT) _) (by decide)) (by decide) (fun q102 => ?_) (fun q102 => ?_)
            · refine Ok_ret (show Ok _ _ _ from ?_)
              refine Ok_ret (show Ok _ _ _ from ?_)
              refine Hv_mk C_t101 hT (by omega) (by omega) (by omega) ?_ ?_ ?_ (by omega) ?_ ?_
              · exact ⟨(Io_n (by decide) (by decide) m_m_mdt0_t101 g_m_mdt0_t101 w_m_mdt0_t101 (fun q => absurd q (by decide)) (fun q => absurd q (by decide))), (Nd_0 (by decide) Mo_nil), ⟨(Io_n (by decide) (show t < 4096 from by omega) m_n_t101 g_n_t101 w_n_t101 (fun q => absurd q (by decide)) (fun q => absurd q (by decide))), (Nd_0 (by decide) (Mo_cons (fun q => show n ≤ m_md t0 from by omega) Mo_nil)), Stk_step (N := n) (pop := (51, n, t)) (new := [(51, n, t), (52, m_md t0, 0)]) F0 C_t101.1 (fun _ => m_n_t0) (fun q _ h => h (51, n, t) rfl) (fun _ => rfl) (fun y hy hk => ⟨rfl, (Mo_cons (fun q => show n ≤ n from by omega) (Mo_cons (fun q => show n ≤ m_md t0 from by omega) Mo_nil)) y hy hk⟩) (fun (h : 51 = 3 ∨ 51 = 18 ∨ 51 = 41) => absurd h (by decide)) (fun (h : 51 = 18) => absurd h (by decide)) (fun (h : 51 = 41 ∨ 51 = 42 ∨ 51 = 43) => absurd h (by decide)) r [] (fun y hy => absurd hy List.not_mem_nil) hS⟩⟩
              · exact (Aj_up (x := (52, m_md t0, 0)) (Aj_sub (y := (51, n, t)) hJ (Nat.le_of_ble_eq_true rfl)) (Or.inl (Nat.le_of_ble_eq_true rfl)))
              · show m_dp t101 = (dlt 52 + (dlt 51 + sD r))
                have : dlt 51 = 1 := rfl; have : dlt 52 = 0 := rfl; omega
              · show m_rw t101 = (rho 52 + (rho 51 + sR r))
                have : rho 51 = 0 := rfl; have : rho 52 = 0 := rfl; omega
              · show m_md t101 + (mu7 52 + (mu7 51 + sM r)) ≤ 3 * m_at t101 + 7 * (r.length + 1 + 1) + 10
                have : mu7 51 = 4 := rfl; have : mu7 52 = 5 := rfl; omega
            · refine Ok_ifz (show t < 2147483648 from by omega) (fun q103 => ?_) (fun q103 => ?_)
              · refine Ok_bnc ?_
                try unfold b_X6_exprs
                refine Kp_child C_t101 m_m_mdt0_t101 g_m_mdt0_t101 w_m_mdt0_t101 (by omega) (by omega) (fun t105 C_t105 x_t105 a_t105 b_t105 d_t105 w_t105 u_t105 v_t105 wn_t105 fn_t105 fp_t105 _ l_t105 => ?_)
                have e_t105 := C_t105.2.2.2.1
                have m_n_t105 : n < m_md t105 := by omega
                have g_n_t105 := (x_t105.2.2.1 n m_n_t101).2.1 w_n_t101 g_n_t101
                have w_n_t105 : W5 t105 n := (x_t105.2.2.1 n m_n_t101).1 w_n_t101
                have f_n_t105 : Fz t105 n := (x_t105.2.2.1 n m_n_t101).2.2.1 f_n_t101
                have m_m_mdt0_t105 : m_md t0 < m_md t105 := by omega
                have g_m_mdt0_t105 := (x_t105.2.2.1 (m_md t0) m_m_mdt0_t101).2.1 w_m_mdt0_t101 g_m_mdt0_t101
                have w_m_mdt0_t105 : W5 t105 (m_md t0) := (x_t105.2.2.1 (m_md t0) m_m_mdt0_t101).1 w_m_mdt0_t101
                have u_m_mdt0_t105 := (x_t105.2.2.1 (m_md t0) m_m_mdt0_t101).2.2.2.1 u_m_mdt0_t101
                have f_m_mdt0_t105 : Fz t105 (m_md t0) := fp_t105
                have m_m_mdt101_t105 : m_md t101 < m_md t105 := by omega
                have g_m_mdt101_t105 : GdS t105 (m_md t101) := Or.inl fn_t105
                have w_m_mdt101_t105 : W5 t105 (m_md t101) := by unfold W5; rw [wn_t105]; decide
                have u_m_mdt101_t105 : Up t105 (m_md t101) := Or.inl fn_t105
                clear fp_t105 fn_t105 wn_t105
                refine Kp_push C_t105 (by omega) (fun t106 C_t106 x_t106 a_t106 b_t106 d_t106 w_t106 u_t106 v_t106 _ _ _ l_t106 => ?_)
                have e_t106 := C_t106.2.2.2.1
                have m_n_t106 : n < m_md t106 := by omega
                have g_n_t106 := (x_t106.2.2.1 n m_n_t105).2.1 w_n_t105 g_n_t105
                have w_n_t106 : W5 t106 n := (x_t106.2.2.1 n m_n_t105).1 w_n_t105
                have f_n_t106 : Fz t106 n := (x_t106.2.2.1 n m_n_t105).2.2.1 f_n_t105
                have m_m_mdt0_t106 : m_md t0 < m_md t106 := by omega
                have g_m_mdt0_t106 := (x_t106.2.2.1 (m_md t0) m_m_mdt0_t105).2.1 w_m_mdt0_t105 g_m_mdt0_t105
                have w_m_mdt0_t106 : W5 t106 (m_md t0) := (x_t106.2.2.1 (m_md t0) m_m_mdt0_t105).1 w_m_mdt0_t105
                have f_m_mdt0_t106 : Fz t106 (m_md t0) := (x_t106.2.2.1 (m_md t0) m_m_mdt0_t105).2.2.1 f_m_mdt0_t105
                have u_m_mdt0_t106 := (x_t106.2.2.1 (m_md t0) m_m_mdt0_t105).2.2.2.1 u_m_mdt0_t105
                have m_m_mdt101_t106 : m_md t101 < m_md t106 := by omega
                have g_m_mdt101_t106 := (x_t106.2.2.1 (m_md t101) m_m_mdt101_t105).2.1 w_m_mdt101_t105 g_m_mdt101_t105
                have w_m_mdt101_t106 : W5 t106 (m_md t101) := (x_t106.2.2.1 (m_md t101) m_m_mdt101_t105).1 w_m_mdt101_t105
                have u_m_mdt101_t106 := (x_t106.2.2.1 (m_md t101) m_m_mdt101_t105).2.2.2.1 u_m_mdt101_t105
                refine Ok_bnc ?_
                try unfold b_X6_expression
                refine Kp_push C_t106 (by omega) (fun t108 C_t108 x_t108 a_t108 b_t108 d_t108 w_t108 u_t108 v_t108 _ _ _ l_t108 => ?_)
                have e_t108 := C_t108.2.2.2.1
                have m_n_t108 : n < m_md t108 := by omega
                have g_n_t108 := (x_t108.2.2.1 n m_n_t106).2.1 w_n_t106 g_n_t106
                have w_n_t108 : W5 t108 n := (x_t108.2.2.1 n m_n_t106).1 w_n_t106
                have f_n_t108 : Fz t108 n := (x_t108.2.2.1 n m_n_t106).2.2.1 f_n_t106
                have m_m_mdt0_t108 : m_md t0 < m_md t108 := by omega
                have g_m_mdt0_t108 := (x_t108.2.2.1 (m_md t0) m_m_mdt0_t106).2.1 w_m_mdt0_t106 g_m_mdt0_t106
                have w_m_mdt0_t108 : W5 t108 (m_md t0) := (x_t108.2.2.1 (m_md t0) m_m_mdt0_t106).1 w_m_mdt0_t106
                have f_m_mdt0_t108 : Fz t108 (m_md t0) := (x_t108.2.2.1 (m_md t0) m_m_mdt0_t106).2.2.1 f_m_mdt0_t106
                have u_m_mdt0_t108 := (x_t108.2.2.1 (m_md t0) m_m_mdt0_t106).2.2.2.1 u_m_mdt0_t106
                have m_m_mdt101_t108 : m_md t101 < m_md t108 := by omega
                have g_m_mdt101_t108 := (x_t108.2.2.1 (m_md t101) m_m_mdt101_t106).2.1 w_m_mdt101_t106 g_m_mdt101_t106
                have w_m_mdt101_t108 : W5 t108 (m_md t101) := (x_t108.2.2.1 (m_md t101) m_m_mdt101_t106).1 w_m_mdt101_t106
                have u_m_mdt101_t108 := (x_t108.2.2.1 (m_md t101) m_m_mdt101_t106).2.2.2.1 u_m_mdt101_t106
                refine Kp_push C_t108 (by omega) (fun t109 C_t109 x_t109 a_t109 b_t109 d_t109 w_t109 u_t109 v_t109 _ _ _ l_t109 => ?_)
                have e_t109 := C_t109.2.2.2.1
                have m_n_t109 : n < m_md t109 := by omega
                have g_n_t109 := (x_t109.2.2.1 n m_n_t108).2.1 w_n_t108 g_n_t108
                have w_n_t109 : W5 t109 n := (x_t109.2.2.1 n m_n_t108).1 w_n_t108
                have f_n_t109 : Fz t109 n := (x_t109.2.2.1 n m_n_t108).2.2.1 f_n_t108
                have m_m_mdt0_t109 : m_md t0 < m_md t109 := by omega
                have g_m_mdt0_t109 := (x_t109.2.2.1 (m_md t0) m_m_mdt0_t108).2.1 w_m_mdt0_t108 g_m_mdt0_t108
                have w_m_mdt0_t109 : W5 t109 (m_md t0) := (x_t109.2.2.1 (m_md t0) m_m_mdt0_t108).1 w_m_mdt0_t108
                have f_m_mdt0_t109 : Fz t109 (m_md t0) := (x_t109.2.2.1 (m_md t0) m_m_mdt0_t108).2.2.1 f_m_mdt0_t108
                have u_m_mdt0_t109 := (x_t109.2.2.1 (m_md t0) m_m_mdt0_t108).2.2.2.1 u_m_mdt0_t108
                have m_m_mdt101_t109 : m_md t101 < m_md t109 := by omega
                have g_m_mdt101_t109 := (x_t109.2.2.1 (m_md t101) m_m_mdt101_t108).2.1 w_m_mdt101_t108 g_m_mdt101_t108
                have w_m_mdt101_t109 : W5 t109 (m_md t101) := (x_t109.2.2.1 (m_md t101) m_m_mdt101_t108).1 w_m_mdt101_t108
                have u_m_mdt101_t109 := (x_t109.2.2.1 (m_md t101) m_m_mdt101_t108).2.2.2.1 u_m_mdt101_t108
                refine Ok_ret (show Ok _ _ _ from ?_)
                refine Ok_ret (show Ok _ _ _ from ?_)
                refine Ok_ret (show Ok _ _ _ from ?_)
                refine Ok_ret (show Ok _ _ _ from ?_)
                refine Hv_mk C_t109 hT (by omega) (by omega) (by omega) ?_ ?_ ?_ (by omega) ?_ ?_
                · exact ⟨(Io_n (by decide) (show 0 &&& 1 < 4096 from by omega) m_m_mdt101_t109 g_m_mdt101_t109 w_m_mdt101_t109 (fun q => absurd q (by decide)) (fun q => absurd q (by decide))), (Nd_0 (by decide) Mo_nil), ⟨(Io_2 (by have := or_256 (b := 1) (show (0 &&& 1) < 256 from by omega); omega) (by have := or_256 (b := 1) (show (0 &&& 1) < 256 from by omega); omega) (by have := or_256 (b := 1) (show (0 &&& 1) < 256 from by omega); omega) m_m_mdt101_t109 g_m_mdt101_t109 w_m_mdt101_t109), (Nd_A (by decide) (Mo_cons (fun q => show m_md t101 ≤ m_md t101 from by omega) Mo_nil) (Or.inr ⟨(3, m_md t101, 0 &&& 1), List.mem_cons_self, rfl, Or.inl rfl⟩)), ⟨(Io_n (by decide) (show 0 &&& 1 < 4096 from by omega) m_m_mdt101_t109 g_m_mdt101_t109 w_m_mdt101_t109 (fun q => absurd q (by decide)) (fun q => absurd q (by decide))), (Nd_0 (by decide) (Mo_cons (fun q => show m_md t101 ≤ m_md t101 from by omega) (Mo_cons (fun q => show m_md t101 ≤ m_md t101 from by omega) Mo_nil))), ⟨(Io_n (by decide) (by decide) m_m_mdt0_t109 g_m_mdt0_t109 w_m_mdt0_t109 (fun q => absurd q (by decide)) (fun q => absurd q (by decide))), (Nd_0 (by decide) (Mo_cons (fun q => show m_md t0 ≤ m_md t101 from by omega) (Mo_cons (fun q => show m_md t0 ≤ m_md t101 from by omega) (Mo_cons (fun q => show m_md t0 ≤ m_md t101 from by omega) Mo_nil)))), ⟨(Io_n (by decide) (show t < 4096 from by omega) m_n_t109 g_n_t109 w_n_t109 (fun q => absurd q (by decide)) (fun q => absurd q (by decide))), (Nd_0 (by decide) (Mo_cons (fun q => show n ≤ m_md t0 from by omega) (Mo_cons (fun q => show n ≤ m_md t101 from by omega) (Mo_cons (fun q => show n ≤ m_md t101 from by omega) (Mo_cons (fun q => show n ≤ m_md t101 from by omega) Mo_nil))))), Stk_step (N := n) (pop := (51, n, t)) (new := [(51, n, t), (52, m_md t0, 0), (32, m_md t101, 0 &&& 1), (2, m_md t101, (0 &&& 1) ||| (1 * 256)), (3, m_md t101, 0 &&& 1)]) F0 C_t109.1 (fun _ => m_n_t0) (fun q _ h => h (51, n, t) rfl) (fun _ => rfl) (fun y hy hk => ⟨rfl, (Mo_cons (fun q => show n ≤ n from by omega) (Mo_cons (fun q => show n ≤ m_md t0 from by omega) (Mo_cons (fun q => show n ≤ m_md t101 from by omega) (Mo_cons (fun q => show n ≤ m_md t101 from by omega) (Mo_cons (fun q => show n ≤ m_md t101 from by omega) Mo_nil))))) y hy hk⟩) (fun (h : 51 = 3 ∨ 51 = 18 ∨ 51 = 41) => absurd h (by decide)) (fun (h : 51 = 18) => absurd h (by decide)) (fun (h : 51 = 41 ∨ 51 = 42 ∨ 51 = 43) => absurd h (by decide)) r [] (fun y hy => absurd hy List.not_mem_nil) hS⟩⟩⟩⟩⟩
                · exact (Aj_up (x := (3, m_md t101, 0 &&& 1)) (Aj_up (x := (2, m_md t101, (0 &&& 1) ||| (1 * 256))) (Aj_up (x := (32, m_md t101, 0 &&& 1)) (Aj_up (x := (52, m_md t0, 0)) (Aj_sub (y := (51, n, t)) hJ (Nat.le_of_ble_eq_true rfl)) (Or.inl (Nat.le_of_ble_eq_true rfl))) (Or.inr (Nat.le_of_ble_eq_true rfl))) (Or.inr (show 9 - ((0 &&& 1) ||| (1 * 256)) / 256 < 9 from by have := or_256 (b := 1) (show (0 &&& 1) < 256 from by omega); omega))) (Or.inr (show 2 < 9 - ((0 &&& 1) ||| (1 * 256)) / 256 from by have := or_256 (b := 1) (show (0 &&& 1) < 256 from by omega); omega)))
                · show m_dp t109 = (dlt 3 + (dlt 2 + (dlt 32 + (dlt 52 + (dlt 51 + sD r)))))
                  have : dlt 2 = 0 := rfl; have : dlt 3 = 0 := rfl; have : dlt 32 = 0 := rfl; have : dlt 51 = 1 := rfl; have : dlt 52 = 0 := rfl; omega
                · show m_rw t109 = (rho 3 + (rho 2 + (rho 32 + (rho 52 + (rho 51 + sR r)))))
                  have : rho 2 = 0 := rfl; have : rho 3 = 0 := rfl; have : rho 32 = 0 := rfl; have : rho 51 = 0 := rfl; have : rho 52 = 0 := rfl; omega
                · show m_md t109 + (mu7 3 + (mu7 2 + (mu7 32 + (mu7 52 + (mu7 51 + sM r))))) ≤ 3 * m_at t109 + 7 * (r.length + 1 + 1 + 1 + 1 + 1) + 10
                  have : mu7 2 = 7 := rfl; have : mu7 3 = 5 := rfl; have : mu7 32 = 7 := rfl; have : mu7 51 = 4 := rfl; have : mu7 52 = 5 := rfl; omega
              · refine Ok_ife (show t < 2147483648 from by omega) (by decide) (fun q110 => ?_) (fun q110 => ?_)
                · refine Kp_push C_t101 (by omega) (fun t111 C_t111 x_t111 a_t111 b_t111 d_t111 w_t111 u_t111 v_t111 _ _ _ l_t111 => ?_)
                  have e_t111 := C_t111.2.2.2.1
                  have m_n_t111 : n < m_md t111 := by omega
                  have g_n_t111 := (x_t111.2.2.1 n m_n_t101).2.1 w_n_t101 g_n_t101
                  have w_n_t111 : W5 t111 n := (x_t111.2.2.1 n m_n_t101).1 w_n_t101
                  have f_n_t111 : Fz t111 n := (x_t111.2.2.1 n m_n_t101).2.2.1 f_n_t101
                  have m_m_mdt0_t111 : m_md t0 < m_md t111 := by omega
                  have g_m_mdt0_t111 := (x_t111.2.2.1 (m_md t0) m_m_mdt0_t101).2.1 w_m_mdt0_t101 g_m_mdt0_t101
                  have w_m_mdt0_t111 : W5 t111 (m_md t0) := (x_t111.2.2.1 (m_md t0) m_m_mdt0_t101).1 w_m_mdt0_t101
                  have u_m_mdt0_t111 := (x_t111.2.2.1 (m_md t0) m_m_mdt0_t101).2.2.2.1 u_m_mdt0_t101
                  refine Ok_ret (show Ok _ _ _ from ?_)
                  refine Ok_ret (show Ok _ _ _ from ?_)
                  refine Hv_mk C_t111 hT (by omega) (by omega) (by omega) ?_ ?_ ?_ (by omega) ?_ ?_
                  · exact ⟨(Io_n (by decide) (by decide) m_m_mdt0_t111 g_m_mdt0_t111 w_m_mdt0_t111 (fun _ => u_m_mdt0_t111) (fun q => absurd q (by decide))), (Nd_0 (by decide) Mo_nil), ⟨(Io_n (by decide) (by decide) m_m_mdt0_t111 g_m_mdt0_t111 w_m_mdt0_t111 (fun q => absurd q (by decide)) (fun q => absurd q (by decide))), (Nd_0 (by decide) (Mo_cons (fun q => show m_md t0 ≤ m_md t0 from by omega) Mo_nil)), ⟨(Io_n (by decide) (show t < 4096 from by omega) m_n_t111 g_n_t111 w_n_t111 (fun q => absurd q (by decide)) (fun q => absurd q (by decide))), (Nd_0 (by decide) (Mo_cons (fun q => show n ≤ m_md t0 from by omega) (Mo_cons (fun q => show n ≤ m_md t0 from by omega) Mo_nil))), Stk_step (N := n) (pop := (51, n, t)) (new := [(51, n, t), (52, m_md t0, 0), (41, m_md t0, 32)]) F0 C_t111.1 (fun _ => m_n_t0) (fun q _ h => h (51, n, t) rfl) (fun _ => rfl) (fun y hy hk => ⟨rfl, (Mo_cons (fun q => show n ≤ n from by omega) (Mo_cons (fun q => show n ≤ m_md t0 from by omega) (Mo_cons (fun q => show n ≤ m_md t0 from by omega) Mo_nil))) y hy hk⟩) (fun (h : 51 = 3 ∨ 51 = 18 ∨ 51 = 41) => absurd h (by decide)) (fun (h : 51 = 18) => absurd h (by decide)) (fun (h : 51 = 41 ∨ 51 = 42 ∨ 51 = 43) => absurd h (by decide)) r [] (fun y hy => absurd hy List.not_mem_nil) hS⟩⟩⟩
                  · exact (Aj_up (x := (41, m_md t0, 32)) (Aj_up (x := (52, m_md t0, 0)) (Aj_sub (y := (51, n, t)) hJ (Nat.le_of_ble_eq_true rfl)) (Or.inl (Nat.le_of_ble_eq_true rfl))) (Or.inr (Nat.le_of_ble_eq_true rfl)))
                  · show m_dp t111 = (dlt 41 + (dlt 52 + (dlt 51 + sD r)))
                    have : dlt 41 = 0 := rfl; have : dlt 51 = 1 := rfl; have : dlt 52 = 0 := rfl; omega
                  · show m_rw t111 = (rho 41 + (rho 52 + (rho 51 + sR r)))
                    have : rho 41 = 0 := rfl; have : rho 51 = 0 := rfl; have : rho 52 = 0 := rfl; omega
                  · show m_md t111 + (mu7 41 + (mu7 52 + (mu7 51 + sM r))) ≤ 3 * m_at t111 + 7 * (r.length + 1 + 1 + 1) + 10
                    have : mu7 41 = 6 := rfl; have : mu7 51 = 4 := rfl; have : mu7 52 = 5 := rfl; omega
                · refine Kp_child C_t101 m_m_mdt0_t101 g_m_mdt0_t101 w_m_mdt0_t101 (by omega) (by omega) (fun t112 C_t112 x_t112 a_t112 b_t112 d_t112 w_t112 u_t112 v_t112 wn_t112 fn_t112 fp_t112 _ l_t112 => ?_)
                  have e_t112 := C_t112.2.2.2.1
                  have m_n_t112 : n < m_md t112 := by omega
                  have g_n_t112 := (x_t112.2.2.1 n m_n_t101).2.1 w_n_t101 g_n_t101
                  have w_n_t112 : W5 t112 n := (x_t112.2.2.1 n m_n_t101).1 w_n_t101
                  have f_n_t112 : Fz t112 n := (x_t112.2.2.1 n m_n_t101).2.2.1 f_n_t101
                  have m_m_mdt0_t112 : m_md t0 < m_md t112 := by omega
                  have g_m_mdt0_t112 := (x_t112.2.2.1 (m_md t0) m_m_mdt0_t101).2.1 w_m_mdt0_t101 g_m_mdt0_t101
                  have w_m_mdt0_t112 : W5 t112 (m_md t0) := (x_t112.2.2.1 (m_md t0) m_m_mdt0_t101).1 w_m_mdt0_t101
                  have u_m_mdt0_t112 := (x_t112.2.2.1 (m_md t0) m_m_mdt0_t101).2.2.2.1 u_m_mdt0_t101
                  have f_m_mdt0_t112 : Fz t112 (m_md t0) := fp_t112
                  have m_m_mdt101_t112 : m_md t101 < m_md t112 := by omega
                  have g_m_mdt101_t112 : GdS t112 (m_md t101) := Or.inl fn_t112
                  have w_m_mdt101_t112 : W5 t112 (m_md t101) := by unfold W5; rw [wn_t112]; decide
                  have u_m_mdt101_t112 : Up t112 (m_md t101) := Or.inl fn_t112
                  clear fp_t112 fn_t112 wn_t112
                  refine Kp_push C_t112 (by omega) (fun t113 C_t113 x_t113 a_t113 b_t113 d_t113 w_t113 u_t113 v_t113 _ _ _ l_t113 => ?_)
                  have e_t113 := C_t113.2.2.2.1
                  have m_n_t113 : n < m_md t113 := by omega
                  have g_n_t113 := (x_t113.2.2.1 n m_n_t112).2.1 w_n_t112 g_n_t112
                  have w_n_t113 : W5 t113 n := (x_t113.2.2.1 n m_n_t112).1 w_n_t112
                  have f_n_t113 : Fz t113 n := (x_t113.2.2.1 n m_n_t112).2.2.1 f_n_t112
                  have m_m_mdt0_t113 : m_md t0 < m_md t113 := by omega
                  have g_m_mdt0_t113 := (x_t113.2.2.1 (m_md t0) m_m_mdt0_t112).2.1 w_m_mdt0_t112 g_m_mdt0_t112
                  have w_m_mdt0_t113 : W5 t113 (m_md t0) := (x_t113.2.2.1 (m_md t0) m_m_mdt0_t112).1 w_m_mdt0_t112
                  have f_m_mdt0_t113 : Fz t113 (m_md t0) := (x_t113.2.2.1 (m_md t0) m_m_mdt0_t112).2.2.1 f_m_mdt0_t112
                  have u_m_mdt0_t113 := (x_t113.2.2.1 (m_md t0) m_m_mdt0_t112).2.2.2.1 u_m_mdt0_t112
                  have m_m_mdt101_t113 : m_md t101 < m_md t113 := by omega
                  have g_m_mdt101_t113 := (x_t113.2.2.1 (m_md t101) m_m_mdt101_t112).2.1 w_m_mdt101_t112 g_m_mdt101_t112
                  have w_m_mdt101_t113 : W5 t113 (m_md t101) := (x_t113.2.2.1 (m_md t101) m_m_mdt101_t112).1 w_m_mdt101_t112
                  have u_m_mdt101_t113 := (x_t113.2.2.1 (m_md t101) m_m_mdt101_t112).2.2.2.1 u_m_mdt101_t112
                  refine Kp_push C_t113 (by omega) (fun t114 C_t114 x_t114 a_t114 b_t114 d_t114 w_t114 u_t114 v_t114 _ _ _ l_t114 => ?_)
                  have e_t114 := C_t114.2.2.2.1
                  have m_n_t114 : n < m_md t114 := by omega
                  have g_n_t114 := (x_t114.2.2.1 n m_n_t113).2.1 w_n_t113 g_n_t113
                  have w_n_t114 : W5 t114 n := (x_t114.2.2.1 n m_n_t113).1 w_n_t113
                  have f_n_t114 : Fz t114 n := (x_t114.2.2.1 n m_n_t113).2.2.1 f_n_t113
                  have m_m_mdt0_t114 : m_md t0 < m_md t114 := by omega
                  have g_m_mdt0_t114 := (x_t114.2.2.1 (m_md t0) m_m_mdt0_t113).2.1 w_m_mdt0_t113 g_m_mdt0_t113
                  have w_m_mdt0_t114 : W5 t114 (m_md t0) := (x_t114.2.2.1 (m_md t0) m_m_mdt0_t113).1 w_m_mdt0_t113
                  have f_m_mdt0_t114 : Fz t114 (m_md t0) := (x_t114.2.2.1 (m_md t0) m_m_mdt0_t113).2.2.1 f_m_mdt0_t113
                  have u_m_mdt0_t114 := (x_t114.2.2.1 (m_md t0) m_m_mdt0_t113).2.2.2.1 u_m_mdt0_t113
                  have m_m_mdt101_t114 : m_md t101 < m_md t114 := by omega
                  have g_m_mdt101_t114 := (x_t114.2.2.1 (m_md t101) m_m_mdt101_t113).2.1 w_m_mdt101_t113 g_m_mdt101_t113
                  have w_m_mdt101_t114 : W5 t114 (m_md t101) := (x_t114.2.2.1 (m_md t101) m_m_mdt101_t113).1 w_m_mdt101_t113
                  have u_m_mdt101_t114 := (x_t114.2.2.1 (m_md t101) m_m_mdt101_t113).2.2.2.1 u_m_mdt101_t113
                  refine Ok_ret (show Ok _ _ _ from ?_)
                  refine Ok_ret (show Ok _ _ _ from ?_)
                  refine Hv_mk C_t114 hT (by omega) (by omega) (by omega) ?_ ?_ ?_ (by omega) ?_ ?_
                  · exact ⟨(Io_n (by decide) (by decide) m_m_mdt101_t114 g_m_mdt101_t114 w_m_mdt101_t114 (fun q => absurd q (by decide)) (fun q => absurd q (by decide))), (Nd_0 (by decide) Mo_nil), ⟨(Io_n (by decide) (by decide) m_m_mdt101_t114 g_m_mdt101_t114 w_m_mdt101_t114 (fun q => absurd q (by decide)) (fun q => absurd q (by decide))), (Nd_0 (by decide) (Mo_cons (fun q => show m_md t101 ≤ m_md t101 from by omega) Mo_nil)), ⟨(Io_n (by decide) (by decide) m_m_mdt0_t114 g_m_mdt0_t114 w_m_mdt0_t114 (fun q => absurd q (by decide)) (fun q => absurd q (by decide))), (Nd_0 (by decide) (Mo_cons (fun q => show m_md t0 ≤ m_md t101 from by omega) (Mo_cons (fun q => show m_md t0 ≤ m_md t101 from by omega) Mo_nil))), ⟨(Io_n (by decide) (show t < 4096 from by omega) m_n_t114 g_n_t114 w_n_t114 (fun q => absurd q (by decide)) (fun q => absurd q (by decide))), (Nd_0 (by decide) (Mo_cons (fun q => show n ≤ m_md t0 from by omega) (Mo_cons (fun q => show n ≤ m_md t101 from by omega) (Mo_cons (fun q => show n ≤ m_md t101 from by omega) Mo_nil)))), Stk_step (N := n) (pop := (51, n, t)) (new := [(51, n, t), (52, m_md t0, 0), (53, m_md t101, 0), (18, m_md t101, 0)]) F0 C_t114.1 (fun _ => m_n_t0) (fun q _ h => h (51, n, t) rfl) (fun _ => rfl) (fun y hy hk => ⟨rfl, (Mo_cons (fun q => show n ≤ n from by omega) (Mo_cons (fun q => show n ≤ m_md t0 from by omega) (Mo_cons (fun q => show n ≤ m_md t101 from by omega) (Mo_cons (fun q => show n ≤ m_md t101 from by omega) Mo_nil)))) y hy hk⟩) (fun (h : 51 = 3 ∨ 51 = 18 ∨ 51 = 41) => absurd h (by decide)) (fun (h : 51 = 18) => absurd h (by decide)) (fun (h : 51 = 41 ∨ 51 = 42 ∨ 51 = 43) => absurd h (by decide)) r [] (fun y hy => absurd hy List.not_mem_nil) hS⟩⟩⟩⟩
                  · exact (Aj_up (x := (18, m_md t101, 0)) (Aj_up (x := (53, m_md t101, 0)) (Aj_up (x := (52, m_md t0, 0)) (Aj_sub (y := (51, n, t)) hJ (Nat.le_of_ble_eq_true rfl)) (Or.inl (Nat.le_of_ble_eq_true rfl))) (Or.inr (Nat.le_of_ble_eq_true rfl))) (Or.inr (Nat.le_of_ble_eq_true rfl)))
                  · show m_dp t114 = (dlt 18 + (dlt 53 + (dlt 52 + (dlt 51 + sD r))))
                    have : dlt 18 = 0 := rfl; have : dlt 51 = 1 := rfl; have : dlt 52 = 0 := rfl; have : dlt 53 = 0 := rfl; omega
                  · show m_rw t114 = (rho 18 + (rho 53 + (rho 52 + (rho 51 + sR r))))
                    have : rho 18 = 0 := rfl; have : rho 51 = 0 := rfl; have : rho 52 = 0 := rfl; have : rho 53 = 0 := rfl; omega
                  · show m_md t114 + (mu7 18 + (mu7 53 + (mu7 52 + (mu7 51 + sM r)))) ≤ 3 * m_at t114 + 7 * (r.length + 1 + 1 + 1 + 1) + 10
                    have : mu7 18 = 5 := rfl; have : mu7 51 = 4 := rfl; have : mu7 52 = 5 := rfl; have : mu7 53 = 7 := rfl; omega
        · refine Ok_ife (Nat.lt_trans (lo_lt (C_t0.tk hT) _) (by decide)) (by decide) (fun q115 => ?_) (fun q115 => ?_)
          · refine Kp_child C_t0 m_n_t0 g_n_t0 w_n_t0 (by omega) (by omega) (fun t116 C_t116 x_t116 a_t116 b_t116 d_t116 w_t116 u_t116 v_t116 wn_t116 fn_t116 fp_t116 _ l_t116 => ?_)
            have e_t116 := C_t116.2.2.2.1
            have m_n_t116 : n < m_md t116 := by omega
            have g_n_t116 := (x_t116.2.2.1 n m_n_t0).2.1 w_n_t0 g_n_t0
            have w_n_t116 : W5 t116 n := (x_t116.2.2.1 n m_n_t0).1 w_n_t0
            have f_n_t116 : Fz t116 n := fp_t116
            have m_m_mdt0_t116 : m_md t0 < m_md t116 := by omega
            have g_m_mdt0_t116 : GdS t116 (m_md t0) := Or.inl fn_t116
            have w_m_mdt0_t116 : W5 t116 (m_md t0) := by unfold W5; rw [wn_t116]; decide
            have u_m_mdt0_t116 : Up t116 (m_md t0) := Or.inl fn_t116
            clear fp_t116 fn_t116 wn_t116
            have z_t117 : m_at t116 < m_ct t116 := lo_ne (Nat.ne_of_gt (show 0 < lo t116 (m_at t116) from by omega))
            refine Kp_at C_t116 (fun t117 C_t117 x_t117 a_t117 b_t117 d_t117 w_t117 u_t117 v_t117 _ _ _ l_t117 => ?_)
            have e_t117 := C_t117.2.2.2.1
            have m_n_t117 : n < m_md t117 := by omega
            have g_n_t117 := (x_t117.2.2.1 n m_n_t116).2.1 w_n_t116 g_n_t116
            have w_n_t117 : W5 t117 n := (x_t117.2.2.1 n m_n_t116).1 w_n_t116
            have f_n_t117 : Fz t117 n := (x_t117.2.2.1 n m_n_t116).2.2.1 f_n_t116
            have m_m_mdt0_t117 : m_md t0 < m_md t117 := by omega
            have g_m_mdt0_t117 := (x_t117.2.2.1 (m_md t0) m_m_mdt0_t116).2.1 w_m_mdt0_t116 g_m_mdt0_t116
            have w_m_mdt0_t117 : W5 t117 (m_md t0) := (x_t117.2.2.1 (m_md t0) m_m_mdt0_t116).1 w_m_mdt0_t116
            have u_m_mdt0_t117 := (x_t117.2.2.1 (m_md t0) m_m_mdt0_t116).2.2.2.1 u_m_mdt0_t116
            refine Kp_push C_t117 (by omega) (fun t118 C_t118 x_t118 a_t118 b_t118 d_t118 w_t118 u_t118 v_t118 _ _ _ l_t118 => ?_)
            have e_t118 := C_t118.2.2.2.1
            have m_n_t118 : n < m_md t118 := by omega
            have g_n_t118 := (x_t118.2.2.1 n m_n_t117).2.1 w_n_t117 g_n_t117
            have w_n_t118 : W5 t118 n := (x_t118.2.2.1 n m_n_t117).1 w_n_t117
            have f_n_t118 : Fz t118 n := (x_t118.2.2.1 n m_n_t117).2.2.1 f_n_t117
            have m_m_mdt0_t118 : m_md t0 < m_md t118 := by omega
            have g_m_mdt0_t118 := (x_t118.2.2.1 (m_md t0) m_m_mdt0_t117).2.1 w_m_mdt0_t117 g_m_mdt0_t117
            have w_m_mdt0_t118 : W5 t118 (m_md t0) := (x_t118.2.2.1 (m_md t0) m_m_mdt0_t117).1 w_m_mdt0_t117
            have u_m_mdt0_t118 := (x_t118.2.2.1 (m_md t0) m_m_mdt0_t117).2.2.2.1 u_m_mdt0_t117
            refine Kp_push C_t118 (by omega) (fun t119 C_t119 x_t119 a_t119 b_t119 d_t119 w_t119 u_t119 v_t119 _ _ _ l_t119 => ?_)
            have e_t119 := C_t119.2.2.2.1
            have m_n_t119 : n < m_md t119 := by omega
            have g_n_t119 := (x_t119.2.2.1 n m_n_t118).2.1 w_n_t118 g_n_t118
            have w_n_t119 : W5 t119 n := (x_t119.2.2.1 n m_n_t118).1 w_n_t118
            have f_n_t119 : Fz t119 n := (x_t119.2.2.1 n m_n_t118).2.2.1 f_n_t118
            have m_m_mdt0_t119 : m_md t0 < m_md t119 := by omega
            have g_m_mdt0_t119 := (x_t119.2.2.1 (m_md t0) m_m_mdt0_t118).2.1 w_m_mdt0_t118 g_m_mdt0_t118
            have w_m_mdt0_t119 : W5 t119 (m_md t0) := (x_t119.2.2.1 (m_md t0) m_m_mdt0_t118).1 w_m_mdt0_t118
            have u_m_mdt0_t119 := (x_t119.2.2.1 (m_md t0) m_m_mdt0_t118).2.2.2.1 u_m_mdt0_t118
            refine Ok_ife (Nat.lt_trans (lo_lt (C_t0.tk hT) _) (by decide)) (by decide) (fun q120 => ?_) (fun q120 => ?_)
            · refine Ok_ret (show Ok _ _ _ from ?_)
              refine Ok_ret (show Ok _ _ _ from ?_)
              refine Hv_mk C_t119 hT (by omega) (by omega) (by omega) ?_ ?_ ?_ (by omega) ?_ ?_
              · exact ⟨(Io_n (by decide) (by decide) m_m_mdt0_t119 g_m_mdt0_t119 w_m_mdt0_t119 (fun q => absurd q (by decide)) (fun q => absurd q (by decide))), (Nd_0 (by decide) Mo_nil), ⟨(Io_n (by decide) (show t < 4096 from by omega) m_n_t119 g_n_t119 w_n_t119 (fun q => absurd q (by decide)) (fun q => absurd q (by decide))), (Nd_0 (by decide) (Mo_cons (fun q => show n ≤ m_md t0 from by omega) Mo_nil)), Stk_step (N := n) (pop := (51, n, t)) (new := [(51, n, t), (52, m_md t0, 0)]) F0 C_t119.1 (fun _ => m_n_t0) (fun q _ h => h (51, n, t) rfl) (fun _ => rfl) (fun y hy hk => ⟨rfl, (Mo_cons (fun q => show n ≤ n from by omega) (Mo_cons (fun q => show n ≤ m_md t0 from by omega) Mo_nil)) y hy hk⟩) (fun (h : 51 = 3 ∨ 51 = 18 ∨ 51 = 41) => absurd h (by decide)) (fun (h : 51 = 18) => absurd h (by decide)) (fun (h : 51 = 41 ∨ 51 = 42 ∨ 51 = 43) => absurd h (by decide)) r [] (fun y hy => absurd hy List.not_mem_nil) hS⟩⟩
              · exact (Aj_up (x := (52, m_md t0, 0)) (Aj_sub (y := (51, n, t)) hJ (Nat.le_of_ble_eq_true rfl)) (Or.inl (Nat.le_of_ble_eq_true rfl)))
              · show m_dp t119 = (dlt 52 + (dlt 51 + sD r))
                have : dlt 51 = 1 := rfl; have : dlt 52 = 0 := rfl; omega
              · show m_rw t119 = (rho 52 + (rho 51 + sR r))
                have : rho 51 = 0 := rfl; have : rho 52 = 0 := rfl; omega
              · show m_md t119 + (mu7 52 + (mu7 51 + sM r)) ≤ 3 * m_at t119 + 7 * (r.length + 1 + 1) + 10
                have : mu7 51 = 4 := rfl; have : mu7 52 = 5 := rfl; omega
            · refine Ok_ifz (show t < 2147483648 from by omega) (fun q121 => ?_) (fun q121 => ?_)
              · refine Ok_bnc ?_
                try unfold b_X6_exprs
                refine Kp_child C_t119 m_m_mdt0_t119 g_m_mdt0_t119 w_m_mdt0_t119 (by omega) (by omega) (fun t123 C_t123 x_t123 a_t123 b_t123 d_t123 w_t123 u_t123 v_t123 wn_t123 fn_t123 fp_t123 _ l_t123 => ?_)
                have e_t123 := C_t123.2.2.2.1
                have m_n_t123 : n < m_md t123 := by omega
                have g_n_t123 := (x_t123.2.2.1 n m_n_t119).2.1 w_n_t119 g_n_t119
                have w_n_t123 : W5 t123 n := (x_t123.2.2.1 n m_n_t119).1 w_n_t119
                have f_n_t123 : Fz t123 n := (x_t123.2.2.1 n m_n_t119).2.2.1 f_n_t119
                have m_m_mdt0_t123 : m_md t0 < m_md t123 := by omega
                have g_m_mdt0_t123 := (x_t123.2.2.1 (m_md t0) m_m_mdt0_t119).2.1 w_m_mdt0_t119 g_m_mdt0_t119
                have w_m_mdt0_t123 : W5 t123 (m_md t0) := (x_t123.2.2.1 (m_md t0) m_m_mdt0_t119).1 w_m_mdt0_t119
                have u_m_mdt0_t123 := (x_t123.2.2.1 (m_md t0) m_m_mdt0_t119).2.2.2.1 u_m_mdt0_t119
                have f_m_mdt0_t123 : Fz t123 (m_md t0) := fp_t123
                have m_m_mdt119_t123 : m_md t119 < m_md t123 := by omega
                have g_m_mdt119_t123 : GdS t123 (m_md t119) := Or.inl fn_t123
                have w_m_mdt119_t123 : W5 t123 (m_md t119) := by unfold W5; rw [wn_t123]; decide
                have u_m_mdt119_t123 : Up t123 (m_md t119) := Or.inl fn_t123
                clear fp_t123 fn_t123 wn_t123
                refine Kp_push C_t123 (by omega) (fun t124 C_t124 x_t124 a_t124 b_t124 d_t124 w_t124 u_t124 v_t124 _ _ _ l_t124 => ?_)
                have e_t124 := C_t124.2.2.2.1
                have m_n_t124 : n < m_md t124 := by omega
                have g_n_t124 := (x_t124.2.2.1 n m_n_t123).2.1 w_n_t123 g_n_t123
                have w_n_t124 : W5 t124 n := (x_t124.2.2.1 n m_n_t123).1 w_n_t123
                have f_n_t124 : Fz t124 n := (x_t124.2.2.1 n m_n_t123).2.2.1 f_n_t123
                have m_m_mdt0_t124 : m_md t0 < m_md t124 := by omega
                have g_m_mdt0_t124 := (x_t124.2.2.1 (m_md t0) m_m_mdt0_t123).2.1 w_m_mdt0_t123 g_m_mdt0_t123
                have w_m_mdt0_t124 : W5 t124 (m_md t0) := (x_t124.2.2.1 (m_md t0) m_m_mdt0_t123).1 w_m_mdt0_t123
                have f_m_mdt0_t124 : Fz t124 (m_md t0) := (x_t124.2.2.1 (m_md t0) m_m_mdt0_t123).2.2.1 f_m_mdt0_t123
                have u_m_mdt0_t124 := (x_t124.2.2.1 (m_md t0) m_m_mdt0_t123).2.2.2.1 u_m_mdt0_t123
                have m_m_mdt119_t124 : m_md t119 < m_md t124 := by omega
                have g_m_mdt119_t124 := (x_t124.2.2.1 (m_md t119) m_m_mdt119_t123).2.1 w_m_mdt119_t123 g_m_mdt119_t123
                have w_m_mdt119_t124 : W5 t124 (m_md t119) := (x_t124.2.2.1 (m_md t119) m_m_mdt119_t123).1 w_m_mdt119_t123
                have u_m_mdt119_t124 := (x_t124.2.2.1 (m_md t119) m_m_mdt119_t123).2.2.2.1 u_m_mdt119_t123
                refine Ok_bnc ?_
                try unfold b_X6_expression
                refine Kp_push C_t124 (by omega) (fun t126 C_t126 x_t126 a_t126 b_t126 d_t126 w_t126 u_t126 v_t126 _ _ _ l_t126 => ?_)
                have e_t126 := C_t126.2.2.2.1
                have m_n_t126 : n < m_md t126 := by omega
                have g_n_t126 := (x_t126.2.2.1 n m_n_t124).2.1 w_n_t124 g_n_t124
                have w_n_t126 : W5 t126 n := (x_t126.2.2.1 n m_n_t124).1 w_n_t124
                have f_n_t126 : Fz t126 n := (x_t126.2.2.1 n m_n_t124).2.2.1 f_n_t124
                have m_m_mdt0_t126 : m_md t0 < m_md t126 := by omega
                have g_m_mdt0_t126 := (x_t126.2.2.1 (m_md t0) m_m_mdt0_t124).2.1 w_m_mdt0_t124 g_m_mdt0_t124
                have w_m_mdt0_t126 : W5 t126 (m_md t0) := (x_t126.2.2.1 (m_md t0) m_m_mdt0_t124).1 w_m_mdt0_t124
                have f_m_mdt0_t126 : Fz t126 (m_md t0) := (x_t126.2.2.1 (m_md t0) m_m_mdt0_t124).2.2.1 f_m_mdt0_t124
                have u_m_mdt0_t126 := (x_t126.2.2.1 (m_md t0) m_m_mdt0_t124).2.2.2.1 u_m_mdt0_t124
                have m_m_mdt119_t126 : m_md t119 < m_md t126 := by omega
                have g_m_mdt119_t126 := (x_t126.2.2.1 (m_md t119) m_m_mdt119_t124).2.1 w_m_mdt119_t124 g_m_mdt119_t124
                have w_m_mdt119_t126 : W5 t126 (m_md t119) := (x_t126.2.2.1 (m_md t119) m_m_mdt119_t124).1 w_m_mdt119_t124
                have u_m_mdt119_t126 := (x_t126.2.2.1 (m_md t119) m_m_mdt119_t124).2.2.2.1 u_m_mdt119_t124
                refine Kp_push C_t126 (by omega) (fun t127 C_t127 x_t127 a_t127 b_t127 d_t127 w_t127 u_t127 v_t127 _ _ _ l_t127 => ?_)
                have e_t127 := C_t127.2.2.2.1
                have m_n_t127 : n < m_md t127 := by omega
                have g_n_t127 := (x_t127.2.2.1 n m_n_t126).2.1 w_n_t126 g_n_t126
                have w_n_t127 : W5 t127 n := (x_t127.2.2.1 n m_n_t126).1 w_n_t126
                have f_n_t127 : Fz t127 n := (x_t127.2.2.1 n m_n_t126).2.2.1 f_n_t126
                have m_m_mdt0_t127 : m_md t0 < m_md t127 := by omega
                have g_m_mdt0_t127 := (x_t127.2.2.1 (m_md t0) m_m_mdt0_t126).2.1 w_m_mdt0_t126 g_m_mdt0_t126
                have w_m_mdt0_t127 : W5 t127 (m_md t0) := (x_t127.2.2.1 (m_md t0) m_m_mdt0_t126).1 w_m_mdt0_t126
                have f_m_mdt0_t127 : Fz t127 (m_md t0) := (x_t127.2.2.1 (m_md t0) m_m_mdt0_t126).2.2.1 f_m_mdt0_t126
                have u_m_mdt0_t127 := (x_t127.2.2.1 (m_md t0) m_m_mdt0_t126).2.2.2.1 u_m_mdt0_t126
                have m_m_mdt119_t127 : m_md t119 < m_md t127 := by omega
                have g_m_mdt119_t127 := (x_t127.2.2.1 (m_md t119) m_m_mdt119_t126).2.1 w_m_mdt119_t126 g_m_mdt119_t126
                have w_m_mdt119_t127 : W5 t127 (m_md t119) := (x_t127.2.2.1 (m_md t119) m_m_mdt119_t126).1 w_m_mdt119_t126
                have u_m_mdt119_t127 := (x_t127.2.2.1 (m_md t119) m_m_mdt119_t126).2.2.2.1 u_m_mdt119_t126
                refine Ok_ret (show Ok _ _ _ from ?_)
                refine Ok_ret (show Ok _ _ _ from ?_)
                refine Ok_ret (show Ok _ _ _ from ?_)
                refine Ok_ret (show Ok _ _ _ from ?_)
                refine Hv_mk C_t127 hT (by omega) (by omega) (by omega) ?_ ?_ ?_ (by omega) ?_ ?_
                · exact ⟨(Io_n (by decide) (show 0 &&& 1 < 4096 from by omega) m_m_mdt119_t127 g_m_mdt119_t127 w_m_mdt119_t127 (fun q => absurd q (by decide)) (fun q => absurd q (by decide))), (Nd_0 (by decide) Mo_nil), ⟨(Io_2 (by have := or_256 (b := 1) (show (0 &&& 1) < 256 from by omega); omega) (by have := or_256 (b := 1) (show (0 &&& 1) < 256 from by omega); omega) (by have := or_256 (b := 1) (show (0 &&& 1) < 256 from by omega); omega) m_m_mdt119_t127 g_m_mdt119_t127 w_m_mdt119_t127), (Nd_A (by decide) (Mo_cons (fun q => show m_md t119 ≤ m_md t119 from by omega) Mo_nil) (Or.inr ⟨(3, m_md t119, 0 &&& 1), List.mem_cons_self, rfl, Or.inl rfl⟩)), ⟨(Io_n (by decide) (show 0 &&& 1 < 4096 from by omega) m_m_mdt119_t127 g_m_mdt119_t127 w_m_mdt119_t127 (fun q => absurd q (by decide)) (fun q => absurd q (by decide))), (Nd_0 (by decide) (Mo_cons (fun q => show m_md t119 ≤ m_md t119 from by omega) (Mo_cons (fun q => show m_md t119 ≤ m_md t119 from by omega) Mo_nil))), ⟨(Io_n (by decide) (by decide) m_m_mdt0_t127 g_m_mdt0_t127 w_m_mdt0_t127 (fun q => absurd q (by decide)) (fun q => absurd q (by decide))), (Nd_0 (by decide) (Mo_cons (fun q => show m_md t0 ≤ m_md t119 from by omega) (Mo_cons (fun q => show m_md t0 ≤ m_md t119 from by omega) (Mo_cons (fun q => show m_md t0 ≤ m_md t119 from by omega) Mo_nil)))), ⟨(Io_n (by decide) (show t < 4096 from by omega) m_n_t127 g_n_t127 w_n_t127 (fun q => absurd q (by decide)) (fun q => absurd q (by decide))), (Nd_0 (by decide) (Mo_cons (fun q => show n ≤ m_md t0 from by omega) (Mo_cons (fun q => show n ≤ m_md t119 from by omega) (Mo_cons (fun q => show n ≤ m_md t119 from by omega) (Mo_cons (fun q => show n ≤ m_md t119 from by omega) Mo_nil))))), Stk_step (N := n) (pop := (51, n, t)) (new := [(51, n, t), (52, m_md t0, 0), (32, m_md t119, 0 &&& 1), (2, m_md t119, (0 &&& 1) ||| (1 * 256)), (3, m_md t119, 0 &&& 1)]) F0 C_t127.1 (fun _ => m_n_t0) (fun q _ h => h (51, n, t) rfl) (fun _ => rfl) (fun y hy hk => ⟨rfl, (Mo_cons (fun q => show n ≤ n from by omega) (Mo_cons (fun q => show n ≤ m_md t0 from by omega) (Mo_cons (fun q => show n ≤ m_md t119 from by omega) (Mo_cons (fun q => show n ≤ m_md t119 from by omega) (Mo_cons (fun q => show n ≤ m_md t119 from by omega) Mo_nil))))) y hy hk⟩) (fun (h : 51 = 3 ∨ 51 = 18 ∨ 51 = 41) => absurd h (by decide)) (fun (h : 51 = 18) => absurd h (by decide)) (fun (h : 51 = 41 ∨ 51 = 42 ∨ 51 = 43) => absurd h (by decide)) r [] (fun y hy => absurd hy List.not_mem_nil) hS⟩⟩⟩⟩⟩
                · exact (Aj_up (x := (3, m_md t119, 0 &&& 1)) (Aj_up (x := (2, m_md t119, (0 &&& 1) ||| (1 * 256))) (Aj_up (x := (32, m_md t119, 0 &&& 1)) (Aj_up (x := (52, m_md t0, 0)) (Aj_sub (y := (51, n, t)) hJ (Nat.le_of_ble_eq_true rfl)) (Or.inl (Nat.le_of_ble_eq_true rfl))) (Or.inr (Nat.le_of_ble_eq_true rfl))) (Or.inr (show 9 - ((0 &&& 1) ||| (1 * 256)) / 256 < 9 from by have := or_256 (b := 1) (show (0 &&& 1) < 256 from by omega); omega))) (Or.inr (show 2 < 9 - ((0 &&& 1) ||| (1 * 256)) / 256 from by have := or_256 (b := 1) (show (0 &&& 1) < 256 from by omega); omega)))
                · show m_dp t127 = (dlt 3 + (dlt 2 + (dlt 32 + (dlt 52 + (dlt 51 + sD r)))))
                  have : dlt 2 = 0 := rfl; have : dlt 3 = 0 := rfl; have : dlt 32 = 0 := rfl; have : dlt 51 = 1 := rfl; have : dlt 52 = 0 := rfl; omega
                · show m_rw t127 = (rho 3 + (rho 2 + (rho 32 + (rho 52 + (rho 51 + sR r)))))
                  have : rho 2 = 0 := rfl; have : rho 3 = 0 := rfl; have : rho 32 = 0 := rfl; have : rho 51 = 0 := rfl; have : rho 52 = 0 := rfl; omega
                · show m_md t127 + (mu7 3 + (mu7 2 + (mu7 32 + (mu7 52 + (mu7 51 + sM r))))) ≤ 3 * m_at t127 + 7 * (r.length + 1 + 1 + 1 + 1 + 1) + 10
                  have : mu7 2 = 7 := rfl; have : mu7 3 = 5 := rfl; have : mu7 32 = 7 := rfl; have : mu7 51 = 4 := rfl; have : mu7 52 = 5 := rfl; omega
              · refine Ok_ife (show t < 2147483648 from by omega) (by decide) (fun q128 => ?_) (fun q128 => ?_)
                · refine Kp_push C_t119 (by omega) (fun t129 C_t129 x_t129 a_t129 b_t129 d_t129 w_t129 u_t129 v_t129 _ _ _ l_t129 => ?_)
                  have e_t129 := C_t129.2.2.2.1
                  have m_n_t129 : n < m_md t129 := by omega
                  have g_n_t129 := (x_t129.2.2.1 n m_n_t119).2.1 w_n_t119 g_n_t119
                  have w_n_t129 : W5 t129 n := (x_t129.2.2.1 n m_n_t119).1 w_n_t119
                  have f_n_t129 : Fz t129 n := (x_t129.2.2.1 n m_n_t119).2.2.1 f_n_t119
                  have m_m_mdt0_t129 : m_md t0 < m_md t129 := by omega
                  have g_m_mdt0_t129 := (x_t129.2.2.1 (m_md t0) m_m_mdt0_t119).2.1 w_m_mdt0_t119 g_m_mdt0_t119
                  have w_m_mdt0_t129 : W5 t129 (m_md t0) := (x_t129.2.2.1 (m_md t0) m_m_mdt0_t119).1 w_m_mdt0_t119
                  have u_m_mdt0_t129 := (x_t129.2.2.1 (m_md t0) m_m_mdt0_t119).2.2.2.1 u_m_mdt0_t119
                  refine Ok_ret (show Ok _ _ _ from ?_)
                  refine Ok_ret (show Ok _ _ _ from ?_)
                  refine Hv_mk C_t129 hT (by omega) (by omega) (by omega) ?_ ?_ ?_ (by omega) ?_ ?_
                  · exact ⟨(Io_n (by decide) (by decide) m_m_mdt0_t129 g_m_mdt0_t129 w_m_mdt0_t129 (fun _ => u_m_mdt0_t129) (fun q => absurd q (by decide))), (Nd_0 (by decide) Mo_nil), ⟨(Io_n (by decide) (by decide) m_m_mdt0_t129 g_m_mdt0_t129 w_m_mdt0_t129 (fun q => absurd q (by decide)) (fun q => absurd q (by decide))), (Nd_0 (by decide) (Mo_cons (fun q => show m_md t0 ≤ m_md t0 from by omega) Mo_nil)), ⟨(Io_n (by decide) (show t < 4096 from by omega) m_n_t129 g_n_t129 w_n_t129 (fun q => absurd q (by decide)) (fun q => absurd q (by decide))), (Nd_0 (by decide) (Mo_cons (fun q => show n ≤ m_md t0 from by omega) (Mo_cons (fun q => show n ≤ m_md t0 from by omega) Mo_nil))), Stk_step (N := n) (pop := (51, n, t)) (new := [(51, n, t), (52, m_md t0, 0), (41, m_md t0, 32)]) F0 C_t129.1 (fun _ => m_n_t0) (fun q _ h => h (51, n, t) rfl) (fun _ => rfl) (fun y hy hk => ⟨rfl, (Mo_cons (fun q => show n ≤ n from by omega) (Mo_cons (fun q => show n ≤ m_md t0 from by omega) (Mo_cons (fun q => show n ≤ m_md t0 from by omega) Mo_nil))) y hy hk⟩) (fun (h : 51 = 3 ∨ 51 = 18 ∨ 51 = 41) => absurd h (by decide)) (fun (h : 51 = 18) => absurd h (by decide)) (fun (h : 51 = 41 ∨ 51 = 42 ∨ 51 = 43) => absurd h (by decide)) r [] (fun y hy => absurd hy List.not_mem_nil) hS⟩⟩⟩
                  · exact (Aj_up (x := (41, m_md t0, 32)) (Aj_up (x := (52, m_md t0, 0)) (Aj_sub (y := (51, n, t)) hJ (Nat.le_of_ble_eq_true rfl)) (Or.inl (Nat.le_of_ble_eq_true rfl))) (Or.inr (Nat.le_of_ble_eq_true rfl)))
                  · show m_dp t129 = (dlt 41 + (dlt 52 + (dlt 51 + sD r)))
                    have : dlt 41 = 0 := rfl; have : dlt 51 = 1 := rfl; have : dlt 52 = 0 := rfl; omega
                  · show m_rw t129 = (rho 41 + (rho 52 + (rho 51 + sR r)))
                    have : rho 41 = 0 := rfl; have : rho 51 = 0 := rfl; have : rho 52 = 0 := rfl; omega
                  · show m_md t129 + (mu7 41 + (mu7 52 + (mu7 51 + sM r))) ≤ 3 * m_at t129 + 7 * (r.length + 1 + 1 + 1) + 10
                    have : mu7 41 = 6 := rfl; have : mu7 51 = 4 := rfl; have : mu7 52 = 5 := rfl; omega
                · refine Kp_child C_t119 m_m_mdt0_t119 g_m_mdt0_t119 w_m_mdt0_t119 (by omega) (by omega) (fun t130 C_t130 x_t130 a_t130 b_t130 d_t130 w_t130 u_t130 v_t130 wn_t130 fn_t130 fp_t130 _ l_t130 => ?_)
                  have e_t130 := C_t130.2.2.2.1
                  have m_n_t130 : n < m_md t130 := by omega
                  have g_n_t130 := (x_t130.2.2.1 n m_n_t119).2.1 w_n_t119 g_n_t119
                  have w_n_t130 : W5 t130 n := (x_t130.2.2.1 n m_n_t119).1 w_n_t119
                  have f_n_t130 : Fz t130 n := (x_t130.2.2.1 n m_n_t119).2.2.1 f_n_t119
                  have m_m_mdt0_t130 : m_md t0 < m_md t130 := by omega
                  have g_m_mdt0_t130 := (x_t130.2.2.1 (m_md t0) m_m_mdt0_t119).2.1 w_m_mdt0_t119 g_m_mdt0_t119
                  have w_m_mdt0_t130 : W5 t130 (m_md t0) := (x_t130.2.2.1 (m_md t0) m_m_mdt0_t119).1 w_m_mdt0_t119
                  have u_m_mdt0_t130 := (x_t130.2.2.1 (m_md t0) m_m_mdt0_t119).2.2.2.1 u_m_mdt0_t119
                  have f_m_mdt0_t130 : Fz t130 (m_md t0) := fp_t130
                  have m_m_mdt119_t130 : m_md t119 < m_md t130 := by omega
                  have g_m_mdt119_t130 : GdS t130 (m_md t119) := Or.inl fn_t130
                  have w_m_mdt119_t130 : W5 t130 (m_md t119) := by unfold W5; rw [wn_t130]; decide
                  have u_m_mdt119_t130 : Up t130 (m_md t119) := Or.inl fn_t130
                  clear fp_t130 fn_t130 wn_t130
                  refine Kp_push C_t130 (by omega) (fun t131 C_t131 x_t131 a_t131 b_t131 d_t131 w_t131 u_t131 v_t131 _ _ _ l_t131 => ?_)
                  have e_t131 := C_t131.2.2.2.1
                  have m_n_t131 : n < m_md t131 := by omega
                  have g_n_t131 := (x_t131.2.2.1 n m_n_t130).2.1 w_n_t130 g_n_t130
                  have w_n_t131 : W5 t131 n := (x_t131.2.2.1 n m_n_t130).1 w_n_t130
                  have f_n_t131 : Fz t131 n := (x_t131.2.2.1 n m_n_t130).2.2.1 f_n_t130
                  have m_m_mdt0_t131 : m_md t0 < m_md t131 := by omega
                  have g_m_mdt0_t131 := (x_t131.2.2.1 (m_md t0) m_m_mdt0_t130).2.1 w_m_mdt0_t130 g_m_mdt0_t130
                  have w_m_mdt0_t131 : W5 t131 (m_md t0) := (x_t131.2.2.1 (m_md t0) m_m_mdt0_t130).1 w_m_mdt0_t130
                  have f_m_mdt0_t131 : Fz t131 (m_md t0) := (x_t131.2.2.1 (m_md t0) m_m_mdt0_t130).2.2.1 f_m_mdt0_t130
                  have u_m_mdt0_t131 := (x_t131.2.2.1 (m_md t0) m_m_mdt0_t130).2.2.2.1 u_m_mdt0_t130
                  have m_m_mdt119_t131 : m_md t119 < m_md t131 := by omega
                  have g_m_mdt119_t131 := (x_t131.2.2.1 (m_md t119) m_m_mdt119_t130).2.1 w_m_mdt119_t130 g_m_mdt119_t130
                  have w_m_mdt119_t131 : W5 t131 (m_md t119) := (x_t131.2.2.1 (m_md t119) m_m_mdt119_t130).1 w_m_mdt119_t130
                  have u_m_mdt119_t131 := (x_t131.2.2.1 (m_md t119) m_m_mdt119_t130).2.2.2.1 u_m_mdt119_t130
                  refine Kp_push C_t131 (by omega) (fun t132 C_t132 x_t132 a_t132 b_t132 d_t132 w_t132 u_t132 v_t132 _ _ _ l_t132 => ?_)
                  have e_t132 := C_t132.2.2.2.1
                  have m_n_t132 : n < m_md t132 := by omega
                  have g_n_t132 := (x_t132.2.2.1 n m_n_t131).2.1 w_n_t131 g_n_t131
                  have w_n_t132 : W5 t132 n := (x_t132.2.2.1 n m_n_t131).1 w_n_t131
                  have f_n_t132 : Fz t132 n := (x_t132.2.2.1 n m_n_t131).2.2.1 f_n_t131
                  have m_m_mdt0_t132 : m_md t0 < m_md t132 := by omega
                  have g_m_mdt0_t132 := (x_t132.2.2.1 (m_md t0) m_m_mdt0_t131).2.1 w_m_mdt0_t131 g_m_mdt0_t131
                  have w_m_mdt0_t132 : W5 t132 (m_md t0) := (x_t132.2.2.1 (m_md t0) m_m_mdt0_t131).1 w_m_mdt0_t131
                  have f_m_mdt0_t132 : Fz t132 (m_md t0) := (x_t132.2.2.1 (m_md t0) m_m_mdt0_t131).2.2.1 f_m_mdt0_t131
                  have u_m_mdt0_t132 := (x_t132.2.2.1 (m_md t0) m_m_mdt0_t131).2.2.2.1 u_m_mdt0_t131
                  have m_m_mdt119_t132 : m_md t119 < m_md t132 := by omega
                  have g_m_mdt119_t132 := (x_t132.2.2.1 (m_md t119) m_m_mdt119_t131).2.1 w_m_mdt119_t131 g_m_mdt119_t131
                  have w_m_mdt119_t132 : W5 t132 (m_md t119) := (x_t132.2.2.1 (m_md t119) m_m_mdt119_t131).1 w_m_mdt119_t131
                  have u_m_mdt119_t132 := (x_t132.2.2.1 (m_md t119) m_m_mdt119_t131).2.2.2.1 u_m_mdt119_t131
                  refine Ok_ret (show Ok _ _ _ from ?_)
                  refine Ok_ret (show Ok _ _ _ from ?_)
                  refine Hv_mk C_t132 hT (by omega) (by omega) (by omega) ?_ ?_ ?_ (by omega) ?_ ?_
                  · exact ⟨(Io_n (by decide) (by decide) m_m_mdt119_t132 g_m_mdt119_t132 w_m_mdt119_t132 (fun q => absurd q (by decide)) (fun q => absurd q (by decide))), (Nd_0 (by decide) Mo_nil), ⟨(Io_n (by decide) (by decide) m_m_mdt119_t132 g_m_mdt119_t132 w_m_mdt119_t132 (fun q => absurd q (by decide)) (fun q => absurd q (by decide))), (Nd_0 (by decide) (Mo_cons (fun q => show m_md t119 ≤ m_md t119 from by omega) Mo_nil)), ⟨(Io_n (by decide) (by decide) m_m_mdt0_t132 g_m_mdt0_t132 w_m_mdt0_t132 (fun q => absurd q (by decide)) (fun q => absurd q (by decide))), (Nd_0 (by decide) (Mo_cons (fun q => show m_md t0 ≤ m_md t119 from by omega) (Mo_cons (fun q => show m_md t0 ≤ m_md t119 from by omega) Mo_nil))), ⟨(Io_n (by decide) (show t < 4096 from by omega) m_n_t132 g_n_t132 w_n_t132 (fun q => absurd q (by decide)) (fun q => absurd q (by decide))), (Nd_0 (by decide) (Mo_cons (fun q => show n ≤ m_md t0 from by omega) (Mo_cons (fun q => show n ≤ m_md t119 from by omega) (Mo_cons (fun q => show n ≤ m_md t119 from by omega) Mo_nil)))), Stk_step (N := n) (pop := (51, n, t)) (new := [(51, n, t), (52, m_md t0, 0), (53, m_md t119, 0), (18, m_md t119, 0)]) F0 C_t132.1 (fun _ => m_n_t0) (fun q _ h => h (51, n, t) rfl) (fun _ => rfl) (fun y hy hk => ⟨rfl, (Mo_cons (fun q => show n ≤ n from by omega) (Mo_cons (fun q => show n ≤ m_md t0 from by omega) (Mo_cons (fun q => show n ≤ m_md t119 from by omega) (Mo_cons (fun q => show n ≤ m_md t119 from by omega) Mo_nil)))) y hy hk⟩) (fun (h : 51 = 3 ∨ 51 = 18 ∨ 51 = 41) => absurd h (by decide)) (fun (h : 51 = 18) => absurd h (by decide)) (fun (h : 51 = 41 ∨ 51 = 42 ∨ 51 = 43) => absurd h (by decide)) r [] (fun y hy => absurd hy List.not_mem_nil) hS⟩⟩⟩⟩
                  · exact (Aj_up (x := (18, m_md t119, 0)) (Aj_up (x := (53, m_md t119, 0)) (Aj_up (x := (52, m_md t0, 0)) (Aj_sub (y := (51, n, t)) hJ (Nat.le_of_ble_eq_true rfl)) (Or.inl (Nat.le_of_ble_eq_true rfl))) (Or.inr (Nat.le_of_ble_eq_true rfl))) (Or.inr (Nat.le_of_ble_eq_true rfl)))
                  · show m_dp t132 = (dlt 18 + (dlt 53 + (dlt 52 + (dlt 51 + sD r))))
                    have : dlt 18 = 0 := rfl; have : dlt 51 = 1 := rfl; have : dlt 52 = 0 := rfl; have : dlt 53 = 0 := rfl; omega
                  · show m_rw t132 = (rho 18 + (rho 53 + (rho 52 + (rho 51 + sR r))))
                    have : rho 18 = 0 := rfl; have : rho 51 = 0 := rfl; have : rho 52 = 0 := rfl; have : rho 53 = 0 := rfl; omega
                  · show m_md t132 + (mu7 18 + (mu7 53 + (mu7 52 + (mu7 51 + sM r)))) ≤ 3 * m_at t132 + 7 * (r.length + 1 + 1 + 1 + 1) + 10
                    have : mu7 18 = 5 := rfl; have : mu7 51 = 4 := rfl; have : mu7 52 = 5 := rfl; have : mu7 53 = 7 := rfl; omega
          · refine Kp_child C_t0 m_n_t0 g_n_t0 w_n_t0 (by omega) (by omega) (fun t133 C_t133 x_t133 a_t133 b_t133 d_t133 w_t133 u_t133 v_t133 wn_t133 fn_t133 fp_t133 _ l_t133 => ?_)
            have e_t133 := C_t133.2.2.2.1
            have m_n_t133 : n < m_md t133 := by omega
            have g_n_t133 := (x_t133.2.2.1 n m_n_t0).2.1 w_n_t0 g_n_t0
            have w_n_t133 : W5 t133 n := (x_t133.2.2.1 n m_n_t0).1 w_n_t0
            have f_n_t133 : Fz t133 n := fp_t133
            have m_m_mdt0_t133 : m_md t0 < m_md t133 := by omega
            have g_m_mdt0_t133 : GdS t133 (m_md t0) := Or.inl fn_t133
            have w_m_mdt0_t133 : W5 t133 (m_md t0) := by unfold W5; rw [wn_t133]; decide
            have u_m_mdt0_t133 : Up t133 (m_md t0) := Or.inl fn_t133
            clear fp_t133 fn_t133 wn_t133
            have z_t134 : m_at t133 < m_ct t133 := lo_ne (Nat.ne_of_gt (show 0 < lo t133 (m_at t133) from by omega))
            refine Kp_at C_t133 (fun t134 C_t134 x_t134 a_t134 b_t134 d_t134 w_t134 u_t134 v_t134 _ _ _ l_t134 => ?_)
            have e_t134 := C_t134.2.2.2.1
            have m_n_t134 : n < m_md t134 := by omega
            have g_n_t134 := (x_t134.2.2.1 n m_n_t133).2.1 w_n_t133 g_n_t133
            have w_n_t134 : W5 t134 n := (x_t134.2.2.1 n m_n_t133).1 w_n_t133
            have f_n_t134 : Fz t134 n := (x_t134.2.2.1 n m_n_t133).2.2.1 f_n_t133
            have m_m_mdt0_t134 : m_md t0 < m_md t134 := by omega
            have g_m_mdt0_t134 := (x_t134.2.2.1 (m_md t0) m_m_mdt0_t133).2.1 w_m_mdt0_t133 g_m_mdt0_t133
            have w_m_mdt0_t134 : W5 t134 (m_md t0) := (x_t134.2.2.1 (m_md t0) m_m_mdt0_t133).1 w_m_mdt0_t133
            have u_m_mdt0_t134 := (x_t134.2.2.1 (m_md t0) m_m_mdt0_t133).2.2.2.1 u_m_mdt0_t133
            refine Kp_push C_t134 (by omega) (fun t135 C_t135 x_t135 a_t135 b_t135 d_t135 w_t135 u_t135 v_t135 _ _ _ l_t135 => ?_)
            have e_t135 := C_t135.2.2.2.1
            have m_n_t135 : n < m_md t135 := by omega
            have g_n_t135 := (x_t135.2.2.1 n m_n_t134).2.1 w_n_t134 g_n_t134
            have w_n_t135 : W5 t135 n := (x_t135.2.2.1 n m_n_t134).1 w_n_t134
            have f_n_t135 : Fz t135 n := (x_t135.2.2.1 n m_n_t134).2.2.1 f_n_t134
            have m_m_mdt0_t135 : m_md t0 < m_md t135 := by omega
            have g_m_mdt0_t135 := (x_t135.2.2.1 (m_md t0) m_m_mdt0_t134).2.1 w_m_mdt0_t134 g_m_mdt0_t134
            have w_m_mdt0_t135 : W5 t135 (m_md t0) := (x_t135.2.2.1 (m_md t0) m_m_mdt0_t134).1 w_m_mdt0_t134
            have u_m_mdt0_t135 := (x_t135.2.2.1 (m_md t0) m_m_mdt0_t134).2.2.2.1 u_m_mdt0_t134
            refine Kp_push C_t135 (by omega) (fun t136 C_t136 x_t136 a_t136 b_t136 d_t136 w_t136 u_t136 v_t136 _ _ _ l_t136 => ?_)
            have e_t136 := C_t136.2.2.2.1
            have m_n_t136 : n < m_md t136 := by omega
            have g_n_t136 := (x_t136.2.2.1 n m_n_t135).2.1 w_n_t135 g_n_t135
            have w_n_t136 : W5 t136 n := (x_t136.2.2.1 n m_n_t135).1 w_n_t135
            have f_n_t136 : Fz t136 n := (x_t136.2.2.1 n m_n_t135).2.2.1 f_n_t135
            have m_m_mdt0_t136 : m_md t0 < m_md t136 := by omega
            have g_m_mdt0_t136 := (x_t136.2.2.1 (m_md t0) m_m_mdt0_t135).2.1 w_m_mdt0_t135 g_m_mdt0_t135
            have w_m_mdt0_t136 : W5 t136 (m_md t0) := (x_t136.2.2.1 (m_md t0) m_m_mdt0_t135).1 w_m_mdt0_t135
            have u_m_mdt0_t136 := (x_t136.2.2.1 (m_md t0) m_m_mdt0_t135).2.2.2.1 u_m_mdt0_t135
            refine Ok_ife (Nat.lt_trans (lo_lt (C_t0.tk hT) _) (by decide)) (by decide) (fun q137 => ?_) (fun q137 => ?_)
            · refine Ok_ret (show Ok _ _ _ from ?_)
              refine Ok_ret (show Ok _ _ _ from ?_)
              refine Hv_mk C_t136 hT (by omega) (by omega) (by omega) ?_ ?_ ?_ (by omega) ?_ ?_
              · exact ⟨(Io_n (by decide) (by decide) m_m_mdt0_t136 g_m_mdt0_t136 w_m_mdt0_t136 (fun q => absurd q (by decide)) (fun q => absurd q (by decide))), (Nd_0 (by decide) Mo_nil), ⟨(Io_n (by decide) (show t < 4096 from by omega) m_n_t136 g_n_t136 w_n_t136 (fun q => absurd q (by decide)) (fun q => absurd q (by decide))), (Nd_0 (by decide) (Mo_cons (fun q => show n ≤ m_md t0 from by omega) Mo_nil)), Stk_step (N := n) (pop := (51, n, t)) (new := [(51, n, t), (52, m_md t0, 0)]) F0 C_t136.1 (fun _ => m_n_t0) (fun q _ h => h (51, n, t) rfl) (fun _ => rfl) (fun y hy hk => ⟨rfl, (Mo_cons (fun q => show n ≤ n from by omega) (Mo_cons (fun q => show n ≤ m_md t0 from by omega) Mo_nil)) y hy hk⟩) (fun (h : 51 = 3 ∨ 51 = 18 ∨ 51 = 41) => absurd h (by decide)) (fun (h : 51 = 18) => absurd h (by decide)) (fun (h : 51 = 41 ∨ 51 = 42 ∨ 51 = 43) => absurd h (by decide)) r [] (fun y hy => absurd hy List.not_mem_nil) hS⟩⟩
              · exact (Aj_up (x := (52, m_md t0, 0)) (Aj_sub (y := (51, n, t)) hJ (Nat.le_of_ble_eq_true rfl)) (Or.inl (Nat.le_of_ble_eq_true rfl)))
              · show m_dp t136 = (dlt 52 + (dlt 51 + sD r))
                have : dlt 51 = 1 := rfl; have : dlt 52 = 0 := rfl; omega
              · show m_rw t136 = (rho 52 + (rho 51 + sR r))
                have : rho 51 = 0 := rfl; have : rho 52 = 0 := rfl; omega
              · show m_md t136 + (mu7 52 + (mu7 51 + sM r)) ≤ 3 * m_at t136 + 7 * (r.length + 1 + 1) + 10
                have : mu7 51 = 4 := rfl; have : mu7 52 = 5 := rfl; omega
            · refine Ok_ifz (show t < 2147483648 from by omega) (fun q138 => ?_) (fun q138 => ?_)
              · refine Ok_bnc ?_
                try unfold b_X6_exprs
                refine Kp_child C_t136 m_m_mdt0_t136 g_m_mdt0_t136 w_m_mdt0_t136 (by omega) (by omega) (fun t140 C_t140 x_t140 a_t140 b_t140 d_t140 w_t140 u_t140 v_t140 wn_t140 fn_t140 fp_t140 _ l_t140 => ?_)
                have e_t140 := C_t140.2.2.2.1
                have m_n_t140 : n < m_md t140 := by omega
                have g_n_t140 := (x_t140.2.2.1 n m_n_t136).2.1 w_n_t136 g_n_t136
                have w_n_t140 : W5 t140 n := (x_t140.2.2.1 n m_n_t136).1 w_n_t136
                have f_n_t140 : Fz t140 n := (x_t140.2.2.1 n m_n_t136).2.2.1 f_n_t136
                have m_m_mdt0_t140 : m_md t0 < m_md t140 := by omega
                have g_m_mdt0_t140 := (x_t140.2.2.1 (m_md t0) m_m_mdt0_t136).2.1 w_m_mdt0_t136 g_m_mdt0_t136
                have w_m_mdt0_t140 : W5 t140 (m_md t0) := (x_t140.2.2.1 (m_md t0) m_m_mdt0_t136).1 w_m_mdt0_t136
                have u_m_mdt0_t140 := (x_t140.2.2.1 (m_md t0) m_m_mdt0_t136).2.2.2.1 u_m_mdt0_t136
                have f_m_mdt0_t140 : Fz t140 (m_md t0) := fp_t140
                have m_m_mdt136_t140 : m_md t136 < m_md t140 := by omega
                have g_m_mdt136_t140 : GdS t140 (m_md t136) := Or.inl fn_t140
                have w_m_mdt136_t140 : W5 t140 (m_md t136) := by unfold W5; rw [wn_t140]; decide
                have u_m_mdt136_t140 : Up t140 (m_md t136) := Or.inl fn_t140
                clear fp_t140 fn_t140 wn_t140
                refine Kp_push C_t140 (by omega) (fun t141 C_t141 x_t141 a_t141 b_t141 d_t141 w_t141 u_t141 v_t141 _ _ _ l_t141 => ?_)
                have e_t141 := C_t141.2.2.2.1
                have m_n_t141 : n < m_md t141 := by omega
                have g_n_t141 := (x_t141.2.2.1 n m_n_t140).2.1 w_n_t140 g_n_t140
                have w_n_t141 : W5 t141 n := (x_t141.2.2.1 n m_n_t140).1 w_n_t140
                have f_n_t141 : Fz t141 n := (x_t141.2.2.1 n m_n_t140).2.2.1 f_n_t140
                have m_m_mdt0_t141 : m_md t0 < m_md t141 := by omega
                have g_m_mdt0_t141 := (x_t141.2.2.1 (m_md t0) m_m_mdt0_t140).2.1 w_m_mdt0_t140 g_m_mdt0_t140
                have w_m_mdt0_t141 : W5 t141 (m_md t0) := (x_t141.2.2.1 (m_md t0) m_m_mdt0_t140).1 w_m_mdt0_t140
                have f_m_mdt0_t141 : Fz t141 (m_md t0) := (x_t141.2.2.1 (m_md t0) m_m_mdt0_t140).2.2.1 f_m_mdt0_t140
                have u_m_mdt0_t141 := (x_t141.2.2.1 (m_md t0) m_m_mdt0_t140).2.2.2.1 u_m_mdt0_t140
                have m_m_mdt136_t141 : m_md t136 < m_md t141 := by omega
                have g_m_mdt136_t141 := (x_t141.2.2.1 (m_md t136) m_m_mdt136_t140).2.1 w_m_mdt136_t140 g_m_mdt136_t140
                have w_m_mdt136_t141 : W5 t141 (m_md t136) := (x_t141.2.2.1 (m_md t136) m_m_mdt136_t140).1 w_m_mdt136_t140
                have u_m_mdt136_t141 := (x_t141.2.2.1 (m_md t136) m_m_mdt136_t140).2.2.2.1 u_m_mdt136_t140
                refine Ok_bnc ?_
                try unfold b_X6_expression
                refine Kp_push C_t141 (by omega) (fun t143 C_t143 x_t143 a_t143 b_t143 d_t143 w_t143 u_t143 v_t143 _ _ _ l_t143 => ?_)
                have e_t143 := C_t143.2.2.2.1
                have m_n_t143 : n < m_md t143 := by omega
                have g_n_t143 := (x_t143.2.2.1 n m_n_t141).2.1 w_n_t141 g_n_t141
                have w_n_t143 : W5 t143 n := (x_t143.2.2.1 n m_n_t141).1 w_n_t141
                have f_n_t143 : Fz t143 n := (x_t143.2.2.1 n m_n_t141).2.2.1 f_n_t141
                have m_m_mdt0_t143 : m_md t0 < m_md t143 := by omega
                have g_m_mdt0_t143 := (x_t143.2.2.1 (m_md t0) m_m_mdt0_t141).2.1 w_m_mdt0_t141 g_m_mdt0_t141
                have w_m_mdt0_t143 : W5 t143 (m_md t0) := (x_t143.2.2.1 (m_md t0) m_m_mdt0_t141).1 w_m_mdt0_t141
                have f_m_mdt0_t143 : Fz t143 (m_md t0) := (x_t143.2.2.1 (m_md t0) m_m_mdt0_t141).2.2.1 f_m_mdt0_t141
                have u_m_mdt0_t143 := (x_t143.2.2.1 (m_md t0) m_m_mdt0_t141).2.2.2.1 u_m_mdt0_t141
                have m_m_mdt136_t143 : m_md t136 < m_md t143 := by omega
                have g_m_mdt136_t143 := (x_t143.2.2.1 (m_md t136) m_m_mdt136_t141).2.1 w_m_mdt136_t141 g_m_mdt136_t141
                have w_m_mdt136_t143 : W5 t143 (m_md t136) := (x_t143.2.2.1 (m_md t136) m_m_mdt136_t141).1 w_m_mdt136_t141
                have u_m_mdt136_t143 := (x_t143.2.2.1 (m_md t136) m_m_mdt136_t141).2.2.2.1 u_m_mdt136_t141
                refine Kp_push C_t143 (by omega) (fun t144 C_t144 x_t144 a_t144 b_t144 d_t144 w_t144 u_t144 v_t144 _ _ _ l_t144 => ?_)
                have e_t144 := C_t144.2.2.2.1
                have m_n_t144 : n < m_md t144 := by omega
                have g_n_t144 := (x_t144.2.2.1 n m_n_t143).2.1 w_n_t143 g_n_t143
                have w_n_t144 : W5 t144 n := (x_t144.2.2.1 n m_n_t143).1 w_n_t143
                have f_n_t144 : Fz t144 n := (x_t144.2.2.1 n m_n_t143).2.2.1 f_n_t143
                have m_m_mdt0_t144 : m_md t0 < m_md t144 := by omega
                have g_m_mdt0_t144 := (x_t144.2.2.1 (m_md t0) m_m_mdt0_t143).2.1 w_m_mdt0_t143 g_m_mdt0_t143
                have w_m_mdt0_t144 : W5 t144 (m_md t0) := (x_t144.2.2.1 (m_md t0) m_m_mdt0_t143).1 w_m_mdt0_t143
                have f_m_mdt0_t144 : Fz t144 (m_md t0) := (x_t144.2.2.1 (m_md t0) m_m_mdt0_t143).2.2.1 f_m_mdt0_t143
                have u_m_mdt0_t144 := (x_t144.2.2.1 (m_md t0) m_m_mdt0_t143).2.2.2.1 u_m_mdt0_t143
                have m_m_mdt136_t144 : m_md t136 < m_md t144 := by omega
                have g_m_mdt136_t144 := (x_t144.2.2.1 (m_md t136) m_m_mdt136_t143).2.1 w_m_mdt136_t143 g_m_mdt136_t143
                have w_m_mdt136_t144 : W5 t144 (m_md t136) := (x_t144.2.2.1 (m_md t136) m_m_mdt136_t143).1 w_m_mdt136_t143
                have u_m_mdt136_t144 := (x_t144.2.2.1 (m_md t136) m_m_mdt136_t143).2.2.2.1 u_m_mdt136_t143
                refine Ok_ret (show Ok _ _ _ from ?_)
                refine Ok_ret (show Ok _ _ _ from ?_)
                refine Ok_ret (show Ok _ _ _ from ?_)
                refine Ok_ret (show Ok _ _ _ from ?_)
                refine Hv_mk C_t144 hT (by omega) (by omega) (by omega) ?_ ?_ ?_ (by omega) ?_ ?_
                · exact ⟨(Io_n (by decide) (show 0 &&& 1 < 4096 from by omega) m_m_mdt136_t144 g_m_mdt136_t144 w_m_mdt136_t144 (fun q => absurd q (by decide)) (fun q => absurd q (by decide))), (Nd_0 (by decide) Mo_nil), ⟨(Io_2 (by have := or_256 (b := 1) (show (0 &&& 1) < 256 from by omega); omega) (by have := or_256 (b := 1) (show (0 &&& 1) < 256 from by omega); omega) (by have := or_256 (b := 1) (show (0 &&& 1) < 256 from by omega); omega) m_m_mdt136_t144 g_m_mdt136_t144 w_m_mdt136_t144), (Nd_A (by decide) (Mo_cons (fun q => show m_md t136 ≤ m_md t136 from by omega) Mo_nil) (Or.inr ⟨(3, m_md t136, 0 &&& 1), List.mem_cons_self, rfl, Or.inl rfl⟩)), ⟨(Io_n (by decide) (show 0 &&& 1 < 4096 from by omega) m_m_mdt136_t144 g_m_mdt136_t144 w_m_mdt136_t144 (fun q => absurd q (by decide)) (fun q => absurd q (by decide))), (Nd_0 (by decide) (Mo_cons (fun q => show m_md t136 ≤ m_md t136 from by omega) (Mo_cons (fun q => show m_md t136 ≤ m_md t136 from by omega) Mo_nil))), ⟨(Io_n (by decide) (by decide) m_m_mdt0_t144 g_m_mdt0_t144 w_m_mdt0_t144 (fun q => absurd q (by decide)) (fun q => absurd q (by decide))), (Nd_0 (by decide) (Mo_cons (fun q => show m_md t0 ≤ m_md t136 from by omega) (Mo_cons (fun q => show m_md t0 ≤ m_md t136 from by omega) (Mo_cons (fun q => show m_md t0 ≤ m_md t136 from by omega) Mo_nil)))), ⟨(Io_n (by decide) (show t < 4096 from by omega) m_n_t144 g_n_t144 w_n_t144 (fun q => absurd q (by decide)) (fun q => absurd q (by decide))), (Nd_0 (by decide) (Mo_cons (fun q => show n ≤ m_md t0 from by omega) (Mo_cons (fun q => show n ≤ m_md t136 from by omega) (Mo_cons (fun q => show n ≤ m_md t136 from by omega) (Mo_cons (fun q => show n ≤ m_md t136 from by omega) Mo_nil))))), Stk_step (N := n) (pop := (51, n, t)) (new := [(51, n, t), (52, m_md t0, 0), (32, m_md t136, 0 &&& 1), (2, m_md t136, (0 &&& 1) ||| (1 * 256)), (3, m_md t136, 0 &&& 1)]) F0 C_t144.1 (fun _ => m_n_t0) (fun q _ h => h (51, n, t) rfl) (fun _ => rfl) (fun y hy hk => ⟨rfl, (Mo_cons (fun q => show n ≤ n from by omega) (Mo_cons (fun q => show n ≤ m_md t0 from by omega) (Mo_cons (fun q => show n ≤ m_md t136 from by omega) (Mo_cons (fun q => show n ≤ m_md t136 from by omega) (Mo_cons (fun q => show n ≤ m_md t136 from by omega) Mo_nil))))) y hy hk⟩) (fun (h : 51 = 3 ∨ 51 = 18 ∨ 51 = 41) => absurd h (by decide)) (fun (h : 51 = 18) => absurd h (by decide)) (fun (h : 51 = 41 ∨ 51 = 42 ∨ 51 = 43) => absurd h (by decide)) r [] (fun y hy => absurd hy List.not_mem_nil) hS⟩⟩⟩⟩⟩
                · exact (Aj_up (x := (3, m_md t136, 0 &&& 1)) (Aj_up (x := (2, m_md t136, (0 &&& 1) ||| (1 * 256))) (Aj_up (x := (32, m_md t136, 0 &&& 1)) (Aj_up (x := (52, m_md t0, 0)) (Aj_sub (y := (51, n, t)) hJ (Nat.le_of_ble_eq_true rfl)) (Or.inl (Nat.le_of_ble_eq_true rfl))) (Or.inr (Nat.le_of_ble_eq_true rfl))) (Or.inr (show 9 - ((0 &&& 1) ||| (1 * 256)) / 256 < 9 from by have := or_256 (b := 1) (show (0 &&& 1) < 256 from by omega); omega))) (Or.inr (show 2 < 9 - ((0 &&& 1) ||| (1 * 256)) / 256 from by have := or_256 (b := 1) (show (0 &&& 1) < 256 from by omega); omega)))
                · show m_dp t144 = (dlt 3 + (dlt 2 + (dlt 32 + (dlt 52 + (dlt 51 + sD r)))))
                  have : dlt 2 = 0 := rfl; have : dlt 3 = 0 := rfl; have : dlt 32 = 0 := rfl; have : dlt 51 = 1 := rfl; have : dlt 52 = 0 := rfl; omega
                · show m_rw t144 = (rho 3 + (rho 2 + (rho 32 + (rho 52 + (rho 51 + sR r)))))
                  have : rho 2 = 0 := rfl; have : rho 3 = 0 := rfl; have : rho 32 = 0 := rfl; have : rho 51 = 0 := rfl; have : rho 52 = 0 := rfl; omega
                · show m_md t144 + (mu7 3 + (mu7 2 + (mu7 32 + (mu7 52 + (mu7 51 + sM r))))) ≤ 3 * m_at t144 + 7 * (r.length + 1 + 1 + 1 + 1 + 1) + 10
                  have : mu7 2 = 7 := rfl; have : mu7 3 = 5 := rfl; have : mu7 32 = 7 := rfl; have : mu7 51 = 4 := rfl; have : mu7 52 = 5 := rfl; omega
              · refine Ok_ife (show t < 2147483648 from by omega) (by decide) (fun q145 => ?_) (fun q145 => ?_)
                · refine Kp_push C_t136 (by omega) (fun t146 C_t146 x_t146 a_t146 b_t146 d_t146 w_t146 u_t146 v_t146 _ _ _ l_t146 => ?_)
                  have e_t146 := C_t146.2.2.2.1
                  have m_n_t146 : n < m_md t146 := by omega
                  have g_n_t146 := (x_t146.2.2.1 n m_n_t136).2.1 w_n_t136 g_n_t136
                  have w_n_t146 : W5 t146 n := (x_t146.2.2.1 n m_n_t136).1 w_n_t136
                  have f_n_t146 : Fz t146 n := (x_t146.2.2.1 n m_n_t136).2.2.1 f_n_t136
                  have m_m_mdt0_t146 : m_md t0 < m_md t146 := by omega
                  have g_m_mdt0_t146 := (x_t146.2.2.1 (m_md t0) m_m_mdt0_t136).2.1 w_m_mdt0_t136 g_m_mdt0_t136
                  have w_m_mdt0_t146 : W5 t146 (m_md t0) := (x_t146.2.2.1 (m_md t0) m_m_mdt0_t136).1 w_m_mdt0_t136
                  have u_m_mdt0_t146 := (x_t146.2.2.1 (m_md t0) m_m_mdt0_t136).2.2.2.1 u_m_mdt0_t136
                  refine Ok_ret (show Ok _ _ _ from ?_)
                  refine Ok_ret (show Ok _ _ _ from ?_)
                  refine Hv_mk C_t146 hT (by omega) (by omega) (by omega) ?_ ?_ ?_ (by omega) ?_ ?_
                  · exact ⟨(Io_n (by decide) (by decide) m_m_mdt0_t146 g_m_mdt0_t146 w_m_mdt0_t146 (fun _ => u_m_mdt0_t146) (fun q => absurd q (by decide))), (Nd_0 (by decide) Mo_nil), ⟨(Io_n (by decide) (by decide) m_m_mdt0_t146 g_m_mdt0_t146 w_m_mdt0_t146 (fun q => absurd q (by decide)) (fun q => absurd q (by decide))), (Nd_0 (by decide) (Mo_cons (fun q => show m_md t0 ≤ m_md t0 from by omega) Mo_nil)), ⟨(Io_n (by decide) (show t < 4096 from by omega) m_n_t146 g_n_t146 w_n_t146 (fun q => absurd q (by decide)) (fun q => absurd q (by decide))), (Nd_0 (by decide) (Mo_cons (fun q => show n ≤ m_md t0 from by omega) (Mo_cons (fun q => show n ≤ m_md t0 from by omega) Mo_nil))), Stk_step (N := n) (pop := (51, n, t)) (new := [(51, n, t), (52, m_md t0, 0), (41, m_md t0, 32)]) F0 C_t146.1 (fun _ => m_n_t0) (fun q _ h => h (51, n, t) rfl) (fun _ => rfl) (fun y hy hk => ⟨rfl, (Mo_cons (fun q => show n ≤ n from by omega) (Mo_cons (fun q => show n ≤ m_md t0 from by omega) (Mo_cons (fun q => show n ≤ m_md t0 from by omega) Mo_nil))) y hy hk⟩) (fun (h : 51 = 3 ∨ 51 = 18 ∨ 51 = 41) => absurd h (by decide)) (fun (h : 51 = 18) => absurd h (by decide)) (fun (h : 51 = 41 ∨ 51 = 42 ∨ 51 = 43) => absurd h (by decide)) r [] (fun y hy => absurd hy List.not_mem_nil) hS⟩⟩⟩
                  · exact (Aj_up (x := (41, m_md t0, 32)) (Aj_up (x := (52, m_md t0, 0)) (Aj_sub (y := (51, n, t)) hJ (Nat.le_of_ble_eq_true rfl)) (Or.inl (Nat.le_of_ble_eq_true rfl))) (Or.inr (Nat.le_of_ble_eq_true rfl)))
                  · show m_dp t146 = (dlt 41 + (dlt 52 + (dlt 51 + sD r)))
                    have : dlt 41 = 0 := rfl; have : dlt 51 = 1 := rfl; have : dlt 52 = 0 := rfl; omega
                  · show m_rw t146 = (rho 41 + (rho 52 + (rho 51 + sR r)))
                    have : rho 41 = 0 := rfl; have : rho 51 = 0 := rfl; have : rho 52 = 0 := rfl; omega
                  · show m_md t146 + (mu7 41 + (mu7 52 + (mu7 51 + sM r))) ≤ 3 * m_at t146 + 7 * (r.length + 1 + 1 + 1) + 10
                    have : mu7 41 = 6 := rfl; have : mu7 51 = 4 := rfl; have : mu7 52 = 5 := rfl; omega
                · refine Kp_child C_t136 m_m_mdt0_t136 g_m_mdt0_t136 w_m_mdt0_t136 (by omega) (by omega) (fun t147 C_t147 x_t147 a_t147 b_t147 d_t147 w_t147 u_t147 v_t147 wn_t147 fn_t147 fp_t147 _ l_t147 => ?_)
                  have e_t147 := C_t147.2.2.2.1
                  have m_n_t147 : n < m_md t147 := by omega
                  have g_n_t147 := (x_t147.2.2.1 n m_n_t136).2.1 w_n_t136 g_n_t136
                  have w_n_t147 : W5 t147 n := (x_t147.2.2.1 n m_n_t136).1 w_n_t136
                  have f_n_t147 : Fz t147 n := (x_t147.2.2.1 n m_n_t136).2.2.1 f_n_t136
                  have m_m_mdt0_t147 : m_md t0 < m_md t147 := by omega
                  have g_m_mdt0_t147 := (x_t147.2.2.1 (m_md t0) m_m_mdt0_t136).2.1 w_m_mdt0_t136 g_m_mdt0_t136
                  have w_m_mdt0_t147 : W5 t147 (m_md t0) := (x_t147.2.2.1 (m_md t0) m_m_mdt0_t136).1 w_m_mdt0_t136
                  have u_m_mdt0_t147 := (x_t147.2.2.1 (m_md t0) m_m_mdt0_t136).2.2.2.1 u_m_mdt0_t136
                  have f_m_mdt0_t147 : Fz t147 (m_md t0) := fp_t147
                  have m_m_mdt136_t147 : m_md t136 < m_md t147 := by omega
                  have g_m_mdt136_t147 : GdS t147 (m_md t136) := Or.inl fn_t147
                  have w_m_mdt136_t147 : W5 t147 (m_md t136) := by unfold W5; rw [wn_t147]; decide
                  have u_m_mdt136_t147 : Up t147 (m_md t136) := Or.inl fn_t147
                  clear fp_t147 fn_t147 wn_t147
                  refine Kp_push C_t147 (by omega) (fun t148 C_t148 x_t148 a_t148 b_t148 d_t148 w_t148 u_t148 v_t148 _ _ _ l_t148 => ?_)
                  have e_t148 := C_t148.2.2.2.1
                  have m_n_t148 : n < m_md t148 := by omega
                  have g_n_t148 := (x_t148.2.2.1 n m_n_t147).2.1 w_n_t147 g_n_t147
                  have w_n_t148 : W5 t148 n := (x_t148.2.2.1 n m_n_t147).1 w_n_t147
                  have f_n_t148 : Fz t148 n := (x_t148.2.2.1 n m_n_t147).2.2.1 f_n_t147
                  have m_m_mdt0_t148 : m_md t0 < m_md t148 := by omega
                  have g_m_mdt0_t148 := (x_t148.2.2.1 (m_md t0) m_m_mdt0_t147).2.1 w_m_mdt0_t147 g_m_mdt0_t147
                  have w_m_mdt0_t148 : W5 t148 (m_md t0) := (x_t148.2.2.1 (m_md t0) m_m_mdt0_t147).1 w_m_mdt0_t147
                  have f_m_mdt0_t148 : Fz t148 (m_md t0) := (x_t148.2.2.1 (m_md t0) m_m_mdt0_t147).2.2.1 f_m_mdt0_t147
                  have u_m_mdt0_t148 := (x_t148.2.2.1 (m_md t0) m_m_mdt0_t147).2.2.2.1 u_m_mdt0_t147
                  have m_m_mdt136_t148 : m_md t136 < m_md t148 := by omega
                  have g_m_mdt136_t148 := (x_t148.2.2.1 (m_md t136) m_m_mdt136_t147).2.1 w_m_mdt136_t147 g_m_mdt136_t147
                  have w_m_mdt136_t148 : W5 t148 (m_md t136) := (x_t148.2.2.1 (m_md t136) m_m_mdt136_t147).1 w_m_mdt136_t147
                  have u_m_mdt136_t148 := (x_t148.2.2.1 (m_md t136) m_m_mdt136_t147).2.2.2.1 u_m_mdt136_t147
                  refine Kp_push C_t148 (by omega) (fun t149 C_t149 x_t149 a_t149 b_t149 d_t149 w_t149 u_t149 v_t149 _ _ _ l_t149 => ?_)
                  have e_t149 := C_t149.2.2.2.1
                  have m_n_t149 : n < m_md t149 := by omega
                  have g_n_t149 := (x_t149.2.2.1 n m_n_t148).2.1 w_n_t148 g_n_t148
                  have w_n_t149 : W5 t149 n := (x_t149.2.2.1 n m_n_t148).1 w_n_t148
                  have f_n_t149 : Fz t149 n := (x_t149.2.2.1 n m_n_t148).2.2.1 f_n_t148
                  have m_m_mdt0_t149 : m_md t0 < m_md t149 := by omega
                  have g_m_mdt0_t149 := (x_t149.2.2.1 (m_md t0) m_m_mdt0_t148).2.1 w_m_mdt0_t148 g_m_mdt0_t148
                  have w_m_mdt0_t149 : W5 t149 (m_md t0) := (x_t149.2.2.1 (m_md t0) m_m_mdt0_t148).1 w_m_mdt0_t148
                  have f_m_mdt0_t149 : Fz t149 (m_md t0) := (x_t149.2.2.1 (m_md t0) m_m_mdt0_t148).2.2.1 f_m_mdt0_t148
                  have u_m_mdt0_t149 := (x_t149.2.2.1 (m_md t0) m_m_mdt0_t148).2.2.2.1 u_m_mdt0_t148
                  have m_m_mdt136_t149 : m_md t136 < m_md t149 := by omega
                  have g_m_mdt136_t149 := (x_t149.2.2.1 (m_md t136) m_m_mdt136_t148).2.1 w_m_mdt136_t148 g_m_mdt136_t148
                  have w_m_mdt136_t149 : W5 t149 (m_md t136) := (x_t149.2.2.1 (m_md t136) m_m_mdt136_t148).1 w_m_mdt136_t148
                  have u_m_mdt136_t149 := (x_t149.2.2.1 (m_md t136) m_m_mdt136_t148).2.2.2.1 u_m_mdt136_t148
                  refine Ok_ret (show Ok _ _ _ from ?_)
                  refine Ok_ret (show Ok _ _ _ from ?_)
                  refine Hv_mk C_t149 hT (by omega) (by omega) (by omega) ?_ ?_ ?_ (by omega) ?_ ?_
                  · exact ⟨(Io_n (by decide) (by decide) m_m_mdt136_t149 g_m_mdt136_t149 w_m_mdt136_t149 (fun q => absurd q (by decide)) (fun q => absurd q (by decide))), (Nd_0 (by decide) Mo_nil), ⟨(Io_n (by decide) (by decide) m_m_mdt136_t149 g_m_mdt136_t149 w_m_mdt136_t149 (fun q => absurd q (by decide)) (fun q => absurd q (by decide))), (Nd_0 (by decide) (Mo_cons (fun q => show m_md t136 ≤ m_md t136 from by omega) Mo_nil)), ⟨(Io_n (by decide) (by decide) m_m_mdt0_t149 g_m_mdt0_t149 w_m_mdt0_t149 (fun q => absurd q (by decide)) (fun q => absurd q (by decide))), (Nd_0 (by decide) (Mo_cons (fun q => show m_md t0 ≤ m_md t136 from by omega) (Mo_cons (fun q => show m_md t0 ≤ m_md t136 from by omega) Mo_nil))), ⟨(Io_n (by decide) (show t < 4096 from by omega) m_n_t149 g_n_t149 w_n_t149 (fun q => absurd q (by decide)) (fun q => absurd q (by decide))), (Nd_0 (by decide) (Mo_cons (fun q => show n ≤ m_md t0 from by omega) (Mo_cons (fun q => show n ≤ m_md t136 from by omega) (Mo_cons (fun q => show n ≤ m_md t136 from by omega) Mo_nil)))), Stk_step (N := n) (pop := (51, n, t)) (new := [(51, n, t), (52, m_md t0, 0), (53, m_md t136, 0), (18, m_md t136, 0)]) F0 C_t149.1 (fun _ => m_n_t0) (fun q _ h => h (51, n, t) rfl) (fun _ => rfl) (fun y hy hk => ⟨rfl, (Mo_cons (fun q => show n ≤ n from by omega) (Mo_cons (fun q => show n ≤ m_md t0 from by omega) (Mo_cons (fun q => show n ≤ m_md t136 from by omega) (Mo_cons (fun q => show n ≤ m_md t136 from by omega) Mo_nil)))) y hy hk⟩) (fun (h : 51 = 3 ∨ 51 = 18 ∨ 51 = 41) => absurd h (by decide)) (fun (h : 51 = 18) => absurd h (by decide)) (fun (h : 51 = 41 ∨ 51 = 42 ∨ 51 = 43) => absurd h (by decide)) r [] (fun y hy => absurd hy List.not_mem_nil) hS⟩⟩⟩⟩
                  · exact (Aj_up (x := (18, m_md t136, 0)) (Aj_up (x := (53, m_md t136, 0)) (Aj_up (x := (52, m_md t0, 0)) (Aj_sub (y := (51, n, t)) hJ (Nat.le_of_ble_eq_true rfl)) (Or.inl (Nat.le_of_ble_eq_true rfl))) (Or.inr (Nat.le_of_ble_eq_true rfl))) (Or.inr (Nat.le_of_ble_eq_true rfl)))
                  · show m_dp t149 = (dlt 18 + (dlt 53 + (dlt 52 + (dlt 51 + sD r))))
                    have : dlt 18 = 0 := rfl; have : dlt 51 = 1 := rfl; have : dlt 52 = 0 := rfl; have : dlt 53 = 0 := rfl; omega
                  · show m_rw t149 = (rho 18 + (rho 53 + (rho 52 + (rho 51 + sR r))))
                    have : rho 18 = 0 := rfl; have : rho 51 = 0 := rfl; have : rho 52 = 0 := rfl; have : rho 53 = 0 := rfl; omega
                  · show m_md t149 + (mu7 18 + (mu7 53 + (mu7 52 + (mu7 51 + sM r)))) ≤ 3 * m_at t149 + 7 * (r.length + 1 + 1 + 1 + 1) + 10
                    have : mu7 18 = 5 := rfl; have : mu7 51 = 4 := rfl; have : mu7 52 = 5 := rfl; have : mu7 53 = 7 := rfl; omega
      · refine Kp_error C_t0 (by omega) (fun t150 C_t150 x_t150 a_t150 b_t150 d_t150 w_t150 wb_t150 u_t150 v_t150 _ _ _ l_t150 => ?_)
        have w_t150 := Nat.pos_of_ne_zero w_t150
        have e_t150 := C_t150.2.2.2.1
        have m_n_t150 : n < m_md t150 := by omega
        have g_n_t150 := (x_t150.2.2.1 n m_n_t0).2.1 w_n_t0 g_n_t0
        have w_n_t150 : W5 t150 n := (x_t150.2.2.1 n m_n_t0).1 w_n_t0
        refine Ok_ret (show Ok _ _ _ from ?_)
        refine Ok_ret (show Ok _ _ _ from ?_)
        exact Or.inl ⟨Nat.ne_of_gt (show 0 < m_wr t150 from by omega), by omega⟩

