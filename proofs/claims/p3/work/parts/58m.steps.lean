/-! The steps of the reference, one by one. -/
theorem S_36 {t0 : Mm} {n t : Nat} {r : List It} (H : Hp t0 (36, n, t) r) {E : Mm → Prop} : Ok (Qh (mz t0 ((36, n, t) :: r))) E (b_X6_step 36 n t t0) := by
  obtain ⟨hK, hT, hc, hw0, ha, hC, hS, hJ, hdp, hdl, hrw, hmd, htd, hln, hm16, hI, hD, hTt⟩ := Hp_out H
  have C_t0 := hC n
  have F0 := C_t0.2.1
  have I_n_t0 : Nq t0 n := ⟨(hI.2.1 rfl).1, (hI.2.1 rfl).2.1, (hI.2.1 rfl).2.2, hI.2.2.2 rfl⟩
  have m_n_t0 := I_n_t0.1
  have ht : t < 4096 := hI.1.1 (show 36 ≠ 42 by decide) (show 36 ≠ 48 by decide)
  have hdp : m_dp t0 = dlt 36 + sD r := hdp
  have hrw : m_rw t0 = rho 36 + sR r := hrw
  have hmd : m_md t0 + mu7 36 + sM r ≤ 3 * m_at t0 + 7 * r.length + 17 := hmd
  have hand : t &&& 1 ≤ 1 := Nat.and_le_right
  have h01 : (0 &&& 1 : Nat) = 0 := rfl
  have h02 : (1 : Nat) * 256 = 256 := rfl
  have hq1 : dlt 36 = 0 := rfl
  have hq2 : rho 36 = 0 := rfl
  have hq3 : mu7 36 = 7 := rfl
  unfold b_X6_step
  refine Ok_ifl (by decide) (by decide) (fun _ => ?_) (fun q => absurd (by decide) q)
  refine Ok_ifl (by decide) (by decide) (fun q => absurd q (by decide)) (fun _ => ?_)
  refine Ok_ifl (by decide) (by decide) (fun q => absurd q (by decide)) (fun _ => ?_)
  refine Ok_ifl (by decide) (by decide) (fun _ => ?_) (fun q => absurd (by decide) q)
  refine Ok_bnc ?_
  try unfold b_X6_declaring
  refine Ok_ck (by decide) ?_
  refine Ok_ife (by decide) (by decide) (fun q => absurd q (by decide)) (fun _ => ?_)
  refine Ok_ife (by decide) (by decide) (fun q => absurd q (by decide)) (fun _ => ?_)
  refine Ok_ife (by decide) (by decide) (fun q => absurd q (by decide)) (fun _ => ?_)
  refine Ok_ife (by decide) (by decide) (fun q => absurd q (by decide)) (fun _ => ?_)
  refine Ok_ife (by decide) (by decide) (fun q => absurd q (by decide)) (fun _ => ?_)
  refine Ok_ife (by decide) (by decide) (fun q => absurd q (by decide)) (fun _ => ?_)
  refine Ok_ife (by decide) (by decide) (fun q => absurd q (by decide)) (fun _ => ?_)
  refine Ok_ife (by decide) (by decide) (fun _ => ?_) (fun q => absurd (by decide) q)
  refine Ok_bnc ?_
  try unfold b_X6_constRest
  refine Kp_look C_t0 hT (by omega) ?_
  refine Ok_ife (Nat.lt_trans (lo_lt (C_t0.tk hT) _) (by decide)) (by decide) (fun q3 => ?_) (fun q3 => ?_)
  · refine Ok_bnc ?_
    try unfold b_X6_valued
    refine Kp_look C_t0 hT (by omega) ?_
    refine Ok_ife (Nat.lt_trans (lo_lt (C_t0.tk hT) _) (by decide)) (by decide) (fun q => ?_) (fun q => absurd q3 q)
    refine Kp_pass C_t0 hT (by omega) (by decide) (by omega) (fun t5 C_t5 X_t5 a_t5 b_t5 d_t5 w_t5 u_t5 v_t5 j_t5 l_t5 => ?_)
    have e_t5 := C_t5.2.2.2.1
    rcases w_t5 with ⟨w_t5, y_t5⟩ | ⟨w_t5, wb_t5⟩
    · have z_t5 : m_at t0 < m_ct t0 := lo_ne (Nat.ne_of_gt (show 0 < lo t0 (m_at t0) from by omega))
      have I_n_t5 := I_n_t0.flat X_t5
      refine Ok_bnc ?_
      try unfold b_X6_exprs
      refine Kp_child C_t5 I_n_t5.1 I_n_t5.2.1 I_n_t5.2.2.1 (by omega) (by omega) (by decide) (by decide) (fun t7 C_t7 X_t7 a_t7 b_t7 d_t7 w_t7 u_t7 v_t7 j_t7 l_t7 => ?_)
      have e_t7 := C_t7.2.2.2.1
      rw [a_t5] at a_t7
      rw [b_t5] at b_t7
      rw [d_t5] at d_t7
      rw [w_t5] at w_t7
      rw [u_t5] at u_t7
      rw [v_t5] at v_t7
      clear d_t5 w_t5 u_t5 v_t5 e_t5 a_t5
      have I_n_t7 := I_n_t5.chd X_t7 j_t7
      have f_n_t7 : Fz t7 n := j_t7.2.2.2.2.1
      have I_m_mdt5_t7 : Nq t7 (m_md t5) := Nq.chn j_t7 (by omega) I_n_t5 (by decide)
      have u_m_mdt5_t7 : Up t7 (m_md t5) := Or.inl j_t7.2.1
      refine Kp_push C_t7 (by omega) (fun t8 C_t8 X_t8 a_t8 b_t8 d_t8 w_t8 u_t8 v_t8 j_t8 l_t8 => ?_)
      have e_t8 := C_t8.2.2.2.1
      rw [a_t7] at a_t8
      rw [b_t7] at b_t8
      rw [d_t7] at d_t8
      rw [w_t7] at w_t8
      rw [u_t7] at u_t8
      rw [v_t7] at v_t8
      clear d_t7 w_t7 u_t7 v_t7 e_t7 a_t7 b_t7
      have I_n_t8 := I_n_t7.flat X_t8
      have f_n_t8 := f_n_t7.ex I_n_t7 (X_t8 0)
      have I_m_mdt5_t8 := I_m_mdt5_t7.flat X_t8
      have u_m_mdt5_t8 := u_m_mdt5_t7.ex I_m_mdt5_t7 (X_t8 0)
      refine Ok_bnc ?_
      try unfold b_X6_expression
      refine Kp_push C_t8 (by omega) (fun t10 C_t10 X_t10 a_t10 b_t10 d_t10 w_t10 u_t10 v_t10 j_t10 l_t10 => ?_)
      have e_t10 := C_t10.2.2.2.1
      rw [a_t8] at a_t10
      rw [b_t8] at b_t10
      rw [d_t8] at d_t10
      rw [w_t8] at w_t10
      rw [u_t8] at u_t10
      rw [v_t8] at v_t10
      clear d_t8 w_t8 u_t8 v_t8 e_t8 a_t8 b_t8
      have I_n_t10 := I_n_t8.flat X_t10
      have f_n_t10 := f_n_t8.ex I_n_t8 (X_t10 0)
      have I_m_mdt5_t10 := I_m_mdt5_t8.flat X_t10
      have u_m_mdt5_t10 := u_m_mdt5_t8.ex I_m_mdt5_t8 (X_t10 0)
      refine Kp_push C_t10 (by omega) (fun t11 C_t11 X_t11 a_t11 b_t11 d_t11 w_t11 u_t11 v_t11 j_t11 l_t11 => ?_)
      have e_t11 := C_t11.2.2.2.1
      rw [a_t10] at a_t11
      rw [b_t10] at b_t11
      rw [d_t10] at d_t11
      rw [w_t10] at w_t11
      rw [u_t10] at u_t11
      rw [v_t10] at v_t11
      clear d_t10 w_t10 u_t10 v_t10 e_t10 a_t10 b_t10
      have I_n_t11 := I_n_t10.flat X_t11
      have f_n_t11 := f_n_t10.ex I_n_t10 (X_t11 0)
      have I_m_mdt5_t11 := I_m_mdt5_t10.flat X_t11
      have u_m_mdt5_t11 := u_m_mdt5_t10.ex I_m_mdt5_t10 (X_t11 0)
      refine Ok_ret (show Ok _ _ _ from ?_)
      refine Ok_ret (show Ok _ _ _ from ?_)
      refine Ok_ret (show Ok _ _ _ from ?_)
      refine Ok_ret (show Ok _ _ _ from ?_)
      refine Ok_ret (show Ok _ _ _ from ?_)
      refine Hv_mk (Kv_c (x := (3, m_md t5, 0 &&& 1)) rfl (Kv_c (x := (2, m_md t5, (0 &&& 1) ||| (1 * 256))) rfl (Kv_c (x := (32, m_md t5, 0 &&& 1)) rfl hK))) (C_t11.1.2.2.2.2.2.2 hTt) C_t11 hT (by omega) (by omega) (by omega) ?_ ?_ ?_ (by omega) ?_ ?_ ?_
      · exact ⟨(Io_n (by decide) (show 0 &&& 1 < 4096 from by omega) I_m_mdt5_t11.1 I_m_mdt5_t11.2.1 I_m_mdt5_t11.2.2.1 (fun q => absurd q (by decide)) (fun q => absurd q (by decide)) I_m_mdt5_t11.2.2.2), (Nd_0 (by decide) Mo_nil), ⟨(Io_2 (by have := or_256 (b := 1) (show (0 &&& 1) < 256 from by omega); omega) (by have := or_256 (b := 1) (show (0 &&& 1) < 256 from by omega); omega) (by have := or_256 (b := 1) (show (0 &&& 1) < 256 from by omega); omega) I_m_mdt5_t11.1 I_m_mdt5_t11.2.1 I_m_mdt5_t11.2.2.1 I_m_mdt5_t11.2.2.2), (Nd_A (by decide) (Mo_cons (fun q => show m_md t5 ≤ m_md t5 from by omega) Mo_nil) (Or.inr ⟨(3, m_md t5, 0 &&& 1), List.mem_cons_self, rfl, Or.inl rfl⟩)), ⟨(Io_n (by decide) (show 0 &&& 1 < 4096 from by omega) I_m_mdt5_t11.1 I_m_mdt5_t11.2.1 I_m_mdt5_t11.2.2.1 (fun q => absurd q (by decide)) (fun q => absurd q (by decide)) I_m_mdt5_t11.2.2.2), (Nd_0 (by decide) (Mo_cons (fun q => show m_md t5 ≤ m_md t5 from by omega) (Mo_cons (fun q => show m_md t5 ≤ m_md t5 from by omega) Mo_nil))), Stk_step (N := n) (pop := (36, n, t)) (new := [(32, m_md t5, 0 &&& 1), (2, m_md t5, (0 &&& 1) ||| (1 * 256)), (3, m_md t5, 0 &&& 1)]) F0 C_t11.1.to2 (fun (h : nk 36 = false) => absurd h (by decide)) (fun q _ h => h (36, n, t) rfl) (fun _ => rfl) (fun y hy hk => ⟨rfl, (Mo_cons (fun q => show n ≤ m_md t5 from by omega) (Mo_cons (fun q => show n ≤ m_md t5 from by omega) (Mo_cons (fun q => show n ≤ m_md t5 from by omega) Mo_nil))) y hy hk⟩) (fun (h : 36 = 3 ∨ 36 = 18 ∨ 36 = 41) => absurd h (by decide)) (fun (h : 36 = 18) => absurd h (by decide)) (fun (h : 36 = 41 ∨ 36 = 42 ∨ 36 = 43) => absurd h (by decide)) r [] (fun y hy => absurd hy List.not_mem_nil) hS⟩⟩⟩
      · exact (Aj_up (x := (3, m_md t5, 0 &&& 1)) (Aj_up (x := (2, m_md t5, (0 &&& 1) ||| (1 * 256))) (Aj_sub (y := (32, m_md t5, 0 &&& 1)) hJ (Nat.le_of_ble_eq_true rfl)) (Or.inr (show 9 - ((0 &&& 1) ||| (1 * 256)) / 256 < 9 from by have := or_256 (b := 1) (show (0 &&& 1) < 256 from by omega); omega))) (Or.inr (show 2 < 9 - ((0 &&& 1) ||| (1 * 256)) / 256 from by have := or_256 (b := 1) (show (0 &&& 1) < 256 from by omega); omega)))
      · show m_dp t11 = (dlt 3 + (dlt 2 + (dlt 32 + sD r)))
        have : dlt 2 = 0 := rfl; have : dlt 3 = 0 := rfl; have : dlt 32 = 0 := rfl; have : dlt 36 = 0 := rfl; omega
      · show m_rw t11 = (rho 3 + (rho 2 + (rho 32 + sR r)))
        have : rho 2 = 0 := rfl; have : rho 3 = 0 := rfl; have : rho 32 = 0 := rfl; have : rho 36 = 0 := rfl; omega
      · show m_md t11 + (mu7 3 + (mu7 2 + (mu7 32 + sM r))) ≤ 3 * m_at t11 + 7 * (r.length + 1 + 1 + 1) + 10
        have : mu7 2 = 7 := rfl; have : mu7 3 = 5 := rfl; have : mu7 32 = 7 := rfl; have : mu7 36 = 7 := rfl; omega
      · show (wt 3 + (wt 2 + (wt 32 + sW r))) + 6 * (4096 - m_at t11) + 4 * (600 - (r.length + 1 + 1 + 1)) < (wt 36 + sW r) + 6 * (4096 - m_at t0) + 4 * (600 - (r.length + 1))
        have : wt 2 = 5 := rfl; have : wt 3 = 3 := rfl; have : wt 32 = 5 := rfl; have : wt 36 = 5 := rfl; omega
    · have w_t5 := Nat.pos_of_ne_zero w_t5
      have I_n_t5 := I_n_t0.flat X_t5
      refine Ok_bnc ?_
      try unfold b_X6_exprs
      refine Kp_child C_t5 I_n_t5.1 I_n_t5.2.1 I_n_t5.2.2.1 (by omega) (by omega) (by decide) (by decide) (fun t13 C_t13 X_t13 a_t13 b_t13 d_t13 w_t13 u_t13 v_t13 j_t13 l_t13 => ?_)
      have e_t13 := C_t13.2.2.2.1
      have I_n_t13 := I_n_t5.chd X_t13 j_t13
      have f_n_t13 : Fz t13 n := j_t13.2.2.2.2.1
      have I_m_mdt5_t13 : Nq t13 (m_md t5) := Nq.chn j_t13 (by omega) I_n_t5 (by decide)
      have u_m_mdt5_t13 : Up t13 (m_md t5) := Or.inl j_t13.2.1
      refine Kp_push C_t13 (by omega) (fun t14 C_t14 X_t14 a_t14 b_t14 d_t14 w_t14 u_t14 v_t14 j_t14 l_t14 => ?_)
      have e_t14 := C_t14.2.2.2.1
      have I_n_t14 := I_n_t13.flat X_t14
      have f_n_t14 := f_n_t13.ex I_n_t13 (X_t14 0)
      have I_m_mdt5_t14 := I_m_mdt5_t13.flat X_t14
      have u_m_mdt5_t14 := u_m_mdt5_t13.ex I_m_mdt5_t13 (X_t14 0)
      refine Ok_bnc ?_
      try unfold b_X6_expression
      refine Kp_push C_t14 (by omega) (fun t16 C_t16 X_t16 a_t16 b_t16 d_t16 w_t16 u_t16 v_t16 j_t16 l_t16 => ?_)
      have e_t16 := C_t16.2.2.2.1
      have I_n_t16 := I_n_t14.flat X_t16
      have f_n_t16 := f_n_t14.ex I_n_t14 (X_t16 0)
      have I_m_mdt5_t16 := I_m_mdt5_t14.flat X_t16
      have u_m_mdt5_t16 := u_m_mdt5_t14.ex I_m_mdt5_t14 (X_t16 0)
      refine Kp_push C_t16 (by omega) (fun t17 C_t17 X_t17 a_t17 b_t17 d_t17 w_t17 u_t17 v_t17 j_t17 l_t17 => ?_)
      have e_t17 := C_t17.2.2.2.1
      have I_n_t17 := I_n_t16.flat X_t17
      have f_n_t17 := f_n_t16.ex I_n_t16 (X_t17 0)
      have I_m_mdt5_t17 := I_m_mdt5_t16.flat X_t17
      have u_m_mdt5_t17 := u_m_mdt5_t16.ex I_m_mdt5_t16 (X_t17 0)
      refine Ok_ret (show Ok _ _ _ from ?_)
      refine Ok_ret (show Ok _ _ _ from ?_)
      refine Ok_ret (show Ok _ _ _ from ?_)
      refine Ok_ret (show Ok _ _ _ from ?_)
      refine Ok_ret (show Ok _ _ _ from ?_)
      exact Or.inl ⟨Nat.ne_of_gt (show 0 < m_wr t17 from by omega), by omega, by omega, C_t17.2.2.2.2.2, by omega⟩
  · refine Kp_look C_t0 hT (by omega) ?_
    refine Ok_ck (Nat.lt_trans (lo_lt (C_t0.tk hT) _) (by decide)) ?_
    refine Ok_ifz (f6_beginsType _) (fun q18 => ?_) (fun q18 => ?_)
    · refine Ok_bnc ?_
      try unfold b_X6_valued
      refine Kp_look C_t0 hT (by omega) ?_
      refine Ok_ife (Nat.lt_trans (lo_lt (C_t0.tk hT) _) (by decide)) (by decide) (fun q => absurd q q3) (fun q => ?_)
      refine Ok_ife (by decide) (by decide) (fun q => absurd q (by decide)) (fun _ => ?_)
      refine Ok_ret (show Ok _ _ _ from ?_)
      refine Ok_ret (show Ok _ _ _ from ?_)
      refine Ok_ret (show Ok _ _ _ from ?_)
      refine Hv_mk hK (C_t0.1.2.2.2.2.2.2 hTt) C_t0 hT (by omega) (by omega) (by omega) ?_ ?_ ?_ (by omega) ?_ ?_ ?_
      · exact Stk_step (N := n) (pop := (36, n, t)) (new := []) F0 C_t0.1.to2 (fun (h : nk 36 = false) => absurd h (by decide)) (fun q _ h => h (36, n, t) rfl) (fun _ => rfl) (fun y hy hk => ⟨rfl, Mo_nil (n := n) y hy hk⟩) (fun (h : 36 = 3 ∨ 36 = 18 ∨ 36 = 41) => absurd h (by decide)) (fun (h : 36 = 18) => absurd h (by decide)) (fun (h : 36 = 41 ∨ 36 = 42 ∨ 36 = 43) => absurd h (by decide)) r [] (fun y hy => absurd hy List.not_mem_nil) hS
      · exact Aj_tl hJ
      · show m_dp t0 = sD r
        have : dlt 36 = 0 := rfl; omega
      · show m_rw t0 = sR r
        have : rho 36 = 0 := rfl; omega
      · show m_md t0 + sM r ≤ 3 * m_at t0 + 7 * (r.length) + 10
        have : mu7 36 = 7 := rfl; omega
      · show sW r + 6 * (4096 - m_at t0) + 4 * (600 - (r.length)) < (wt 36 + sW r) + 6 * (4096 - m_at t0) + 4 * (600 - (r.length + 1))
        have : wt 36 = 5 := rfl; omega
    · have q18n := Nat.pos_of_ne_zero (n6_beginsType q18)
      refine Kp_push C_t0 (by omega) (fun t20 C_t20 X_t20 a_t20 b_t20 d_t20 w_t20 u_t20 v_t20 j_t20 l_t20 => ?_)
      have e_t20 := C_t20.2.2.2.1
      have I_n_t20 := I_n_t0.flat X_t20
      refine Kp_push C_t20 (by omega) (fun t21 C_t21 X_t21 a_t21 b_t21 d_t21 w_t21 u_t21 v_t21 j_t21 l_t21 => ?_)
      have e_t21 := C_t21.2.2.2.1
      rw [a_t20] at a_t21
      rw [b_t20] at b_t21
      rw [d_t20] at d_t21
      rw [w_t20] at w_t21
      rw [u_t20] at u_t21
      rw [v_t20] at v_t21
      clear d_t20 w_t20 u_t20 v_t20 e_t20 a_t20 b_t20
      have I_n_t21 := I_n_t20.flat X_t21
      refine Ok_ret (show Ok _ _ _ from ?_)
      refine Ok_ret (show Ok _ _ _ from ?_)
      refine Hv_mk (Kv_c (x := (18, n, 0)) rfl (Kv_c (x := (58, n, 1)) rfl hK)) (C_t21.1.2.2.2.2.2.2 hTt) C_t21 hT (by omega) (by omega) (by omega) ?_ ?_ ?_ (by omega) ?_ ?_ ?_
      · exact ⟨(Io_n (by decide) (by decide) I_n_t21.1 I_n_t21.2.1 I_n_t21.2.2.1 (fun q => absurd q (by decide)) (fun q => absurd q (by decide)) I_n_t21.2.2.2), (Nd_0 (by decide) Mo_nil), ⟨(Io_n (by decide) (by decide) I_n_t21.1 I_n_t21.2.1 I_n_t21.2.2.1 (fun q => absurd q (by decide)) (fun q => absurd q (by decide)) I_n_t21.2.2.2), (Nd_0 (by decide) (Mo_cons (fun q => show n ≤ n from by omega) Mo_nil)), Stk_step (N := n) (pop := (36, n, t)) (new := [(58, n, 1), (18, n, 0)]) F0 C_t21.1.to2 (fun (h : nk 36 = false) => absurd h (by decide)) (fun q _ h => h (36, n, t) rfl) (fun _ => rfl) (fun y hy hk => ⟨rfl, (Mo_cons (fun q => show n ≤ n from by omega) (Mo_cons (fun q => show n ≤ n from by omega) Mo_nil)) y hy hk⟩) (fun (h : 36 = 3 ∨ 36 = 18 ∨ 36 = 41) => absurd h (by decide)) (fun (h : 36 = 18) => absurd h (by decide)) (fun (h : 36 = 41 ∨ 36 = 42 ∨ 36 = 43) => absurd h (by decide)) r [] (fun y hy => absurd hy List.not_mem_nil) hS⟩⟩
      · exact (Aj_up (x := (18, n, 0)) (Aj_sub (y := (58, n, 1)) hJ (Nat.le_of_ble_eq_true rfl)) (Or.inr (Nat.le_of_ble_eq_true rfl)))
      · show m_dp t21 = (dlt 18 + (dlt 58 + sD r))
        have : dlt 18 = 0 := rfl; have : dlt 36 = 0 := rfl; have : dlt 58 = 0 := rfl; omega
      · show m_rw t21 = (rho 18 + (rho 58 + sR r))
        have : rho 18 = 0 := rfl; have : rho 36 = 0 := rfl; have : rho 58 = 0 := rfl; omega
      · show m_md t21 + (mu7 18 + (mu7 58 + sM r)) ≤ 3 * m_at t21 + 7 * (r.length + 1 + 1) + 10
        have : mu7 18 = 5 := rfl; have : mu7 36 = 7 := rfl; have : mu7 58 = 7 := rfl; omega
      · show (wt 18 + (wt 58 + sW r)) + 6 * (4096 - m_at t21) + 4 * (600 - (r.length + 1 + 1)) < (wt 36 + sW r) + 6 * (4096 - m_at t0) + 4 * (600 - (r.length + 1))
        have : wt 18 = 0 := rfl; have : wt 36 = 5 := rfl; have : wt 58 = 5 := rfl; omega

theorem S_37 {t0 : Mm} {n t : Nat} {r : List It} (H : Hp t0 (37, n, t) r) {E : Mm → Prop} : Ok (Qh (mz t0 ((37, n, t) :: r))) E (b_X6_step 37 n t t0) := by
  obtain ⟨hK, hT, hc, hw0, ha, hC, hS, hJ, hdp, hdl, hrw, hmd, htd, hln, hm16, hI, hD, hTt⟩ := Hp_out H
  have C_t0 := hC n
  have F0 := C_t0.2.1
  have I_n_t0 : Nq t0 n := ⟨(hI.2.1 rfl).1, (hI.2.1 rfl).2.1, (hI.2.1 rfl).2.2, hI.2.2.2 rfl⟩
  have m_n_t0 := I_n_t0.1
  have ht : t < 4096 := hI.1.1 (show 37 ≠ 42 by decide) (show 37 ≠ 48 by decide)
  have hdp : m_dp t0 = dlt 37 + sD r := hdp
  have hrw : m_rw t0 = rho 37 + sR r := hrw
  have hmd : m_md t0 + mu7 37 + sM r ≤ 3 * m_at t0 + 7 * r.length + 17 := hmd
  have hand : t &&& 1 ≤ 1 := Nat.and_le_right
  have h01 : (0 &&& 1 : Nat) = 0 := rfl
  have h02 : (1 : Nat) * 256 = 256 := rfl
  have hq1 : dlt 37 = 0 := rfl
  have hq2 : rho 37 = 0 := rfl
  have hq3 : mu7 37 = 5 := rfl
  unfold b_X6_step
  refine Ok_ifl (by decide) (by decide) (fun _ => ?_) (fun q => absurd (by decide) q)
  refine Ok_ifl (by decide) (by decide) (fun q => absurd q (by decide)) (fun _ => ?_)
  refine Ok_ifl (by decide) (by decide) (fun q => absurd q (by decide)) (fun _ => ?_)
  refine Ok_ifl (by decide) (by decide) (fun _ => ?_) (fun q => absurd (by decide) q)
  refine Ok_bnc ?_
  try unfold b_X6_declaring
  refine Ok_ck (by decide) ?_
  refine Ok_ife (by decide) (by decide) (fun q => absurd q (by decide)) (fun _ => ?_)
  refine Ok_ife (by decide) (by decide) (fun q => absurd q (by decide)) (fun _ => ?_)
  refine Ok_ife (by decide) (by decide) (fun q => absurd q (by decide)) (fun _ => ?_)
  refine Ok_ife (by decide) (by decide) (fun q => absurd q (by decide)) (fun _ => ?_)
  refine Ok_ife (by decide) (by decide) (fun q => absurd q (by decide)) (fun _ => ?_)
  refine Ok_ife (by decide) (by decide) (fun q => absurd q (by decide)) (fun _ => ?_)
  refine Ok_ife (by decide) (by decide) (fun q => absurd q (by decide)) (fun _ => ?_)
  refine Ok_ife (by decide) (by decide) (fun q => absurd q (by decide)) (fun _ => ?_)
  refine Ok_ife (by decide) (by decide) (fun _ => ?_) (fun q => absurd (by decide) q)
  refine Ok_bnc ?_
  try unfold b_X6_varRest
  refine Kp_look C_t0 hT (by omega) ?_
  refine Ok_ife (Nat.lt_trans (lo_lt (C_t0.tk hT) _) (by decide)) (by decide) (fun q3 => ?_) (fun q3 => ?_)
  · refine Ok_bnc ?_
    try unfold b_X6_valued
    refine Kp_look C_t0 hT (by omega) ?_
    refine Ok_ife (Nat.lt_trans (lo_lt (C_t0.tk hT) _) (by decide)) (by decide) (fun q => ?_) (fun q => absurd q3 q)
    refine Kp_pass C_t0 hT (by omega) (by decide) (by omega) (fun t5 C_t5 X_t5 a_t5 b_t5 d_t5 w_t5 u_t5 v_t5 j_t5 l_t5 => ?_)
    have e_t5 := C_t5.2.2.2.1
    rcases w_t5 with ⟨w_t5, y_t5⟩ | ⟨w_t5, wb_t5⟩
    · have z_t5 : m_at t0 < m_ct t0 := lo_ne (Nat.ne_of_gt (show 0 < lo t0 (m_at t0) from by omega))
      have I_n_t5 := I_n_t0.flat X_t5
      refine Ok_bnc ?_
      try unfold b_X6_exprs
      refine Kp_child C_t5 I_n_t5.1 I_n_t5.2.1 I_n_t5.2.2.1 (by omega) (by omega) (by decide) (by decide) (fun t7 C_t7 X_t7 a_t7 b_t7 d_t7 w_t7 u_t7 v_t7 j_t7 l_t7 => ?_)
      have e_t7 := C_t7.2.2.2.1
      rw [a_t5] at a_t7
      rw [b_t5] at b_t7
      rw [d_t5] at d_t7
      rw [w_t5] at w_t7
      rw [u_t5] at u_t7
      rw [v_t5] at v_t7
      clear d_t5 w_t5 u_t5 v_t5 e_t5 a_t5
      have I_n_t7 := I_n_t5.chd X_t7 j_t7
      have f_n_t7 : Fz t7 n := j_t7.2.2.2.2.1
      have I_m_mdt5_t7 : Nq t7 (m_md t5) := Nq.chn j_t7 (by omega) I_n_t5 (by decide)
      have u_m_mdt5_t7 : Up t7 (m_md t5) := Or.inl j_t7.2.1
      refine Kp_push C_t7 (by omega) (fun t8 C_t8 X_t8 a_t8 b_t8 d_t8 w_t8 u_t8 v_t8 j_t8 l_t8 => ?_)
      have e_t8 := C_t8.2.2.2.1
      rw [a_t7] at a_t8
      rw [b_t7] at b_t8
      rw [d_t7] at d_t8
      rw [w_t7] at w_t8
      rw [u_t7] at u_t8
      rw [v_t7] at v_t8
      clear d_t7 w_t7 u_t7 v_t7 e_t7 a_t7 b_t7
      have I_n_t8 := I_n_t7.flat X_t8
      have f_n_t8 := f_n_t7.ex I_n_t7 (X_t8 0)
      have I_m_mdt5_t8 := I_m_mdt5_t7.flat X_t8
      have u_m_mdt5_t8 := u_m_mdt5_t7.ex I_m_mdt5_t7 (X_t8 0)
      refine Ok_bnc ?_
      try unfold b_X6_expression
      refine Kp_push C_t8 (by omega) (fun t10 C_t10 X_t10 a_t10 b_t10 d_t10 w_t10 u_t10 v_t10 j_t10 l_t10 => ?_)
      have e_t10 := C_t10.2.2.2.1
      rw [a_t8] at a_t10
      rw [b_t8] at b_t10
      rw [d_t8] at d_t10
      rw [w_t8] at w_t10
      rw [u_t8] at u_t10
      rw [v_t8] at v_t10
      clear d_t8 w_t8 u_t8 v_t8 e_t8 a_t8 b_t8
      have I_n_t10 := I_n_t8.flat X_t10
      have f_n_t10 := f_n_t8.ex I_n_t8 (X_t10 0)
      have I_m_mdt5_t10 := I_m_mdt5_t8.flat X_t10
      have u_m_mdt5_t10 := u_m_mdt5_t8.ex I_m_mdt5_t8 (X_t10 0)
      refine Kp_push C_t10 (by omega) (fun t11 C_t11 X_t11 a_t11 b_t11 d_t11 w_t11 u_t11 v_t11 j_t11 l_t11 => ?_)
      have e_t11 := C_t11.2.2.2.1
      rw [a_t10] at a_t11
      rw [b_t10] at b_t11
      rw [d_t10] at d_t11
      rw [w_t10] at w_t11
      rw [u_t10] at u_t11
      rw [v_t10] at v_t11
      clear d_t10 w_t10 u_t10 v_t10 e_t10 a_t10 b_t10
      have I_n_t11 := I_n_t10.flat X_t11
      have f_n_t11 := f_n_t10.ex I_n_t10 (X_t11 0)
      have I_m_mdt5_t11 := I_m_mdt5_t10.flat X_t11
      have u_m_mdt5_t11 := u_m_mdt5_t10.ex I_m_mdt5_t10 (X_t11 0)
      refine Ok_ret (show Ok _ _ _ from ?_)
      refine Ok_ret (show Ok _ _ _ from ?_)
      refine Ok_ret (show Ok _ _ _ from ?_)
      refine Ok_ret (show Ok _ _ _ from ?_)
      refine Ok_ret (show Ok _ _ _ from ?_)
      refine Hv_mk (Kv_c (x := (3, m_md t5, 0 &&& 1)) rfl (Kv_c (x := (2, m_md t5, (0 &&& 1) ||| (1 * 256))) rfl (Kv_c (x := (32, m_md t5, 0 &&& 1)) rfl hK))) (C_t11.1.2.2.2.2.2.2 hTt) C_t11 hT (by omega) (by omega) (by omega) ?_ ?_ ?_ (by omega) ?_ ?_ ?_
      · exact ⟨(Io_n (by decide) (show 0 &&& 1 < 4096 from by omega) I_m_mdt5_t11.1 I_m_mdt5_t11.2.1 I_m_mdt5_t11.2.2.1 (fun q => absurd q (by decide)) (fun q => absurd q (by decide)) I_m_mdt5_t11.2.2.2), (Nd_0 (by decide) Mo_nil), ⟨(Io_2 (by have := or_256 (b := 1) (show (0 &&& 1) < 256 from by omega); omega) (by have := or_256 (b := 1) (show (0 &&& 1) < 256 from by omega); omega) (by have := or_256 (b := 1) (show (0 &&& 1) < 256 from by omega); omega) I_m_mdt5_t11.1 I_m_mdt5_t11.2.1 I_m_mdt5_t11.2.2.1 I_m_mdt5_t11.2.2.2), (Nd_A (by decide) (Mo_cons (fun q => show m_md t5 ≤ m_md t5 from by omega) Mo_nil) (Or.inr ⟨(3, m_md t5, 0 &&& 1), List.mem_cons_self, rfl, Or.inl rfl⟩)), ⟨(Io_n (by decide) (show 0 &&& 1 < 4096 from by omega) I_m_mdt5_t11.1 I_m_mdt5_t11.2.1 I_m_mdt5_t11.2.2.1 (fun q => absurd q (by decide)) (fun q => absurd q (by decide)) I_m_mdt5_t11.2.2.2), (Nd_0 (by decide) (Mo_cons (fun q => show m_md t5 ≤ m_md t5 from by omega) (Mo_cons (fun q => show m_md t5 ≤ m_md t5 from by omega) Mo_nil))), Stk_step (N := n) (pop := (37, n, t)) (new := [(32, m_md t5, 0 &&& 1), (2, m_md t5, (0 &&& 1) ||| (1 * 256)), (3, m_md t5, 0 &&& 1)]) F0 C_t11.1.to2 (fun (h : nk 37 = false) => absurd h (by decide)) (fun q _ h => h (37, n, t) rfl) (fun _ => rfl) (fun y hy hk => ⟨rfl, (Mo_cons (fun q => show n ≤ m_md t5 from by omega) (Mo_cons (fun q => show n ≤ m_md t5 from by omega) (Mo_cons (fun q => show n ≤ m_md t5 from by omega) Mo_nil))) y hy hk⟩) (fun (h : 37 = 3 ∨ 37 = 18 ∨ 37 = 41) => absurd h (by decide)) (fun (h : 37 = 18) => absurd h (by decide)) (fun (h : 37 = 41 ∨ 37 = 42 ∨ 37 = 43) => absurd h (by decide)) r [] (fun y hy => absurd hy List.not_mem_nil) hS⟩⟩⟩
      · exact (Aj_up (x := (3, m_md t5, 0 &&& 1)) (Aj_up (x := (2, m_md t5, (0 &&& 1) ||| (1 * 256))) (Aj_sub (y := (32, m_md t5, 0 &&& 1)) hJ (Nat.le_of_ble_eq_true rfl)) (Or.inr (show 9 - ((0 &&& 1) ||| (1 * 256)) / 256 < 9 from by have := or_256 (b := 1) (show (0 &&& 1) < 256 from by omega); omega))) (Or.inr (show 2 < 9 - ((0 &&& 1) ||| (1 * 256)) / 256 from by have := or_256 (b := 1) (show (0 &&& 1) < 256 from by omega); omega)))
      · show m_dp t11 = (dlt 3 + (dlt 2 + (dlt 32 + sD r)))
        have : dlt 2 = 0 := rfl; have : dlt 3 = 0 := rfl; have : dlt 32 = 0 := rfl; have : dlt 37 = 0 := rfl; omega
      · show m_rw t11 = (rho 3 + (rho 2 + (rho 32 + sR r)))
        have : rho 2 = 0 := rfl; have : rho 3 = 0 := rfl; have : rho 32 = 0 := rfl; have : rho 37 = 0 := rfl; omega
      · show m_md t11 + (mu7 3 + (mu7 2 + (mu7 32 + sM r))) ≤ 3 * m_at t11 + 7 * (r.length + 1 + 1 + 1) + 10
        have : mu7 2 = 7 := rfl; have : mu7 3 = 5 := rfl; have : mu7 32 = 7 := rfl; have : mu7 37 = 5 := rfl; omega
      · show (wt 3 + (wt 2 + (wt 32 + sW r))) + 6 * (4096 - m_at t11) + 4 * (600 - (r.length + 1 + 1 + 1)) < (wt 37 + sW r) + 6 * (4096 - m_at t0) + 4 * (600 - (r.length + 1))
        have : wt 2 = 5 := rfl; have : wt 3 = 3 := rfl; have : wt 32 = 5 := rfl; have : wt 37 = 2 := rfl; omega
    · have w_t5 := Nat.pos_of_ne_zero w_t5
      have I_n_t5 := I_n_t0.flat X_t5
      refine Ok_bnc ?_
      try unfold b_X6_exprs
      refine Kp_child C_t5 I_n_t5.1 I_n_t5.2.1 I_n_t5.2.2.1 (by omega) (by omega) (by decide) (by decide) (fun t13 C_t13 X_t13 a_t13 b_t13 d_t13 w_t13 u_t13 v_t13 j_t13 l_t13 => ?_)
      have e_t13 := C_t13.2.2.2.1
      have I_n_t13 := I_n_t5.chd X_t13 j_t13
      have f_n_t13 : Fz t13 n := j_t13.2.2.2.2.1
      have I_m_mdt5_t13 : Nq t13 (m_md t5) := Nq.chn j_t13 (by omega) I_n_t5 (by decide)
      have u_m_mdt5_t13 : Up t13 (m_md t5) := Or.inl j_t13.2.1
      refine Kp_push C_t13 (by omega) (fun t14 C_t14 X_t14 a_t14 b_t14 d_t14 w_t14 u_t14 v_t14 j_t14 l_t14 => ?_)
      have e_t14 := C_t14.2.2.2.1
      have I_n_t14 := I_n_t13.flat X_t14
      have f_n_t14 := f_n_t13.ex I_n_t13 (X_t14 0)
      have I_m_mdt5_t14 := I_m_mdt5_t13.flat X_t14
      have u_m_mdt5_t14 := u_m_mdt5_t13.ex I_m_mdt5_t13 (X_t14 0)
      refine Ok_bnc ?_
      try unfold b_X6_expression
      refine Kp_push C_t14 (by omega) (fun t16 C_t16 X_t16 a_t16 b_t16 d_t16 w_t16 u_t16 v_t16 j_t16 l_t16 => ?_)
      have e_t16 := C_t16.2.2.2.1
      have I_n_t16 := I_n_t14.flat X_t16
      have f_n_t16 := f_n_t14.ex I_n_t14 (X_t16 0)
      have I_m_mdt5_t16 := I_m_mdt5_t14.flat X_t16
      have u_m_mdt5_t16 := u_m_mdt5_t14.ex I_m_mdt5_t14 (X_t16 0)
      refine Kp_push C_t16 (by omega) (fun t17 C_t17 X_t17 a_t17 b_t17 d_t17 w_t17 u_t17 v_t17 j_t17 l_t17 => ?_)
      have e_t17 := C_t17.2.2.2.1
      have I_n_t17 := I_n_t16.flat X_t17
      have f_n_t17 := f_n_t16.ex I_n_t16 (X_t17 0)
      have I_m_mdt5_t17 := I_m_mdt5_t16.flat X_t17
      have u_m_mdt5_t17 := u_m_mdt5_t16.ex I_m_mdt5_t16 (X_t17 0)
      refine Ok_ret (show Ok _ _ _ from ?_)
      refine Ok_ret (show Ok _ _ _ from ?_)
      refine Ok_ret (show Ok _ _ _ from ?_)
      refine Ok_ret (show Ok _ _ _ from ?_)
      refine Ok_ret (show Ok _ _ _ from ?_)
      exact Or.inl ⟨Nat.ne_of_gt (show 0 < m_wr t17 from by omega), by omega, by omega, C_t17.2.2.2.2.2, by omega⟩
  · refine Kp_push C_t0 (by omega) (fun t18 C_t18 X_t18 a_t18 b_t18 d_t18 w_t18 u_t18 v_t18 j_t18 l_t18 => ?_)
    have e_t18 := C_t18.2.2.2.1
    have I_n_t18 := I_n_t0.flat X_t18
    refine Kp_push C_t18 (by omega) (fun t19 C_t19 X_t19 a_t19 b_t19 d_t19 w_t19 u_t19 v_t19 j_t19 l_t19 => ?_)
    have e_t19 := C_t19.2.2.2.1
    rw [a_t18] at a_t19
    rw [b_t18] at b_t19
    rw [d_t18] at d_t19
    rw [w_t18] at w_t19
    rw [u_t18] at u_t19
    rw [v_t18] at v_t19
    clear d_t18 w_t18 u_t18 v_t18 e_t18 a_t18 b_t18
    have I_n_t19 := I_n_t18.flat X_t19
    refine Ok_ret (show Ok _ _ _ from ?_)
    refine Ok_ret (show Ok _ _ _ from ?_)
    refine Hv_mk (Kv_c (x := (18, n, 0)) rfl (Kv_c (x := (58, n, 2)) rfl hK)) (C_t19.1.2.2.2.2.2.2 hTt) C_t19 hT (by omega) (by omega) (by omega) ?_ ?_ ?_ (by omega) ?_ ?_ ?_
    · exact ⟨(Io_n (by decide) (by decide) I_n_t19.1 I_n_t19.2.1 I_n_t19.2.2.1 (fun q => absurd q (by decide)) (fun q => absurd q (by decide)) I_n_t19.2.2.2), (Nd_0 (by decide) Mo_nil), ⟨(Io_n (by decide) (by decide) I_n_t19.1 I_n_t19.2.1 I_n_t19.2.2.1 (fun q => absurd q (by decide)) (fun q => absurd q (by decide)) I_n_t19.2.2.2), (Nd_0 (by decide) (Mo_cons (fun q => show n ≤ n from by omega) Mo_nil)), Stk_step (N := n) (pop := (37, n, t)) (new := [(58, n, 2), (18, n, 0)]) F0 C_t19.1.to2 (fun (h : nk 37 = false) => absurd h (by decide)) (fun q _ h => h (37, n, t) rfl) (fun _ => rfl) (fun y hy hk => ⟨rfl, (Mo_cons (fun q => show n ≤ n from by omega) (Mo_cons (fun q => show n ≤ n from by omega) Mo_nil)) y hy hk⟩) (fun (h : 37 = 3 ∨ 37 = 18 ∨ 37 = 41) => absurd h (by decide)) (fun (h : 37 = 18) => absurd h (by decide)) (fun (h : 37 = 41 ∨ 37 = 42 ∨ 37 = 43) => absurd h (by decide)) r [] (fun y hy => absurd hy List.not_mem_nil) hS⟩⟩
    · exact (Aj_up (x := (18, n, 0)) (Aj_sub (y := (58, n, 2)) hJ (Nat.le_of_ble_eq_true rfl)) (Or.inr (Nat.le_of_ble_eq_true rfl)))
    · show m_dp t19 = (dlt 18 + (dlt 58 + sD r))
      have : dlt 18 = 0 := rfl; have : dlt 37 = 0 := rfl; have : dlt 58 = 0 := rfl; omega
    · show m_rw t19 = (rho 18 + (rho 58 + sR r))
      have : rho 18 = 0 := rfl; have : rho 37 = 0 := rfl; have : rho 58 = 0 := rfl; omega
    · show m_md t19 + (mu7 18 + (mu7 58 + sM r)) ≤ 3 * m_at t19 + 7 * (r.length + 1 + 1) + 10
      have : mu7 18 = 5 := rfl; have : mu7 37 = 5 := rfl; have : mu7 58 = 7 := rfl; omega
    · show (wt 18 + (wt 58 + sW r)) + 6 * (4096 - m_at t19) + 4 * (600 - (r.length + 1 + 1)) < (wt 37 + sW r) + 6 * (4096 - m_at t0) + 4 * (600 - (r.length + 1))
      have : wt 18 = 0 := rfl; have : wt 37 = 2 := rfl; have : wt 58 = 5 := rfl; omega

theorem S_38 {t0 : Mm} {n t : Nat} {r : List It} (H : Hp t0 (38, n, t) r) {E : Mm → Prop} : Ok (Qh (mz t0 ((38, n, t) :: r))) E (b_X6_step 38 n t t0) := by
  obtain ⟨hK, hT, hc, hw0, ha, hC, hS, hJ, hdp, hdl, hrw, hmd, htd, hln, hm16, hI, hD, hTt⟩ := Hp_out H
  have C_t0 := hC n
  have F0 := C_t0.2.1
  have I_n_t0 : Nq t0 n := ⟨(hI.2.1 rfl).1, (hI.2.1 rfl).2.1, (hI.2.1 rfl).2.2, hI.2.2.2 rfl⟩
  have m_n_t0 := I_n_t0.1
  have ht : t < 4096 := hI.1.1 (show 38 ≠ 42 by decide) (show 38 ≠ 48 by decide)
  have hdp : m_dp t0 = dlt 38 + sD r := hdp
  have hrw : m_rw t0 = rho 38 + sR r := hrw
  have hmd : m_md t0 + mu7 38 + sM r ≤ 3 * m_at t0 + 7 * r.length + 17 := hmd
  have hand : t &&& 1 ≤ 1 := Nat.and_le_right
  have h01 : (0 &&& 1 : Nat) = 0 := rfl
  have h02 : (1 : Nat) * 256 = 256 := rfl
  have hq1 : dlt 38 = 0 := rfl
  have hq2 : rho 38 = 0 := rfl
  have hq3 : mu7 38 = 2 := rfl
  unfold b_X6_step
  refine Ok_ifl (by decide) (by decide) (fun _ => ?_) (fun q => absurd (by decide) q)
  refine Ok_ifl (by decide) (by decide) (fun q => absurd q (by decide)) (fun _ => ?_)
  refine Ok_ifl (by decide) (by decide) (fun q => absurd q (by decide)) (fun _ => ?_)
  refine Ok_ifl (by decide) (by decide) (fun _ => ?_) (fun q => absurd (by decide) q)
  refine Ok_bnc ?_
  try unfold b_X6_declaring
  refine Ok_ck (by decide) ?_
  refine Ok_ife (by decide) (by decide) (fun q => absurd q (by decide)) (fun _ => ?_)
  refine Ok_ife (by decide) (by decide) (fun q => absurd q (by decide)) (fun _ => ?_)
  refine Ok_ife (by decide) (by decide) (fun q => absurd q (by decide)) (fun _ => ?_)
  refine Ok_ife (by decide) (by decide) (fun q => absurd q (by decide)) (fun _ => ?_)
  refine Ok_ife (by decide) (by decide) (fun q => absurd q (by decide)) (fun _ => ?_)
  refine Ok_ife (by decide) (by decide) (fun q => absurd q (by decide)) (fun _ => ?_)
  refine Ok_ife (by decide) (by decide) (fun q => absurd q (by decide)) (fun _ => ?_)
  refine Ok_ife (by decide) (by decide) (fun q => absurd q (by decide)) (fun _ => ?_)
  refine Ok_ife (by decide) (by decide) (fun q => absurd q (by decide)) (fun _ => ?_)
  refine Ok_ife (by decide) (by decide) (fun _ => ?_) (fun q => absurd (by decide) q)
  refine Ok_bnc ?_
  try unfold b_X6_block
  refine Kp_look C_t0 hT (by omega) ?_
  refine Ok_ife (Nat.lt_trans (lo_lt (C_t0.tk hT) _) (by decide)) (by decide) (fun q3 => ?_) (fun q3 => ?_)
  · refine Kp_child C_t0 I_n_t0.1 I_n_t0.2.1 I_n_t0.2.2.1 (by omega) (by omega) (by decide) (by decide) (fun t4 C_t4 X_t4 a_t4 b_t4 d_t4 w_t4 u_t4 v_t4 j_t4 l_t4 => ?_)
    have e_t4 := C_t4.2.2.2.1
    have I_n_t4 := I_n_t0.chd X_t4 j_t4
    have f_n_t4 : Fz t4 n := j_t4.2.2.2.2.1
    have I_m_mdt0_t4 : Nq t4 (m_md t0) := Nq.chn j_t4 (by omega) I_n_t0 (by decide)
    have u_m_mdt0_t4 : Up t4 (m_md t0) := Or.inl j_t4.2.1
    refine Kp_more C_t4 (by omega) (by omega) (fun t5 C_t5 X_t5 a_t5 b_t5 d_t5 w_t5 u_t5 v_t5 j_t5 l_t5 => ?_)
    have e_t5 := C_t5.2.2.2.1
    rcases w_t5 with ⟨w_t5, y_t5⟩ | ⟨w_t5, wb_t5⟩
    · rw [a_t4] at a_t5
      rw [b_t4] at b_t5
      rw [d_t4] at d_t5
      rw [w_t4] at w_t5
      rw [u_t4] at u_t5
      rw [v_t4] at v_t5
      rw [d_t5] at y_t5
      clear d_t4 w_t4 u_t4 v_t4 e_t4 a_t4 b_t4
      have I_n_t5 := I_n_t4.flat X_t5
      have f_n_t5 := f_n_t4.ex I_n_t4 (X_t5 0)
      have I_m_mdt0_t5 := I_m_mdt0_t4.flat X_t5
      have u_m_mdt0_t5 := u_m_mdt0_t4.ex I_m_mdt0_t4 (X_t5 0)
      have z_t6 : m_at t5 < m_ct t5 := lo_ne (Nat.ne_of_gt (show 0 < lo t5 (m_at t5) from by omega))
      refine Kp_at C_t5 (fun t6 C_t6 X_t6 a_t6 b_t6 d_t6 w_t6 u_t6 v_t6 j_t6 l_t6 => ?_)
      have e_t6 := C_t6.2.2.2.1
      rw [a_t5] at a_t6
      rw [b_t5] at b_t6
      rw [d_t5] at d_t6
      rw [w_t5] at w_t6
      rw [u_t5] at u_t6
      rw [v_t5] at v_t6
      rw [a_t5, e_t5] at z_t6
      clear d_t5 w_t5 u_t5 v_t5 e_t5 a_t5 b_t5
      have I_n_t6 := I_n_t5.flat X_t6
      have f_n_t6 := f_n_t5.ex I_n_t5 (X_t6 0)
      have I_m_mdt0_t6 := I_m_mdt0_t5.flat X_t6
      have u_m_mdt0_t6 := u_m_mdt0_t5.ex I_m_mdt0_t5 (X_t6 0)
      refine Kp_push C_t6 (by omega) (fun t7 C_t7 X_t7 a_t7 b_t7 d_t7 w_t7 u_t7 v_t7 j_t7 l_t7 => ?_)
      have e_t7 := C_t7.2.2.2.1
      rw [a_t6] at a_t7
      rw [b_t6] at b_t7
      rw [d_t6] at d_t7
      rw [w_t6] at w_t7
      rw [u_t6] at u_t7
      rw [v_t6] at v_t7
      clear d_t6 w_t6 u_t6 v_t6 e_t6 a_t6 b_t6
      have I_n_t7 := I_n_t6.flat X_t7
      have f_n_t7 := f_n_t6.ex I_n_t6 (X_t7 0)
      have I_m_mdt0_t7 := I_m_mdt0_t6.flat X_t7
      have u_m_mdt0_t7 := u_m_mdt0_t6.ex I_m_mdt0_t6 (X_t7 0)
      refine Kp_push C_t7 (by omega) (fun t8 C_t8 X_t8 a_t8 b_t8 d_t8 w_t8 u_t8 v_t8 j_t8 l_t8 => ?_)
      have e_t8 := C_t8.2.2.2.1
      rw [a_t7] at a_t8
      rw [b_t7] at b_t8
      rw [d_t7] at d_t8
      rw [w_t7] at w_t8
      rw [u_t7] at u_t8
      rw [v_t7] at v_t8
      clear d_t7 w_t7 u_t7 v_t7 e_t7 a_t7 b_t7
      have I_n_t8 := I_n_t7.flat X_t8
      have f_n_t8 := f_n_t7.ex I_n_t7 (X_t8 0)
      have I_m_mdt0_t8 := I_m_mdt0_t7.flat X_t8
      have u_m_mdt0_t8 := u_m_mdt0_t7.ex I_m_mdt0_t7 (X_t8 0)
      refine Ok_ret (show Ok _ _ _ from ?_)
      refine Ok_ret (show Ok _ _ _ from ?_)
      refine Hv_mk (Kv_c (x := (39, m_md t0, 0)) rfl (Kv_c (x := (8, 83, 0)) rfl hK)) (C_t8.1.2.2.2.2.2.2 hTt) C_t8 hT (by omega) (by omega) (by omega) ?_ ?_ ?_ (by omega) ?_ ?_ ?_
      · exact ⟨(Io_n (by decide) (by decide) I_m_mdt0_t8.1 I_m_mdt0_t8.2.1 I_m_mdt0_t8.2.2.1 (fun _ => u_m_mdt0_t8) (fun q => absurd q (by decide)) I_m_mdt0_t8.2.2.2), (Nd_0 (by decide) Mo_nil), ⟨(Io_78 (by decide) (by decide) (by decide)), (Nd_x (by decide)), Stk_step (N := n) (pop := (38, n, t)) (new := [(8, 83, 0), (39, m_md t0, 0)]) F0 C_t8.1.to2 (fun (h : nk 38 = false) => absurd h (by decide)) (fun q _ h => h (38, n, t) rfl) (fun _ => rfl) (fun y hy hk => ⟨rfl, (Mo_cons (fun q => absurd (show nk 8 = true from q) (by decide)) (Mo_cons (fun q => show n ≤ m_md t0 from by omega) Mo_nil)) y hy hk⟩) (fun (h : 38 = 3 ∨ 38 = 18 ∨ 38 = 41) => absurd h (by decide)) (fun (h : 38 = 18) => absurd h (by decide)) (fun (h : 38 = 41 ∨ 38 = 42 ∨ 38 = 43) => absurd h (by decide)) r [] (fun y hy => absurd hy List.not_mem_nil) hS⟩⟩
      · exact (Aj_up (x := (39, m_md t0, 0)) (Aj_sub (y := (8, 83, 0)) hJ (Nat.le_of_ble_eq_true rfl)) (Or.inl (Nat.le_of_ble_eq_true rfl)))
      · show m_dp t8 = (dlt 39 + (dlt 8 + sD r))
        have : dlt 38 = 0 := rfl; have : dlt 39 = 0 := rfl; have : dlt 8 = 1 := rfl; omega
      · show m_rw t8 = (rho 39 + (rho 8 + sR r))
        have : rho 38 = 0 := rfl; have : rho 39 = 0 := rfl; have : rho 8 = 0 := rfl; omega
      · show m_md t8 + (mu7 39 + (mu7 8 + sM r)) ≤ 3 * m_at t8 + 7 * (r.length + 1 + 1) + 10
        have : mu7 38 = 2 := rfl; have : mu7 39 = 7 := rfl; have : mu7 8 = 4 := rfl; omega
      · show (wt 39 + (wt 8 + sW r)) + 6 * (4096 - m_at t8) + 4 * (600 - (r.length + 1 + 1)) < (wt 38 + sW r) + 6 * (4096 - m_at t0) + 4 * (600 - (r.length + 1))
        have : wt 38 = 0 := rfl; have : wt 39 = 9 := rfl; have : wt 8 = 0 := rfl; omega
    · have w_t5 := Nat.pos_of_ne_zero w_t5
      have I_n_t5 := I_n_t4.flat X_t5
      have f_n_t5 := f_n_t4.ex I_n_t4 (X_t5 0)
      have I_m_mdt0_t5 := I_m_mdt0_t4.flat X_t5
      have u_m_mdt0_t5 := u_m_mdt0_t4.ex I_m_mdt0_t4 (X_t5 0)
      refine Kp_at C_t5 (fun t9 C_t9 X_t9 a_t9 b_t9 d_t9 w_t9 u_t9 v_t9 j_t9 l_t9 => ?_)
      have e_t9 := C_t9.2.2.2.1
      have I_n_t9 := I_n_t5.flat X_t9
      have f_n_t9 := f_n_t5.ex I_n_t5 (X_t9 0)
      have I_m_mdt0_t9 := I_m_mdt0_t5.flat X_t9
      have u_m_mdt0_t9 := u_m_mdt0_t5.ex I_m_mdt0_t5 (X_t9 0)
      refine Kp_push C_t9 (by omega) (fun t10 C_t10 X_t10 a_t10 b_t10 d_t10 w_t10 u_t10 v_t10 j_t10 l_t10 => ?_)
      have e_t10 := C_t10.2.2.2.1
      have I_n_t10 := I_n_t9.flat X_t10
      have f_n_t10 := f_n_t9.ex I_n_t9 (X_t10 0)
      have I_m_mdt0_t10 := I_m_mdt0_t9.flat X_t10
      have u_m_mdt0_t10 := u_m_mdt0_t9.ex I_m_mdt0_t9 (X_t10 0)
      refine Kp_push C_t10 (by omega) (fun t11 C_t11 X_t11 a_t11 b_t11 d_t11 w_t11 u_t11 v_t11 j_t11 l_t11 => ?_)
      have e_t11 := C_t11.2.2.2.1
      have I_n_t11 := I_n_t10.flat X_t11
      have f_n_t11 := f_n_t10.ex I_n_t10 (X_t11 0)
      have I_m_mdt0_t11 := I_m_mdt0_t10.flat X_t11
      have u_m_mdt0_t11 := u_m_mdt0_t10.ex I_m_mdt0_t10 (X_t11 0)
      refine Ok_ret (show Ok _ _ _ from ?_)
      refine Ok_ret (show Ok _ _ _ from ?_)
      exact Or.inl ⟨Nat.ne_of_gt (show 0 < m_wr t11 from by omega), by omega, by omega, C_t11.2.2.2.2.2, by omega⟩
  · refine Kp_error C_t0 (by omega) (fun t12 C_t12 X_t12 a_t12 b_t12 d_t12 w_t12 u_t12 v_t12 j_t12 l_t12 => ?_)
    have wb_t12 := w_t12.2
    have w_t12 := Nat.pos_of_ne_zero w_t12.1
    have e_t12 := C_t12.2.2.2.1
    have I_n_t12 := I_n_t0.flat X_t12
    refine Ok_ret (show Ok _ _ _ from ?_)
    refine Ok_ret (show Ok _ _ _ from ?_)
    exact Or.inl ⟨Nat.ne_of_gt (show 0 < m_wr t12 from by omega), by omega, by omega, C_t12.2.2.2.2.2, by omega⟩

theorem S_59 {E : Mm → Prop} : ∀ (f : Nat) {t0 : Mm} {n t : Nat} {r : List It} (H : Hp t0 (59, n, t) r), 31 ≤ f + m_dp t0 → Ok (Qh (mz t0 ((59, n, t) :: r))) E (St f n t0) := by
  intro f
  induction f with
  | zero => intro t0 n t r H hf; have := (Hp_out H).2.2.2.2.2.2.2.2.2.1; omega
  | succ f ih =>
    intro t0 n t r H hf
    obtain ⟨hK, hT, hc, hw0, ha, hC, hS, hJ, hdp, hdl, hrw, hmd, htd, hln, hm16, hI, hD, hTt⟩ := Hp_out H
    have C_t0 := hC n
    have F0 := C_t0.2.1
    have I_n_t0 : Nq t0 n := ⟨(hI.2.1 rfl).1, (hI.2.1 rfl).2.1, (hI.2.1 rfl).2.2, hI.2.2.2 rfl⟩
    have m_n_t0 := I_n_t0.1
    have ht : t < 4096 := hI.1.1 (show 59 ≠ 42 by decide) (show 59 ≠ 48 by decide)
    have hdp : m_dp t0 = dlt 59 + sD r := hdp
    have hrw : m_rw t0 = rho 59 + sR r := hrw
    have hmd : m_md t0 + mu7 59 + sM r ≤ 3 * m_at t0 + 7 * r.length + 17 := hmd
    have hand : t &&& 1 ≤ 1 := Nat.and_le_right
    have h01 : (0 &&& 1 : Nat) = 0 := rfl
    have h02 : (1 : Nat) * 256 = 256 := rfl
    have hq1 : dlt 59 = 0 := rfl
    have hq2 : rho 59 = 0 := rfl
    have hq3 : mu7 59 = 6 := rfl
    have u_n_t0 : Up t0 n := hI.2.2.1 rfl
    rw [St]
    unfold b_X6_statement
    refine Kp_look C_t0 hT (by omega) ?_
    refine Ok_ife (Nat.lt_trans (lo_lt (C_t0.tk hT) _) (by decide)) (by decide) (fun q1 => ?_) (fun q1 => ?_)
    · refine Ok_bnc ?_
      try unfold b_X6_declaration
      refine Kp_look C_t0 hT (by omega) ?_
      refine Ok_ife (Nat.lt_trans (lo_lt (C_t0.tk hT) _) (by decide)) (by decide) (fun q => ?_) (fun q => absurd q1 q)
      refine Kp_child C_t0 I_n_t0.1 I_n_t0.2.1 I_n_t0.2.2.1 (by omega) (by omega) (by decide) (by decide) (fun t3 C_t3 X_t3 a_t3 b_t3 d_t3 w_t3 u_t3 v_t3 j_t3 l_t3 => ?_)
      have e_t3 := C_t3.2.2.2.1
      have I_n_t3 := I_n_t0.chd X_t3 j_t3
      have u_n_t3 := u_n_t0.ex I_n_t0 (X_t3 0 (Nat.zero_le _))
      have f_n_t3 : Fz t3 n := j_t3.2.2.2.2.1
      have I_m_mdt0_t3 : Nq t3 (m_md t0) := Nq.chn j_t3 (by omega) I_n_t0 (by decide)
      have u_m_mdt0_t3 : Up t3 (m_md t0) := Or.inl j_t3.2.1
      have z_t4 : m_at t3 < m_ct t3 := lo_ne (Nat.ne_of_gt (show 0 < lo t3 (m_at t3) from by omega))
      refine Kp_at C_t3 (fun t4 C_t4 X_t4 a_t4 b_t4 d_t4 w_t4 u_t4 v_t4 j_t4 l_t4 => ?_)
      have e_t4 := C_t4.2.2.2.1
      rw [a_t3] at a_t4
      rw [b_t3] at b_t4
      rw [d_t3] at d_t4
      rw [w_t3] at w_t4
      rw [u_t3] at u_t4
      rw [v_t3] at v_t4
      rw [a_t3, e_t3] at z_t4
      clear d_t3 w_t3 u_t3 v_t3 e_t3 a_t3 b_t3
      have I_n_t4 := I_n_t3.flat X_t4
      have f_n_t4 := f_n_t3.ex I_n_t3 (X_t4 0)
      have u_n_t4 := u_n_t3.ex I_n_t3 (X_t4 0)
      have I_m_mdt0_t4 := I_m_mdt0_t3.flat X_t4
      have u_m_mdt0_t4 := u_m_mdt0_t3.ex I_m_mdt0_t3 (X_t4 0)
      refine Kp_look C_t4 hT (by omega) ?_
      refine Ok_ife (Nat.lt_trans (lo_lt (C_t4.tk hT) _) (by decide)) (by decide) (fun q5 => ?_) (fun q5 => ?_)
      · refine Kp_more C_t4 (by omega) (by omega) (fun t6 C_t6 X_t6 a_t6 b_t6 d_t6 w_t6 u_t6 v_t6 j_t6 l_t6 => ?_)
        have e_t6 := C_t6.2.2.2.1
        rcases w_t6 with ⟨w_t6, y_t6⟩ | ⟨w_t6, wb_t6⟩
        · rw [a_t4] at a_t6
          rw [b_t4] at b_t6
          rw [d_t4] at d_t6
          rw [w_t4] at w_t6
          rw [u_t4] at u_t6
          rw [v_t4] at v_t6
          rw [d_t6] at y_t6
          clear d_t4 w_t4 u_t4 v_t4 e_t4 a_t4 b_t4
          have I_n_t6 := I_n_t4.flat X_t6
          have f_n_t6 := f_n_t4.ex I_n_t4 (X_t6 0)
          have u_n_t6 := u_n_t4.ex I_n_t4 (X_t6 0)
          have I_m_mdt0_t6 := I_m_mdt0_t4.flat X_t6
          have u_m_mdt0_t6 := u_m_mdt0_t4.ex I_m_mdt0_t4 (X_t6 0)
          have z_t7 : m_at t6 < m_ct t6 := lo_ne (Nat.ne_of_gt (show 0 < lo t6 (m_at t6) from by omega))
          refine Kp_at C_t6 (fun t7 C_t7 X_t7 a_t7 b_t7 d_t7 w_t7 u_t7 v_t7 j_t7 l_t7 => ?_)
          have e_t7 := C_t7.2.2.2.1
          rw [a_t6] at a_t7
          rw [b_t6] at b_t7
          rw [d_t6] at d_t7
          rw [w_t6] at w_t7
          rw [u_t6] at u_t7
          rw [v_t6] at v_t7
          rw [a_t6, e_t6] at z_t7
          clear z_t4
          clear d_t6 w_t6 u_t6 v_t6 e_t6 a_t6 b_t6
          have I_n_t7 := I_n_t6.flat X_t7
          have f_n_t7 := f_n_t6.ex I_n_t6 (X_t7 0)
          have u_n_t7 := u_n_t6.ex I_n_t6 (X_t7 0)
          have I_m_mdt0_t7 := I_m_mdt0_t6.flat X_t7
          have u_m_mdt0_t7 := u_m_mdt0_t6.ex I_m_mdt0_t6 (X_t7 0)
          refine Kp_push C_t7 (by omega) (fun t8 C_t8 X_t8 a_t8 b_t8 d_t8 w_t8 u_t8 v_t8 j_t8 l_t8 => ?_)
          have e_t8 := C_t8.2.2.2.1
          rw [a_t7] at a_t8
          rw [b_t7] at b_t8
          rw [d_t7] at d_t8
          rw [w_t7] at w_t8
          rw [u_t7] at u_t8
          rw [v_t7] at v_t8
          clear d_t7 w_t7 u_t7 v_t7 e_t7 a_t7 b_t7
          have I_n_t8 := I_n_t7.flat X_t8
          have f_n_t8 := f_n_t7.ex I_n_t7 (X_t8 0)
          have u_n_t8 := u_n_t7.ex I_n_t7 (X_t8 0)
          have I_m_mdt0_t8 := I_m_mdt0_t7.flat X_t8
          have u_m_mdt0_t8 := u_m_mdt0_t7.ex I_m_mdt0_t7 (X_t8 0)
          refine Ok_ret (show Ok _ _ _ from ?_)
          refine Hv_mk (Kv_c (x := (34, m_md t0, 6)) rfl hK) (C_t8.1.2.2.2.2.2.2 hTt) C_t8 hT (by omega) (by omega) (by omega) ?_ ?_ ?_ (by omega) ?_ ?_ ?_
          · exact ⟨(Io_n (by decide) (by decide) I_m_mdt0_t8.1 I_m_mdt0_t8.2.1 I_m_mdt0_t8.2.2.1 (fun q => absurd q (by decide)) (fun _ => show 6 ≤ 8 from by omega) I_m_mdt0_t8.2.2.2), (Nd_0 (by decide) Mo_nil), Stk_step (N := n) (pop := (59, n, t)) (new := [(34, m_md t0, 6)]) F0 C_t8.1.to2 (fun (h : nk 59 = false) => absurd h (by decide)) (fun q _ h => h (59, n, t) rfl) (fun _ => rfl) (fun y hy hk => ⟨rfl, (Mo_cons (fun q => show n ≤ m_md t0 from by omega) Mo_nil) y hy hk⟩) (fun (h : 59 = 3 ∨ 59 = 18 ∨ 59 = 41) => absurd h (by decide)) (fun (h : 59 = 18) => absurd h (by decide)) (fun (h : 59 = 41 ∨ 59 = 42 ∨ 59 = 43) => absurd h (by decide)) r [] (fun y hy => absurd hy List.not_mem_nil) hS⟩
          · exact (Aj_sub (y := (34, m_md t0, 6)) hJ (Nat.le_of_ble_eq_true rfl))
          · show m_dp t8 = (dlt 34 + sD r)
            have : dlt 34 = 1 := rfl; have : dlt 59 = 0 := rfl; omega
          · show m_rw t8 = (rho 34 + sR r)
            have : rho 34 = 0 := rfl; have : rho 59 = 0 := rfl; omega
          · show m_md t8 + (mu7 34 + sM r) ≤ 3 * m_at t8 + 7 * (r.length + 1) + 10
            have : mu7 34 = 4 := rfl; have : mu7 59 = 6 := rfl; omega
          · show (wt 34 + sW r) + 6 * (4096 - m_at t8) + 4 * (600 - (r.length + 1)) < (wt 59 + sW r) + 6 * (4096 - m_at t0) + 4 * (600 - (r.length + 1))
            have : wt 34 = 0 := rfl; have : wt 59 = 7 := rfl; omega
        · have w_t6 := Nat.pos_of_ne_zero w_t6
          have I_n_t6 := I_n_t4.flat X_t6
          have f_n_t6 := f_n_t4.ex I_n_t4 (X_t6 0)
          have u_n_t6 := u_n_t4.ex I_n_t4 (X_t6 0)
          have I_m_mdt0_t6 := I_m_mdt0_t4.flat X_t6
          have u_m_mdt0_t6 := u_m_mdt0_t4.ex I_m_mdt0_t4 (X_t6 0)
          refine Kp_at C_t6 (fun t9 C_t9 X_t9 a_t9 b_t9 d_t9 w_t9 u_t9 v_t9 j_t9 l_t9 => ?_)
          have e_t9 := C_t9.2.2.2.1
          have I_n_t9 := I_n_t6.flat X_t9
          have f_n_t9 := f_n_t6.ex I_n_t6 (X_t9 0)
          have u_n_t9 := u_n_t6.ex I_n_t6 (X_t9 0)
          have I_m_mdt0_t9 := I_m_mdt0_t6.flat X_t9
          have u_m_mdt0_t9 := u_m_mdt0_t6.ex I_m_mdt0_t6 (X_t9 0)
          refine Kp_push C_t9 (by omega) (fun t10 C_t10 X_t10 a_t10 b_t10 d_t10 w_t10 u_t10 v_t10 j_t10 l_t10 => ?_)
          have e_t10 := C_t10.2.2.2.1
          have I_n_t10 := I_n_t9.flat X_t10
          have f_n_t10 := f_n_t9.ex I_n_t9 (X_t10 0)
          have u_n_t10 := u_n_t9.ex I_n_t9 (X_t10 0)
          have I_m_mdt0_t10 := I_m_mdt0_t9.flat X_t10
          have u_m_mdt0_t10 := u_m_mdt0_t9.ex I_m_mdt0_t9 (X_t10 0)
          refine Ok_ret (show Ok _ _ _ from ?_)
          exact Or.inl ⟨Nat.ne_of_gt (show 0 < m_wr t10 from by omega), by omega, by omega, C_t10.2.2.2.2.2, by omega⟩
      · refine Kp_push C_t4 (by omega) (fun t11 C_t11 X_t11 a_t11 b_t11 d_t11 w_t11 u_t11 v_t11 j_t11 l_t11 => ?_)
        have e_t11 := C_t11.2.2.2.1
        rw [a_t4] at a_t11
        rw [b_t4] at b_t11
        rw [d_t4] at d_t11
        rw [w_t4] at w_t11
        rw [u_t4] at u_t11
        rw [v_t4] at v_t11
        clear d_t4 w_t4 u_t4 v_t4 e_t4 a_t4 b_t4
        have I_n_t11 := I_n_t4.flat X_t11
        have f_n_t11 := f_n_t4.ex I_n_t4 (X_t11 0)
        have u_n_t11 := u_n_t4.ex I_n_t4 (X_t11 0)
        have I_m_mdt0_t11 := I_m_mdt0_t4.flat X_t11
        have u_m_mdt0_t11 := u_m_mdt0_t4.ex I_m_mdt0_t4 (X_t11 0)
        refine Ok_ret (show Ok _ _ _ from ?_)
        refine Hv_mk (Kv_c (x := (33, m_md t0, 6)) rfl hK) (C_t11.1.2.2.2.2.2.2 hTt) C_t11 hT (by omega) (by omega) (by omega) ?_ ?_ ?_ (by omega) ?_ ?_ ?_
        · exact ⟨(Io_n (by decide) (by decide) I_m_mdt0_t11.1 I_m_mdt0_t11.2.1 I_m_mdt0_t11.2.2.1 (fun q => absurd q (by decide)) (fun _ => show 6 ≤ 8 from by omega) I_m_mdt0_t11.2.2.2), (Nd_0 (by decide) Mo_nil), Stk_step (N := n) (pop := (59, n, t)) (new := [(33, m_md t0, 6)]) F0 C_t11.1.to2 (fun (h : nk 59 = false) => absurd h (by decide)) (fun q _ h => h (59, n, t) rfl) (fun _ => rfl) (fun y hy hk => ⟨rfl, (Mo_cons (fun q => show n ≤ m_md t0 from by omega) Mo_nil) y hy hk⟩) (fun (h : 59 = 3 ∨ 59 = 18 ∨ 59 = 41) => absurd h (by decide)) (fun (h : 59 = 18) => absurd h (by decide)) (fun (h : 59 = 41 ∨ 59 = 42 ∨ 59 = 43) => absurd h (by decide)) r [] (fun y hy => absurd hy List.not_mem_nil) hS⟩
        · exact (Aj_sub (y := (33, m_md t0, 6)) hJ (Nat.le_of_ble_eq_true rfl))
        · show m_dp t11 = (dlt 33 + sD r)
          have : dlt 33 = 0 := rfl; have : dlt 59 = 0 := rfl; omega
        · show m_rw t11 = (rho 33 + sR r)
          have : rho 33 = 0 := rfl; have : rho 59 = 0 := rfl; omega
        · show m_md t11 + (mu7 33 + sM r) ≤ 3 * m_at t11 + 7 * (r.length + 1) + 10
          have : mu7 33 = 7 := rfl; have : mu7 59 = 6 := rfl; omega
        · show (wt 33 + sW r) + 6 * (4096 - m_at t11) + 4 * (600 - (r.length + 1)) < (wt 59 + sW r) + 6 * (4096 - m_at t0) + 4 * (600 - (r.length + 1))
          have : wt 33 = 2 := rfl; have : wt 59 = 7 := rfl; omega
    · refine Ok_ife (Nat.lt_trans (lo_lt (C_t0.tk hT) _) (by decide)) (by decide) (fun q12 => ?_) (fun q12 => ?_)
      · refine Ok_bnc ?_
        try unfold b_X6_declaration
        refine Kp_look C_t0 hT (by omega) ?_
        refine Ok_ife (Nat.lt_trans (lo_lt (C_t0.tk hT) _) (by decide)) (by decide) (fun q => absurd q q1) (fun q => ?_)
        refine Kp_look C_t0 hT (by omega) ?_
        refine Ok_ife (Nat.lt_trans (lo_lt (C_t0.tk hT) _) (by decide)) (by decide) (fun q => ?_) (fun q => absurd q12 q)
        refine Kp_child C_t0 I_n_t0.1 I_n_t0.2.1 I_n_t0.2.2.1 (by omega) (by omega) (by decide) (by decide) (fun t14 C_t14 X_t14 a_t14 b_t14 d_t14 w_t14 u_t14 v_t14 j_t14 l_t14 => ?_)
        have e_t14 := C_t14.2.2.2.1
        have I_n_t14 := I_n_t0.chd X_t14 j_t14
        have u_n_t14 := u_n_t0.ex I_n_t0 (X_t14 0 (Nat.zero_le _))
        have f_n_t14 : Fz t14 n := j_t14.2.2.2.2.1
        have I_m_mdt0_t14 : Nq t14 (m_md t0) := Nq.chn j_t14 (by omega) I_n_t0 (by decide)
        have u_m_mdt0_t14 : Up t14 (m_md t0) := Or.inl j_t14.2.1
        have z_t15 : m_at t14 < m_ct t14 := lo_ne (Nat.ne_of_gt (show 0 < lo t14 (m_at t14) from by omega))
        refine Kp_at C_t14 (fun t15 C_t15 X_t15 a_t15 b_t15 d_t15 w_t15 u_t15 v_t15 j_t15 l_t15 => ?_)
        have e_t15 := C_t15.2.2.2.1
        rw [a_t14] at a_t15
        rw [b_t14] at b_t15
        rw [d_t14] at d_t15
        rw [w_t14] at w_t15
        rw [u_t14] at u_t15
        rw [v_t14] at v_t15
        rw [a_t14, e_t14] at z_t15
        clear d_t14 w_t14 u_t14 v_t14 e_t14 a_t14 b_t14
        have I_n_t15 := I_n_t14.flat X_t15
        have f_n_t15 := f_n_t14.ex I_n_t14 (X_t15 0)
        have u_n_t15 := u_n_t14.ex I_n_t14 (X_t15 0)
        have I_m_mdt0_t15 := I_m_mdt0_t14.flat X_t15
        have u_m_mdt0_t15 := u_m_mdt0_t14.ex I_m_mdt0_t14 (X_t15 0)
        refine Kp_look C_t15 hT (by omega) ?_
        refine Ok_ife (Nat.lt_trans (lo_lt (C_t15.tk hT) _) (by decide)) (by decide) (fun q16 => ?_) (fun q16 => ?_)
        · refine Kp_more C_t15 (by omega) (by omega) (fun t17 C_t17 X_t17 a_t17 b_t17 d_t17 w_t17 u_t17 v_t17 j_t17 l_t17 => ?_)
          have e_t17 := C_t17.2.2.2.1
          rcases w_t17 with ⟨w_t17, y_t17⟩ | ⟨w_t17, wb_t17⟩
          · rw [a_t15] at a_t17
            rw [b_t15] at b_t17
            rw [d_t15] at d_t17
            rw [w_t15] at w_t17
            rw [u_t15] at u_t17
            rw [v_t15] at v_t17
            rw [d_t17] at y_t17
            clear d_t15 w_t15 u_t15 v_t15 e_t15 a_t15 b_t15
            have I_n_t17 := I_n_t15.flat X_t17
            have f_n_t17 := f_n_t15.ex I_n_t15 (X_t17 0)
            have u_n_t17 := u_n_t15.ex I_n_t15 (X_t17 0)
            have I_m_mdt0_t17 := I_m_mdt0_t15.flat X_t17
            have u_m_mdt0_t17 := u_m_mdt0_t15.ex I_m_mdt0_t15 (X_t17 0)
            have z_t18 : m_at t17 < m_ct t17 := lo_ne (Nat.ne_of_gt (show 0 < lo t17 (m_at t17) from by omega))
            refine Kp_at C_t17 (fun t18 C_t18 X_t18 a_t18 b_t18 d_t18 w_t18 u_t18 v_t18 j_t18 l_t18 => ?_)
            have e_t18 := C_t18.2.2.2.1
            rw [a_t17] at a_t18
            rw [b_t17] at b_t18
            rw [d_t17] at d_t18
            rw [w_t17] at w_t18
            rw [u_t17] at u_t18
            rw [v_t17] at v_t18
            rw [a_t17, e_t17] at z_t18
            clear z_t15
            clear d_t17 w_t17 u_t17 v_t17 e_t17 a_t17 b_t17
            have I_n_t18 := I_n_t17.flat X_t18
            have f_n_t18 := f_n_t17.ex I_n_t17 (X_t18 0)
            have u_n_t18 := u_n_t17.ex I_n_t17 (X_t18 0)
            have I_m_mdt0_t18 := I_m_mdt0_t17.flat X_t18
            have u_m_mdt0_t18 := u_m_mdt0_t17.ex I_m_mdt0_t17 (X_t18 0)
            refine Kp_push C_t18 (by omega) (fun t19 C_t19 X_t19 a_t19 b_t19 d_t19 w_t19 u_t19 v_t19 j_t19 l_t19 => ?_)
            have e_t19 := C_t19.2.2.2.1
            rw [a_t18] at a_t19
            rw [b_t18] at b_t19
            rw [d_t18] at d_t19
            rw [w_t18] at w_t19
            rw [u_t18] at u_t19
            rw [v_t18] at v_t19
            clear d_t18 w_t18 u_t18 v_t18 e_t18 a_t18 b_t18
            have I_n_t19 := I_n_t18.flat X_t19
            have f_n_t19 := f_n_t18.ex I_n_t18 (X_t19 0)
            have u_n_t19 := u_n_t18.ex I_n_t18 (X_t19 0)
            have I_m_mdt0_t19 := I_m_mdt0_t18.flat X_t19
            have u_m_mdt0_t19 := u_m_mdt0_t18.ex I_m_mdt0_t18 (X_t19 0)
            refine Ok_ret (show Ok _ _ _ from ?_)
            refine Hv_mk (Kv_c (x := (34, m_md t0, 7)) rfl hK) (C_t19.1.2.2.2.2.2.2 hTt) C_t19 hT (by omega) (by omega) (by omega) ?_ ?_ ?_ (by omega) ?_ ?_ ?_
            · exact ⟨(Io_n (by decide) (by decide) I_m_mdt0_t19.1 I_m_mdt0_t19.2.1 I_m_mdt0_t19.2.2.1 (fun q => absurd q (by decide)) (fun _ => show 7 ≤ 8 from by omega) I_m_mdt0_t19.2.2.2), (Nd_0 (by decide) Mo_nil), Stk_step (N := n) (pop := (59, n, t)) (new := [(34, m_md t0, 7)]) F0 C_t19.1.to2 (fun (h : nk 59 = false) => absurd h (by decide)) (fun q _ h => h (59, n, t) rfl) (fun _ => rfl) (fun y hy hk => ⟨rfl, (Mo_cons (fun q => show n ≤ m_md t0 from by omega) Mo_nil) y hy hk⟩) (fun (h : 59 = 3 ∨ 59 = 18 ∨ 59 = 41) => absurd h (by decide)) (fun (h : 59 = 18) => absurd h (by decide)) (fun (h : 59 = 41 ∨ 59 = 42 ∨ 59 = 43) => absurd h (by decide)) r [] (fun y hy => absurd hy List.not_mem_nil) hS⟩
            · exact (Aj_sub (y := (34, m_md t0, 7)) hJ (Nat.le_of_ble_eq_true rfl))
            · show m_dp t19 = (dlt 34 + sD r)
              have : dlt 34 = 1 := rfl; have : dlt 59 = 0 := rfl; omega
            · show m_rw t19 = (rho 34 + sR r)
              have : rho 34 = 0 := rfl; have : rho 59 = 0 := rfl; omega
            · show m_md t19 + (mu7 34 + sM r) ≤ 3 * m_at t19 + 7 * (r.length + 1) + 10
              have : mu7 34 = 4 := rfl; have : mu7 59 = 6 := rfl; omega
            · show (wt 34 + sW r) + 6 * (4096 - m_at t19) + 4 * (600 - (r.length + 1)) < (wt 59 + sW r) + 6 * (4096 - m_at t0) + 4 * (600 - (r.length + 1))
              have : wt 34 = 0 := rfl; have : wt 59 = 7 := rfl; omega
          · have w_t17 := Nat.pos_of_ne_zero w_t17
            have I_n_t17 := I_n_t15.flat X_t17
            have f_n_t17 := f_n_t15.ex I_n_t15 (X_t17 0)
            have u_n_t17 := u_n_t15.ex I_n_t15 (X_t17 0)
            have I_m_mdt0_t17 := I_m_mdt0_t15.flat X_t17
            have u_m_mdt0_t17 := u_m_mdt0_t15.ex I_m_mdt0_t15 (X_t17 0)
            refine Kp_at C_t17 (fun t20 C_t20 X_t20 a_t20 b_t20 d_t20 w_t20 u_t20 v_t20 j_t20 l_t20 => ?_)
            have e_t20 := C_t20.2.2.2.1
            have I_n_t20 := I_n_t17.flat X_t20
            have f_n_t20 := f_n_t17.ex I_n_t17 (X_t20 0)
            have u_n_t20 := u_n_t17.ex I_n_t17 (X_t20 0)
            have I_m_mdt0_t20 := I_m_mdt0_t17.flat X_t20
            have u_m_mdt0_t20 := u_m_mdt0_t17.ex I_m_mdt0_t17 (X_t20 0)
            refine Kp_push C_t20 (by omega) (fun t21 C_t21 X_t21 a_t21 b_t21 d_t21 w_t21 u_t21 v_t21 j_t21 l_t21 => ?_)
            have e_t21 := C_t21.2.2.2.1
            have I_n_t21 := I_n_t20.flat X_t21
            have f_n_t21 := f_n_t20.ex I_n_t20 (X_t21 0)
            have u_n_t21 := u_n_t20.ex I_n_t20 (X_t21 0)
            have I_m_mdt0_t21 := I_m_mdt0_t20.flat X_t21
            have u_m_mdt0_t21 := u_m_mdt0_t20.ex I_m_mdt0_t20 (X_t21 0)
            refine Ok_ret (show Ok _ _ _ from ?_)
            exact Or.inl ⟨Nat.ne_of_gt (show 0 < m_wr t21 from by omega), by omega, by omega, C_t21.2.2.2.2.2, by omega⟩
        · refine Kp_push C_t15 (by omega) (fun t22 C_t22 X_t22 a_t22 b_t22 d_t22 w_t22 u_t22 v_t22 j_t22 l_t22 => ?_)
          have e_t22 := C_t22.2.2.2.1
          rw [a_t15] at a_t22
          rw [b_t15] at b_t22
          rw [d_t15] at d_t22
          rw [w_t15] at w_t22
          rw [u_t15] at u_t22
          rw [v_t15] at v_t22
          clear d_t15 w_t15 u_t15 v_t15 e_t15 a_t15 b_t15
          have I_n_t22 := I_n_t15.flat X_t22
          have f_n_t22 := f_n_t15.ex I_n_t15 (X_t22 0)
          have u_n_t22 := u_n_t15.ex I_n_t15 (X_t22 0)
          have I_m_mdt0_t22 := I_m_mdt0_t15.flat X_t22
          have u_m_mdt0_t22 := u_m_mdt0_t15.ex I_m_mdt0_t15 (X_t22 0)
          refine Ok_ret (show Ok _ _ _ from ?_)
          refine Hv_mk (Kv_c (x := (33, m_md t0, 7)) rfl hK) (C_t22.1.2.2.2.2.2.2 hTt) C_t22 hT (by omega) (by omega) (by omega) ?_ ?_ ?_ (by omega) ?_ ?_ ?_
          · exact ⟨(Io_n (by decide) (by decide) I_m_mdt0_t22.1 I_m_mdt0_t22.2.1 I_m_mdt0_t22.2.2.1 (fun q => absurd q (by decide)) (fun _ => show 7 ≤ 8 from by omega) I_m_mdt0_t22.2.2.2), (Nd_0 (by decide) Mo_nil), Stk_step (N := n) (pop := (59, n, t)) (new := [(33, m_md t0, 7)]) F0 C_t22.1.to2 (fun (h : nk 59 = false) => absurd h (by decide)) (fun q _ h => h (59, n, t) rfl) (fun _ => rfl) (fun y hy hk => ⟨rfl, (Mo_cons (fun q => show n ≤ m_md t0 from by omega) Mo_nil) y hy hk⟩) (fun (h : 59 = 3 ∨ 59 = 18 ∨ 59 = 41) => absurd h (by decide)) (fun (h : 59 = 18) => absurd h (by decide)) (fun (h : 59 = 41 ∨ 59 = 42 ∨ 59 = 43) => absurd h (by decide)) r [] (fun y hy => absurd hy List.not_mem_nil) hS⟩
          · exact (Aj_sub (y := (33, m_md t0, 7)) hJ (Nat.le_of_ble_eq_true rfl))
          · show m_dp t22 = (dlt 33 + sD r)
            have : dlt 33 = 0 := rfl; have : dlt 59 = 0 := rfl; omega
          · show m_rw t22 = (rho 33 + sR r)
            have : rho 33 = 0 := rfl; have : rho 59 = 0 := rfl; omega
          · show m_md t22 + (mu7 33 + sM r) ≤ 3 * m_at t22 + 7 * (r.length + 1) + 10
            have : mu7 33 = 7 := rfl; have : mu7 59 = 6 := rfl; omega
          · show (wt 33 + sW r) + 6 * (4096 - m_at t22) + 4 * (600 - (r.length + 1)) < (wt 59 + sW r) + 6 * (4096 - m_at t0) + 4 * (600 - (r.length + 1))
            have : wt 33 = 2 := rfl; have : wt 59 = 7 := rfl; omega
      · refine Ok_ife (Nat.lt_trans (lo_lt (C_t0.tk hT) _) (by decide)) (by decide) (fun q23 => ?_) (fun q23 => ?_)
        · refine Ok_bnc ?_
          try unfold b_X6_declaration
          refine Kp_look C_t0 hT (by omega) ?_
          refine Ok_ife (Nat.lt_trans (lo_lt (C_t0.tk hT) _) (by decide)) (by decide) (fun q => absurd q q1) (fun q => ?_)
          refine Kp_look C_t0 hT (by omega) ?_
          refine Ok_ife (Nat.lt_trans (lo_lt (C_t0.tk hT) _) (by decide)) (by decide) (fun q => absurd q q12) (fun q => ?_)
          refine Kp_child C_t0 I_n_t0.1 I_n_t0.2.1 I_n_t0.2.2.1 (by omega) (by omega) (by decide) (by decide) (fun t25 C_t25 X_t25 a_t25 b_t25 d_t25 w_t25 u_t25 v_t25 j_t25 l_t25 => ?_)
          have e_t25 := C_t25.2.2.2.1
          have I_n_t25 := I_n_t0.chd X_t25 j_t25
          have u_n_t25 := u_n_t0.ex I_n_t0 (X_t25 0 (Nat.zero_le _))
          have f_n_t25 : Fz t25 n := j_t25.2.2.2.2.1
          have I_m_mdt0_t25 : Nq t25 (m_md t0) := Nq.chn j_t25 (by omega) I_n_t0 (by decide)
          have u_m_mdt0_t25 : Up t25 (m_md t0) := Or.inl j_t25.2.1
          have z_t26 : m_at t25 < m_ct t25 := lo_ne (Nat.ne_of_gt (show 0 < lo t25 (m_at t25) from by omega))
          refine Kp_at C_t25 (fun t26 C_t26 X_t26 a_t26 b_t26 d_t26 w_t26 u_t26 v_t26 j_t26 l_t26 => ?_)
          have e_t26 := C_t26.2.2.2.1
          rw [a_t25] at a_t26
          rw [b_t25] at b_t26
          rw [d_t25] at d_t26
          rw [w_t25] at w_t26
          rw [u_t25] at u_t26
          rw [v_t25] at v_t26
          rw [a_t25, e_t25] at z_t26
          clear d_t25 w_t25 u_t25 v_t25 e_t25 a_t25 b_t25
          have I_n_t26 := I_n_t25.flat X_t26
          have f_n_t26 := f_n_t25.ex I_n_t25 (X_t26 0)
          have u_n_t26 := u_n_t25.ex I_n_t25 (X_t26 0)
          have I_m_mdt0_t26 := I_m_mdt0_t25.flat X_t26
          have u_m_mdt0_t26 := u_m_mdt0_t25.ex I_m_mdt0_t25 (X_t26 0)
          refine Kp_look C_t26 hT (by omega) ?_
          refine Ok_ife (Nat.lt_trans (lo_lt (C_t26.tk hT) _) (by decide)) (by decide) (fun q27 => ?_) (fun q27 => ?_)
          · refine Kp_more C_t26 (by omega) (by omega) (fun t28 C_t28 X_t28 a_t28 b_t28 d_t28 w_t28 u_t28 v_t28 j_t28 l_t28 => ?_)
            have e_t28 := C_t28.2.2.2.1
            rcases w_t28 with ⟨w_t28, y_t28⟩ | ⟨w_t28, wb_t28⟩
            · rw [a_t26] at a_t28
              rw [b_t26] at b_t28
              rw [d_t26] at d_t28
              rw [w_t26] at w_t28
              rw [u_t26] at u_t28
              rw [v_t26] at v_t28
              rw [d_t28] at y_t28
              clear d_t26 w_t26 u_t26 v_t26 e_t26 a_t26 b_t26
              have I_n_t28 := I_n_t26.flat X_t28
              have f_n_t28 := f_n_t26.ex I_n_t26 (X_t28 0)
              have u_n_t28 := u_n_t26.ex I_n_t26 (X_t28 0)
              have I_m_mdt0_t28 := I_m_mdt0_t26.flat X_t28
              have u_m_mdt0_t28 := u_m_mdt0_t26.ex I_m_mdt0_t26 (X_t28 0)
              have z_t29 : m_at t28 < m_ct t28 := lo_ne (Nat.ne_of_gt (show 0 < lo t28 (m_at t28) from by omega))
              refine Kp_at C_t28 (fun t29 C_t29 X_t29 a_t29 b_t29 d_t29 w_t29 u_t29 v_t29 j_t29 l_t29 => ?_)
              have e_t29 := C_t29.2.2.2.1
              rw [a_t28] at a_t29
              rw [b_t28] at b_t29
              rw [d_t28] at d_t29
              rw [w_t28] at w_t29
              rw [u_t28] at u_t29
              rw [v_t28] at v_t29
              rw [a_t28, e_t28] at z_t29
              clear z_t26
              clear d_t28 w_t28 u_t28 v_t28 e_t28 a_t28 b_t28
              have I_n_t29 := I_n_t28.flat X_t29
              have f_n_t29 := f_n_t28.ex I_n_t28 (X_t29 0)
              have u_n_t29 := u_n_t28.ex I_n_t28 (X_t29 0)
              have I_m_mdt0_t29 := I_m_mdt0_t28.flat X_t29
              have u_m_mdt0_t29 := u_m_mdt0_t28.ex I_m_mdt0_t28 (X_t29 0)
              refine Kp_push C_t29 (by omega) (fun t30 C_t30 X_t30 a_t30 b_t30 d_t30 w_t30 u_t30 v_t30 j_t30 l_t30 => ?_)
              have e_t30 := C_t30.2.2.2.1
              rw [a_t29] at a_t30
              rw [b_t29] at b_t30
              rw [d_t29] at d_t30
              rw [w_t29] at w_t30
              rw [u_t29] at u_t30
              rw [v_t29] at v_t30
              clear d_t29 w_t29 u_t29 v_t29 e_t29 a_t29 b_t29
              have I_n_t30 := I_n_t29.flat X_t30
              have f_n_t30 := f_n_t29.ex I_n_t29 (X_t30 0)
              have u_n_t30 := u_n_t29.ex I_n_t29 (X_t30 0)
              have I_m_mdt0_t30 := I_m_mdt0_t29.flat X_t30
              have u_m_mdt0_t30 := u_m_mdt0_t29.ex I_m_mdt0_t29 (X_t30 0)
              refine Ok_ret (show Ok _ _ _ from ?_)
              refine Hv_mk (Kv_c (x := (34, m_md t0, 8)) rfl hK) (C_t30.1.2.2.2.2.2.2 hTt) C_t30 hT (by omega) (by omega) (by omega) ?_ ?_ ?_ (by omega) ?_ ?_ ?_
              · exact ⟨(Io_n (by decide) (by decide) I_m_mdt0_t30.1 I_m_mdt0_t30.2.1 I_m_mdt0_t30.2.2.1 (fun q => absurd q (by decide)) (fun _ => show 8 ≤ 8 from by omega) I_m_mdt0_t30.2.2.2), (Nd_0 (by decide) Mo_nil), Stk_step (N := n) (pop := (59, n, t)) (new := [(34, m_md t0, 8)]) F0 C_t30.1.to2 (fun (h : nk 59 = false) => absurd h (by decide)) (fun q _ h => h (59, n, t) rfl) (fun _ => rfl) (fun y hy hk => ⟨rfl, (Mo_cons (fun q => show n ≤ m_md t0 from by omega) Mo_nil) y hy hk⟩) (fun (h : 59 = 3 ∨ 59 = 18 ∨ 59 = 41) => absurd h (by decide)) (fun (h : 59 = 18) => absurd h (by decide)) (fun (h : 59 = 41 ∨ 59 = 42 ∨ 59 = 43) => absurd h (by decide)) r [] (fun y hy => absurd hy List.not_mem_nil) hS⟩
              · exact (Aj_sub (y := (34, m_md t0, 8)) hJ (Nat.le_of_ble_eq_true rfl))
              · show m_dp t30 = (dlt 34 + sD r)
                have : dlt 34 = 1 := rfl; have : dlt 59 = 0 := rfl; omega
              · show m_rw t30 = (rho 34 + sR r)
                have : rho 34 = 0 := rfl; have : rho 59 = 0 := rfl; omega
              · show m_md t30 + (mu7 34 + sM r) ≤ 3 * m_at t30 + 7 * (r.length + 1) + 10
                have : mu7 34 = 4 := rfl; have : mu7 59 = 6 := rfl; omega
              · show (wt 34 + sW r) + 6 * (4096 - m_at t30) + 4 * (600 - (r.length + 1)) < (wt 59 + sW r) + 6 * (4096 - m_at t0) + 4 * (600 - (r.length + 1))
                have : wt 34 = 0 := rfl; have : wt 59 = 7 := rfl; omega
            · have w_t28 := Nat.pos_of_ne_zero w_t28
              have I_n_t28 := I_n_t26.flat X_t28
              have f_n_t28 := f_n_t26.ex I_n_t26 (X_t28 0)
              have u_n_t28 := u_n_t26.ex I_n_t26 (X_t28 0)
              have I_m_mdt0_t28 := I_m_mdt0_t26.flat X_t28
              have u_m_mdt0_t28 := u_m_mdt0_t26.ex I_m_mdt0_t26 (X_t28 0)
              refine Kp_at C_t28 (fun t31 C_t31 X_t31 a_t31 b_t31 d_t31 w_t31 u_t31 v_t31 j_t31 l_t31 => ?_)
              have e_t31 := C_t31.2.2.2.1
              have I_n_t31 := I_n_t28.flat X_t31
              have f_n_t31 := f_n_t28.ex I_n_t28 (X_t31 0)
              have u_n_t31 := u_n_t28.ex I_n_t28 (X_t31 0)
              have I_m_mdt0_t31 := I_m_mdt0_t28.flat X_t31
              have u_m_mdt0_t31 := u_m_mdt0_t28.ex I_m_mdt0_t28 (X_t31 0)
              refine Kp_push C_t31 (by omega) (fun t32 C_t32 X_t32 a_t32 b_t32 d_t32 w_t32 u_t32 v_t32 j_t32 l_t32 => ?_)
              have e_t32 := C_t32.2.2.2.1
              have I_n_t32 := I_n_t31.flat X_t32
              have f_n_t32 := f_n_t31.ex I_n_t31 (X_t32 0)
              have u_n_t32 := u_n_t31.ex I_n_t31 (X_t32 0)
              have I_m_mdt0_t32 := I_m_mdt0_t31.flat X_t32
              have u_m_mdt0_t32 := u_m_mdt0_t31.ex I_m_mdt0_t31 (X_t32 0)
              refine Ok_ret (show Ok _ _ _ from ?_)
              exact Or.inl ⟨Nat.ne_of_gt (show 0 < m_wr t32 from by omega), by omega, by omega, C_t32.2.2.2.2.2, by omega⟩
          · refine Kp_push C_t26 (by omega) (fun t33 C_t33 X_t33 a_t33 b_t33 d_t33 w_t33 u_t33 v_t33 j_t33 l_t33 => ?_)
            have e_t33 := C_t33.2.2.2.1
            rw [a_t26] at a_t33
            rw [b_t26] at b_t33
            rw [d_t26] at d_t33
            rw [w_t26] at w_t33
            rw [u_t26] at u_t33
            rw [v_t26] at v_t33
            clear d_t26 w_t26 u_t26 v_t26 e_t26 a_t26 b_t26
            have I_n_t33 := I_n_t26.flat X_t33
            have f_n_t33 := f_n_t26.ex I_n_t26 (X_t33 0)
            have u_n_t33 := u_n_t26.ex I_n_t26 (X_t33 0)
            have I_m_mdt0_t33 := I_m_mdt0_t26.flat X_t33
            have u_m_mdt0_t33 := u_m_mdt0_t26.ex I_m_mdt0_t26 (X_t33 0)
            refine Ok_ret (show Ok _ _ _ from ?_)
            refine Hv_mk (Kv_c (x := (33, m_md t0, 8)) rfl hK) (C_t33.1.2.2.2.2.2.2 hTt) C_t33 hT (by omega) (by omega) (by omega) ?_ ?_ ?_ (by omega) ?_ ?_ ?_
            · exact ⟨(Io_n (by decide) (by decide) I_m_mdt0_t33.1 I_m_mdt0_t33.2.1 I_m_mdt0_t33.2.2.1 (fun q => absurd q (by decide)) (fun _ => show 8 ≤ 8 from by omega) I_m_mdt0_t33.2.2.2), (Nd_0 (by decide) Mo_nil), Stk_step (N := n) (pop := (59, n, t)) (new := [(33, m_md t0, 8)]) F0 C_t33.1.to2 (fun (h : nk 59 = false) => absurd h (by decide)) (fun q _ h => h (59, n, t) rfl) (fun _ => rfl) (fun y hy hk => ⟨rfl, (Mo_cons (fun q => show n ≤ m_md t0 from by omega) Mo_nil) y hy hk⟩) (fun (h : 59 = 3 ∨ 59 = 18 ∨ 59 = 41) => absurd h (by decide)) (fun (h : 59 = 18) => absurd h (by decide)) (fun (h : 59 = 41 ∨ 59 = 42 ∨ 59 = 43) => absurd h (by decide)) r [] (fun y hy => absurd hy List.not_mem_nil) hS⟩
            · exact (Aj_sub (y := (33, m_md t0, 8)) hJ (Nat.le_of_ble_eq_true rfl))
            · show m_dp t33 = (dlt 33 + sD r)
              have : dlt 33 = 0 := rfl; have : dlt 59 = 0 := rfl; omega
            · show m_rw t33 = (rho 33 + sR r)
              have : rho 33 = 0 := rfl; have : rho 59 = 0 := rfl; omega
            · show m_md t33 + (mu7 33 + sM r) ≤ 3 * m_at t33 + 7 * (r.length + 1) + 10
              have : mu7 33 = 7 := rfl; have : mu7 59 = 6 := rfl; omega
            · show (wt 33 + sW r) + 6 * (4096 - m_at t33) + 4 * (600 - (r.length + 1)) < (wt 59 + sW r) + 6 * (4096 - m_at t0) + 4 * (600 - (r.length + 1))
              have : wt 33 = 2 := rfl; have : wt 59 = 7 := rfl; omega
        · refine Ok_ife (Nat.lt_trans (lo_lt (C_t0.tk hT) _) (by decide)) (by decide) (fun q34 => ?_) (fun q34 => ?_)
          · refine Kp_ahead C_t0 hT (by omega) ?_
            refine Ok_ife (Nat.lt_trans (lo_lt (C_t0.tk hT) _) (by decide)) (by decide) (fun q35 => ?_) (fun q35 => ?_)
            · refine Kp_child C_t0 I_n_t0.1 I_n_t0.2.1 I_n_t0.2.2.1 (by omega) (by omega) (by decide) (by decide) (fun t36 C_t36 X_t36 a_t36 b_t36 d_t36 w_t36 u_t36 v_t36 j_t36 l_t36 => ?_)
              have e_t36 := C_t36.2.2.2.1
              have I_n_t36 := I_n_t0.chd X_t36 j_t36
              have u_n_t36 := u_n_t0.ex I_n_t0 (X_t36 0 (Nat.zero_le _))
              have f_n_t36 : Fz t36 n := j_t36.2.2.2.2.1
              have I_m_mdt0_t36 : Nq t36 (m_md t0) := Nq.chn j_t36 (by omega) I_n_t0 (by decide)
              have u_m_mdt0_t36 : Up t36 (m_md t0) := Or.inl j_t36.2.1
              refine Ok_bnc ?_
              try unfold b_X6_name
              refine Kp_look C_t36 hT (by omega) ?_
              refine Ok_ife (Nat.lt_trans (lo_lt (C_t36.tk hT) _) (by decide)) (by decide) (fun q38 => ?_) (fun q38 => ?_)
              · refine Kp_child C_t36 I_m_mdt0_t36.1 I_m_mdt0_t36.2.1 I_m_mdt0_t36.2.2.1 (by omega) (by omega) (by decide) (by decide) (fun t39 C_t39 X_t39 a_t39 b_t39 d_t39 w_t39 u_t39 v_t39 j_t39 l_t39 => ?_)
                have e_t39 := C_t39.2.2.2.1
                rw [a_t36] at a_t39
                rw [b_t36] at b_t39
                rw [d_t36] at d_t39
                rw [w_t36] at w_t39
                rw [u_t36] at u_t39
                rw [v_t36] at v_t39
                clear d_t36 w_t36 u_t36 v_t36 e_t36 a_t36
                have I_n_t39 := I_n_t36.chd X_t39 j_t39
                have f_n_t39 := f_n_t36.ex I_n_t36 (X_t39 0 (Nat.zero_le _))
                have u_n_t39 := u_n_t36.ex I_n_t36 (X_t39 0 (Nat.zero_le _))
                have I_m_mdt0_t39 := I_m_mdt0_t36.chd X_t39 j_t39
                have u_m_mdt0_t39 := u_m_mdt0_t36.ex I_m_mdt0_t36 (X_t39 0 (Nat.zero_le _))
                have f_m_mdt0_t39 : Fz t39 (m_md t0) := j_t39.2.2.2.2.1
                have I_m_mdt36_t39 : Nq t39 (m_md t36) := Nq.chn j_t39 (by omega) I_m_mdt0_t36 (by decide)
                have u_m_mdt36_t39 : Up t39 (m_md t36) := Or.inl j_t39.2.1
                have y9_t40 : m_at t39 = m_at t0 + 1 → lo t39 (m_at t39) = lo t0 (m_at t0 + 1) := fun h => lo_2 C_t39 C_t0 h
                have z_t40 : m_at t39 < m_ct t39 := lo_ne (Nat.ne_of_gt (show 0 < lo t39 (m_at t39) from by omega))
                refine Kp_at C_t39 (fun t40 C_t40 X_t40 a_t40 b_t40 d_t40 w_t40 u_t40 v_t40 j_t40 l_t40 => ?_)
                have e_t40 := C_t40.2.2.2.1
                rw [a_t39] at a_t40
                rw [b_t39] at b_t40
                rw [d_t39] at d_t40
                rw [w_t39] at w_t40
                rw [u_t39] at u_t40
                rw [v_t39] at v_t40
                rw [a_t39, e_t39] at z_t40
                clear d_t39 w_t39 u_t39 v_t39 e_t39 a_t39 b_t39
                have I_n_t40 := I_n_t39.flat X_t40
                have f_n_t40 := f_n_t39.ex I_n_t39 (X_t40 0)
                have u_n_t40 := u_n_t39.ex I_n_t39 (X_t40 0)
                have I_m_mdt0_t40 := I_m_mdt0_t39.flat X_t40
                have f_m_mdt0_t40 := f_m_mdt0_t39.ex I_m_mdt0_t39 (X_t40 0)
                have u_m_mdt0_t40 := u_m_mdt0_t39.ex I_m_mdt0_t39 (X_t40 0)
                have I_m_mdt36_t40 := I_m_mdt36_t39.flat X_t40
                have u_m_mdt36_t40 := u_m_mdt36_t39.ex I_m_mdt36_t39 (X_t40 0)
                refine Ok_ret (show Ok _ _ _ from ?_)
                refine Kp_more C_t40 (by omega) (by omega) (fun t41 C_t41 X_t41 a_t41 b_t41 d_t41 w_t41 u_t41 v_t41 j_t41 l_t41 => ?_)
                have e_t41 := C_t41.2.2.2.1
                rcases w_t41 with ⟨w_t41, y_t41⟩ | ⟨w_t41, wb_t41⟩
                · rw [a_t40] at a_t41
                  rw [b_t40] at b_t41
                  rw [d_t40] at d_t41
                  rw [w_t40] at w_t41
                  rw [u_t40] at u_t41
                  rw [v_t40] at v_t41
                  rw [d_t41] at y_t41
                  clear d_t40 w_t40 u_t40 v_t40 e_t40 a_t40 b_t40
                  have I_n_t41 := I_n_t40.flat X_t41
                  have f_n_t41 := f_n_t40.ex I_n_t40 (X_t41 0)
                  have u_n_t41 := u_n_t40.ex I_n_t40 (X_t41 0)
                  have I_m_mdt0_t41 := I_m_mdt0_t40.flat X_t41
                  have f_m_mdt0_t41 := f_m_mdt0_t40.ex I_m_mdt0_t40 (X_t41 0)
                  have u_m_mdt0_t41 := u_m_mdt0_t40.ex I_m_mdt0_t40 (X_t41 0)
                  have I_m_mdt36_t41 := I_m_mdt36_t40.flat X_t41
                  have u_m_mdt36_t41 := u_m_mdt36_t40.ex I_m_mdt36_t40 (X_t41 0)
                  have y9_t42 : m_at t41 = m_at t0 + 1 → lo t41 (m_at t41) = lo t0 (m_at t0 + 1) := fun h => lo_2 C_t41 C_t0 h
                  have y8_t42 : lo t41 (m_at t41) = lo t0 (m_at t0 + 1) := y9_t42 (by omega)
                  have z_t42 : m_at t41 < m_ct t41 := lo_ne (Nat.ne_of_gt (show 0 < lo t41 (m_at t41) from by omega))
                  refine Kp_at C_t41 (fun t42 C_t42 X_t42 a_t42 b_t42 d_t42 w_t42 u_t42 v_t42 j_t42 l_t42 => ?_)
                  have e_t42 := C_t42.2.2.2.1
                  rw [a_t41] at a_t42
                  rw [b_t41] at b_t42
                  rw [d_t41] at d_t42
                  rw [w_t41] at w_t42
                  rw [u_t41] at u_t42
                  rw [v_t41] at v_t42
                  rw [a_t41, e_t41] at z_t42
                  clear z_t40
                  clear d_t41 w_t41 u_t41 v_t41 e_t41 a_t41 b_t41
                  have I_n_t42 := I_n_t41.flat X_t42
                  have f_n_t42 := f_n_t41.ex I_n_t41 (X_t42 0)
                  have u_n_t42 := u_n_t41.ex I_n_t41 (X_t42 0)
                  have I_m_mdt0_t42 := I_m_mdt0_t41.flat X_t42
                  have f_m_mdt0_t42 := f_m_mdt0_t41.ex I_m_mdt0_t41 (X_t42 0)
                  have u_m_mdt0_t42 := u_m_mdt0_t41.ex I_m_mdt0_t41 (X_t42 0)
                  have I_m_mdt36_t42 := I_m_mdt36_t41.flat X_t42
                  have u_m_mdt36_t42 := u_m_mdt36_t41.ex I_m_mdt36_t41 (X_t42 0)
                  refine Kp_push C_t42 (by omega) (fun t43 C_t43 X_t43 a_t43 b_t43 d_t43 w_t43 u_t43 v_t43 j_t43 l_t43 => ?_)
                  have e_t43 := C_t43.2.2.2.1
                  rw [a_t42] at a_t43
                  rw [b_t42] at b_t43
                  rw [d_t42] at d_t43
                  rw [w_t42] at w_t43
                  rw [u_t42] at u_t43
                  rw [v_t42] at v_t43
                  clear d_t42 w_t42 u_t42 v_t42 e_t42 a_t42 b_t42
                  have I_n_t43 := I_n_t42.flat X_t43
                  have f_n_t43 := f_n_t42.ex I_n_t42 (X_t43 0)
                  have u_n_t43 := u_n_t42.ex I_n_t42 (X_t43 0)
                  have I_m_mdt0_t43 := I_m_mdt0_t42.flat X_t43
                  have f_m_mdt0_t43 := f_m_mdt0_t42.ex I_m_mdt0_t42 (X_t43 0)
                  have u_m_mdt0_t43 := u_m_mdt0_t42.ex I_m_mdt0_t42 (X_t43 0)
                  have I_m_mdt36_t43 := I_m_mdt36_t42.flat X_t43
                  have u_m_mdt36_t43 := u_m_mdt36_t42.ex I_m_mdt36_t42 (X_t43 0)
                  refine Ok_ifz (show m_wr t43 < 2147483648 from by omega) (fun q => ?_) (fun q => absurd (by omega) q)
                  refine Kp_look C_t43 hT (by omega) ?_
                  refine Ok_ck (Nat.lt_trans (lo_lt (C_t43.tk hT) _) (by decide)) ?_
                  refine Ok_ifz (f6_beginsStatement _) (fun q44 => ?_) (fun q44 => ?_)
                  · refine Hv_mk (Kv_c (x := (6, m_md t0, 0)) rfl hK) (C_t43.1.2.2.2.2.2.2 hTt) C_t43 hT (by omega) (by omega) (by omega) ?_ ?_ ?_ (by omega) ?_ ?_ ?_
                    · exact ⟨(Io_6 (by decide)), (Nd_x (by decide)), Stk_step (N := n) (pop := (59, n, t)) (new := [(6, m_md t0, 0)]) F0 C_t43.1.to2 (fun (h : nk 59 = false) => absurd h (by decide)) (fun q _ h => h (59, n, t) rfl) (fun _ => rfl) (fun y hy hk => ⟨rfl, (Mo_cons (fun q => absurd (show nk 6 = true from q) (by decide)) Mo_nil) y hy hk⟩) (fun (h : 59 = 3 ∨ 59 = 18 ∨ 59 = 41) => absurd h (by decide)) (fun (h : 59 = 18) => absurd h (by decide)) (fun (h : 59 = 41 ∨ 59 = 42 ∨ 59 = 43) => absurd h (by decide)) r [] (fun y hy => absurd hy List.not_mem_nil) hS⟩
                    · exact (Aj_sub (y := (6, m_md t0, 0)) hJ (Nat.le_of_ble_eq_true rfl))
                    · show m_dp t43 = (dlt 6 + sD r)
                      have : dlt 59 = 0 := rfl; have : dlt 6 = 1 := rfl; omega
                    · show m_rw t43 = (rho 6 + sR r)
                      have : rho 59 = 0 := rfl; have : rho 6 = 0 := rfl; omega
                    · show m_md t43 + (mu7 6 + sM r) ≤ 3 * m_at t43 + 7 * (r.length + 1) + 10
                      have : mu7 59 = 6 := rfl; have : mu7 6 = 7 := rfl; omega
                    · show (wt 6 + sW r) + 6 * (4096 - m_at t43) + 4 * (600 - (r.length + 1)) < (wt 59 + sW r) + 6 * (4096 - m_at t0) + 4 * (600 - (r.length + 1))
                      have : wt 59 = 7 := rfl; have : wt 6 = 5 := rfl; omega
                  · have q44n := Nat.pos_of_ne_zero (n6_beginsStatement q44)
                    refine Ok_bn (show Ok (Qh (mz t43 ((59, m_md t0, 0) :: ((6, m_md t0, 0) :: r)))) _ (St f (m_md t0) t43) from ih ?_ (show 31 ≤ f + m_dp t43 from by omega)) (fun v s9 h9 => Ok_ret (Qh_le (v' := 0) ?_ h9))
                    · refine Hp_mk (Kv_c (x := (6, m_md t0, 0)) rfl hK) (C_t43.1.2.2.2.2.2.2 hTt) C_t43 hT (by omega) (by omega) (by omega) ?_ ?_ ?_ (by omega) ?_ ?_
                      · exact ⟨(Io_n (by decide) (by decide) I_m_mdt0_t43.1 I_m_mdt0_t43.2.1 I_m_mdt0_t43.2.2.1 (fun _ => u_m_mdt0_t43) (fun q => absurd q (by decide)) I_m_mdt0_t43.2.2.2), (Nd_0 (by decide) Mo_nil), ⟨(Io_6 (by decide)), (Nd_x (by decide)), Stk_step (N := n) (pop := (59, n, t)) (new := [(6, m_md t0, 0), (59, m_md t0, 0)]) F0 C_t43.1.to2 (fun (h : nk 59 = false) => absurd h (by decide)) (fun q _ h => h (59, n, t) rfl) (fun _ => rfl) (fun y hy hk => ⟨rfl, (Mo_cons (fun q => absurd (show nk 6 = true from q) (by decide)) (Mo_cons (fun q => show n ≤ m_md t0 from by omega) Mo_nil)) y hy hk⟩) (fun (h : 59 = 3 ∨ 59 = 18 ∨ 59 = 41) => absurd h (by decide)) (fun (h : 59 = 18) => absurd h (by decide)) (fun (h : 59 = 41 ∨ 59 = 42 ∨ 59 = 43) => absurd h (by decide)) r [] (fun y hy => absurd hy List.not_mem_nil) hS⟩⟩
                      · exact (Aj_up (x := (59, m_md t0, 0)) (Aj_sub (y := (6, m_md t0, 0)) hJ (Nat.le_of_ble_eq_true rfl)) (Or.inl (Nat.le_of_ble_eq_true rfl)))
                      · show m_dp t43 = (dlt 59 + (dlt 6 + sD r))
                        have : dlt 59 = 0 := rfl; have : dlt 6 = 1 := rfl; omega
                      · show m_rw t43 = (rho 59 + (rho 6 + sR r))
                        have : rho 59 = 0 := rfl; have : rho 6 = 0 := rfl; omega
                      · show m_md t43 + (mu7 59 + (mu7 6 + sM r)) ≤ 3 * m_at t43 + 7 * (r.length + 1 + 1) + 10
                        have : mu7 59 = 6 := rfl; have : mu7 6 = 7 := rfl; omega
                    · show (wt 59 + (wt 6 + sW r)) + 6 * (4096 - m_at t43) + 4 * (600 - (r.length + 1 + 1)) ≤ (wt 59 + sW r) + 6 * (4096 - m_at t0) + 4 * (600 - (r.length + 1))
                      have : wt 59 = 7 := rfl; have : wt 6 = 5 := rfl; omega
                · have w_t41 := Nat.pos_of_ne_zero w_t41
                  have I_n_t41 := I_n_t40.flat X_t41
                  have f_n_t41 := f_n_t40.ex I_n_t40 (X_t41 0)
                  have u_n_t41 := u_n_t40.ex I_n_t40 (X_t41 0)
                  have I_m_mdt0_t41 := I_m_mdt0_t40.flat X_t41
                  have f_m_mdt0_t41 := f_m_mdt0_t40.ex I_m_mdt0_t40 (X_t41 0)
                  have u_m_mdt0_t41 := u_m_mdt0_t40.ex I_m_mdt0_t40 (X_t41 0)
                  have I_m_mdt36_t41 := I_m_mdt36_t40.flat X_t41
                  have u_m_mdt36_t41 := u_m_mdt36_t40.ex I_m_mdt36_t40 (X_t41 0)
                  refine Kp_at C_t41 (fun t46 C_t46 X_t46 a_t46 b_t46 d_t46 w_t46 u_t46 v_t46 j_t46 l_t46 => ?_)
                  have e_t46 := C_t46.2.2.2.1
                  have I_n_t46 := I_n_t41.flat X_t46
                  have f_n_t46 := f_n_t41.ex I_n_t41 (X_t46 0)
                  have u_n_t46 := u_n_t41.ex I_n_t41 (X_t46 0)
                  have I_m_mdt0_t46 := I_m_mdt0_t41.flat X_t46
                  have f_m_mdt0_t46 := f_m_mdt0_t41.ex I_m_mdt0_t41 (X_t46 0)
                  have u_m_mdt0_t46 := u_m_mdt0_t41.ex I_m_mdt0_t41 (X_t46 0)
                  have I_m_mdt36_t46 := I_m_mdt36_t41.flat X_t46
                  have u_m_mdt36_t46 := u_m_mdt36_t41.ex I_m_mdt36_t41 (X_t46 0)
                  refine Kp_push C_t46 (by omega) (fun t47 C_t47 X_t47 a_t47 b_t47 d_t47 w_t47 u_t47 v_t47 j_t47 l_t47 => ?_)
                  have e_t47 := C_t47.2.2.2.1
                  have I_n_t47 := I_n_t46.flat X_t47
                  have f_n_t47 := f_n_t46.ex I_n_t46 (X_t47 0)
                  have u_n_t47 := u_n_t46.ex I_n_t46 (X_t47 0)
                  have I_m_mdt0_t47 := I_m_mdt0_t46.flat X_t47
                  have f_m_mdt0_t47 := f_m_mdt0_t46.ex I_m_mdt0_t46 (X_t47 0)
                  have u_m_mdt0_t47 := u_m_mdt0_t46.ex I_m_mdt0_t46 (X_t47 0)
                  have I_m_mdt36_t47 := I_m_mdt36_t46.flat X_t47
                  have u_m_mdt36_t47 := u_m_mdt36_t46.ex I_m_mdt36_t46 (X_t47 0)
                  refine Ok_ifz (show m_wr t47 < 2147483648 from by omega) (fun q => absurd q (Nat.ne_of_gt (show 0 < m_wr t47 from by omega))) (fun q => ?_)
                  exact Or.inl ⟨Nat.ne_of_gt (show 0 < m_wr t47 from by omega), by omega, by omega, C_t47.2.2.2.2.2, by omega⟩
              · refine Kp_error C_t36 (by omega) (fun t48 C_t48 X_t48 a_t48 b_t48 d_t48 w_t48 u_t48 v_t48 j_t48 l_t48 => ?_)
                have wb_t48 := w_t48.2
                have w_t48 := Nat.pos_of_ne_zero w_t48.1
                have e_t48 := C_t48.2.2.2.1
                have I_n_t48 := I_n_t36.flat X_t48
                have f_n_t48 := f_n_t36.ex I_n_t36 (X_t48 0)
                have u_n_t48 := u_n_t36.ex I_n_t36 (X_t48 0)
                have I_m_mdt0_t48 := I_m_mdt0_t36.flat X_t48
                have u_m_mdt0_t48 := u_m_mdt0_t36.ex I_m_mdt0_t36 (X_t48 0)
                refine Kp_child C_t48 I_m_mdt0_t48.1 I_m_mdt0_t48.2.1 I_m_mdt0_t48.2.2.1 (by omega) (by omega) (by decide) (by decide) (fun t49 C_t49 X_t49 a_t49 b_t49 d_t49 w_t49 u_t49 v_t49 j_t49 l_t49 => ?_)
                have e_t49 := C_t49.2.2.2.1
                have I_n_t49 := I_n_t48.chd X_t49 j_t49
                have f_n_t49 := f_n_t48.ex I_n_t48 (X_t49 0 (Nat.zero_le _))
                have u_n_t49 := u_n_t48.ex I_n_t48 (X_t49 0 (Nat.zero_le _))
                have I_m_mdt0_t49 := I_m_mdt0_t48.chd X_t49 j_t49
                have u_m_mdt0_t49 := u_m_mdt0_t48.ex I_m_mdt0_t48 (X_t49 0 (Nat.zero_le _))
                have f_m_mdt0_t49 : Fz t49 (m_md t0) := j_t49.2.2.2.2.1
                have I_m_mdt48_t49 : Nq t49 (m_md t48) := Nq.chn j_t49 (by omega) I_m_mdt0_t48 (by decide)
                have u_m_mdt48_t49 : Up t49 (m_md t48) := Or.inl j_t49.2.1
                refine Kp_at C_t49 (fun t50 C_t50 X_t50 a_t50 b_t50 d_t50 w_t50 u_t50 v_t50 j_t50 l_t50 => ?_)
                have e_t50 := C_t50.2.2.2.1
                have I_n_t50 := I_n_t49.flat X_t50
                have f_n_t50 := f_n_t49.ex I_n_t49 (X_t50 0)
                have u_n_t50 := u_n_t49.ex I_n_t49 (X_t50 0)
                have I_m_mdt0_t50 := I_m_mdt0_t49.flat X_t50
                have f_m_mdt0_t50 := f_m_mdt0_t49.ex I_m_mdt0_t49 (X_t50 0)
                have u_m_mdt0_t50 := u_m_mdt0_t49.ex I_m_mdt0_t49 (X_t50 0)
                have I_m_mdt48_t50 := I_m_mdt48_t49.flat X_t50
                have u_m_mdt48_t50 := u_m_mdt48_t49.ex I_m_mdt48_t49 (X_t50 0)
                refine Ok_ret (show Ok _ _ _ from ?_)
                refine Kp_more C_t50 (by omega) (by omega) (fun t51 C_t51 X_t51 a_t51 b_t51 d_t51 w_t51 u_t51 v_t51 j_t51 l_t51 => ?_)
                have e_t51 := C_t51.2.2.2.1
                have w_t51 : 0 < m_wr t51 ∧ m_wr t51 ≤ m_wr t50 + m_at t50 + 1 := by omega
                have I_n_t51 := I_n_t50.flat X_t51
                have f_n_t51 := f_n_t50.ex I_n_t50 (X_t51 0)
                have u_n_t51 := u_n_t50.ex I_n_t50 (X_t51 0)
                have I_m_mdt0_t51 := I_m_mdt0_t50.flat X_t51
                have f_m_mdt0_t51 := f_m_mdt0_t50.ex I_m_mdt0_t50 (X_t51 0)
                have u_m_mdt0_t51 := u_m_mdt0_t50.ex I_m_mdt0_t50 (X_t51 0)
                have I_m_mdt48_t51 := I_m_mdt48_t50.flat X_t51
                have u_m_mdt48_t51 := u_m_mdt48_t50.ex I_m_mdt48_t50 (X_t51 0)
                refine Kp_at C_t51 (fun t52 C_t52 X_t52 a_t52 b_t52 d_t52 w_t52 u_t52 v_t52 j_t52 l_t52 => ?_)
                have e_t52 := C_t52.2.2.2.1
                have I_n_t52 := I_n_t51.flat X_t52
                have f_n_t52 := f_n_t51.ex I_n_t51 (X_t52 0)
                have u_n_t52 := u_n_t51.ex I_n_t51 (X_t52 0)
                have I_m_mdt0_t52 := I_m_mdt0_t51.flat X_t52
                have f_m_mdt0_t52 := f_m_mdt0_t51.ex I_m_mdt0_t51 (X_t52 0)
                have u_m_mdt0_t52 := u_m_mdt0_t51.ex I_m_mdt0_t51 (X_t52 0)
                have I_m_mdt48_t52 := I_m_mdt48_t51.flat X_t52
                have u_m_mdt48_t52 := u_m_mdt48_t51.ex I_m_mdt48_t51 (X_t52 0)
                refine Kp_push C_t52 (by omega) (fun t53 C_t53 X_t53 a_t53 b_t53 d_t53 w_t53 u_t53 v_t53 j_t53 l_t53 => ?_)
                have e_t53 := C_t53.2.2.2.1
                have I_n_t53 := I_n_t52.flat X_t53
                have f_n_t53 := f_n_t52.ex I_n_t52 (X_t53 0)
                have u_n_t53 := u_n_t52.ex I_n_t52 (X_t53 0)
                have I_m_mdt0_t53 := I_m_mdt0_t52.flat X_t53
                have f_m_mdt0_t53 := f_m_mdt0_t52.ex I_m_mdt0_t52 (X_t53 0)
                have u_m_mdt0_t53 := u_m_mdt0_t52.ex I_m_mdt0_t52 (X_t53 0)
                have I_m_mdt48_t53 := I_m_mdt48_t52.flat X_t53
                have u_m_mdt48_t53 := u_m_mdt48_t52.ex I_m_mdt48_t52 (X_t53 0)
                refine Ok_ifz (show m_wr t53 < 2147483648 from by omega) (fun q => absurd q (Nat.ne_of_gt (show 0 < m_wr t53 from by omega))) (fun q => ?_)
                exact Or.inl ⟨Nat.ne_of_gt (show 0 < m_wr t53 from by omega), by omega, by omega, C_t53.2.2.2.2.2, by omega⟩
            · refine Ok_ife (Nat.lt_trans (lo_lt (C_t0.tk hT) _) (by decide)) (by decide) (fun q => absurd (q34.symm.trans q) (by decide)) (fun _ => ?_)
              refine Ok_ife (Nat.lt_trans (lo_lt (C_t0.tk hT) _) (by decide)) (by decide) (fun q => absurd (q34.symm.trans q) (by decide)) (fun _ => ?_)
              refine Ok_ife (Nat.lt_trans (lo_lt (C_t0.tk hT) _) (by decide)) (by decide) (fun q => absurd (q34.symm.trans q) (by decide)) (fun _ => ?_)
              refine Ok_ife (Nat.lt_trans (lo_lt (C_t0.tk hT) _) (by decide)) (by decide) (fun q => absurd (q34.symm.trans q) (by decide)) (fun _ => ?_)
              refine Ok_ife (Nat.lt_trans (lo_lt (C_t0.tk hT) _) (by decide)) (by decide) (fun q => absurd (q34.symm.trans q) (by decide)) (fun _ => ?_)
              refine Ok_ife (Nat.lt_trans (lo_lt (C_t0.tk hT) _) (by decide)) (by decide) (fun q => absurd (q34.symm.trans q) (by decide)) (fun _ => ?_)
              refine Ok_ife (Nat.lt_trans (lo_lt (C_t0.tk hT) _) (by decide)) (by decide) (fun q => absurd (q34.symm.trans q) (by decide)) (fun _ => ?_)
              refine Ok_ife (Nat.lt_trans (lo_lt (C_t0.tk hT) _) (by decide)) (by decide) (fun q => absurd (q34.symm.trans q) (by decide)) (fun _ => ?_)
              refine Ok_ife (Nat.lt_trans (lo_lt (C_t0.tk hT) _) (by decide)) (by decide) (fun q => absurd (q34.symm.trans q) (by decide)) (fun _ => ?_)
              refine Ok_ife (Nat.lt_trans (lo_lt (C_t0.tk hT) _) (by decide)) (by decide) (fun q => absurd (q34.symm.trans q) (by decide)) (fun _ => ?_)
              refine Ok_ife (Nat.lt_trans (lo_lt (C_t0.tk hT) _) (by decide)) (by decide) (fun q => absurd (q34.symm.trans q) (by decide)) (fun _ => ?_)
              refine Kp_push C_t0 (by omega) (fun t54 C_t54 X_t54 a_t54 b_t54 d_t54 w_t54 u_t54 v_t54 j_t54 l_t54 => ?_)
              have e_t54 := C_t54.2.2.2.1
              have I_n_t54 := I_n_t0.flat X_t54
              have u_n_t54 := u_n_t0.ex I_n_t0 (X_t54 0)
              refine Hv_mk (Kv_c (x := (41, n, 0)) rfl hK) (C_t54.1.2.2.2.2.2.2 hTt) C_t54 hT (by omega) (by omega) (by omega) ?_ ?_ ?_ (by omega) ?_ ?_ ?_
              · exact ⟨(Io_41 (by decide) I_n_t54.1 I_n_t54.2.1 I_n_t54.2.2.1 u_n_t54 I_n_t54.2.2.2), (Nd_0 (by decide) Mo_nil), Stk_step (N := n) (pop := (59, n, t)) (new := [(41, n, 0)]) F0 C_t54.1.to2 (fun (h : nk 59 = false) => absurd h (by decide)) (fun q _ h => h (59, n, t) rfl) (fun _ => rfl) (fun y hy hk => ⟨rfl, (Mo_cons (fun q => show n ≤ n from by omega) Mo_nil) y hy hk⟩) (fun (h : 59 = 3 ∨ 59 = 18 ∨ 59 = 41) => absurd h (by decide)) (fun (h : 59 = 18) => absurd h (by decide)) (fun (h : 59 = 41 ∨ 59 = 42 ∨ 59 = 43) => absurd h (by decide)) r [] (fun y hy => absurd hy List.not_mem_nil) hS⟩
              · exact (Aj_sub (y := (41, n, 0)) hJ (Nat.le_of_ble_eq_true rfl))
              · show m_dp t54 = (dlt 41 + sD r)
                have : dlt 41 = 0 := rfl; have : dlt 59 = 0 := rfl; omega
              · show m_rw t54 = (rho 41 + sR r)
                have : rho 41 = 0 := rfl; have : rho 59 = 0 := rfl; omega
              · show m_md t54 + (mu7 41 + sM r) ≤ 3 * m_at t54 + 7 * (r.length + 1) + 10
                have : mu7 41 = 6 := rfl; have : mu7 59 = 6 := rfl; omega
              · show (wt 41 + sW r) + 6 * (4096 - m_at t54) + 4 * (600 - (r.length + 1)) < (wt 59 + sW r) + 6 * (4096 - m_at t0) + 4 * (600 - (r.length + 1))
                have : wt 41 = 6 := rfl; have : wt 59 = 7 := rfl; omega
          · refine Ok_ife (Nat.lt_trans (lo_lt (C_t0.tk hT) _) (by decide)) (by decide) (fun q55 => ?_) (fun q55 => ?_)
            · refine Ok_bnc ?_
              try unfold b_X6_block
              refine Kp_look C_t0 hT (by omega) ?_
              refine Ok_ife (Nat.lt_trans (lo_lt (C_t0.tk hT) _) (by decide)) (by decide) (fun q => ?_) (fun q => absurd q55 q)
              refine Kp_child C_t0 I_n_t0.1 I_n_t0.2.1 I_n_t0.2.2.1 (by omega) (by omega) (by decide) (by decide) (fun t57 C_t57 X_t57 a_t57 b_t57 d_t57 w_t57 u_t57 v_t57 j_t57 l_t57 => ?_)
              have e_t57 := C_t57.2.2.2.1
              have I_n_t57 := I_n_t0.chd X_t57 j_t57
              have u_n_t57 := u_n_t0.ex I_n_t0 (X_t57 0 (Nat.zero_le _))
              have f_n_t57 : Fz t57 n := j_t57.2.2.2.2.1
              have I_m_mdt0_t57 : Nq t57 (m_md t0) := Nq.chn j_t57 (by omega) I_n_t0 (by decide)
              have u_m_mdt0_t57 : Up t57 (m_md t0) := Or.inl j_t57.2.1
              refine Kp_more C_t57 (by omega) (by omega) (fun t58 C_t58 X_t58 a_t58 b_t58 d_t58 w_t58 u_t58 v_t58 j_t58 l_t58 => ?_)
              have e_t58 := C_t58.2.2.2.1
              rcases w_t58 with ⟨w_t58, y_t58⟩ | ⟨w_t58, wb_t58⟩
              · rw [a_t57] at a_t58
                rw [b_t57] at b_t58
                rw [d_t57] at d_t58
                rw [w_t57] at w_t58
                rw [u_t57] at u_t58
                rw [v_t57] at v_t58
                rw [d_t58] at y_t58
                clear d_t57 w_t57 u_t57 v_t57 e_t57 a_t57 b_t57
                have I_n_t58 := I_n_t57.flat X_t58
                have f_n_t58 := f_n_t57.ex I_n_t57 (X_t58 0)
                have u_n_t58 := u_n_t57.ex I_n_t57 (X_t58 0)
                have I_m_mdt0_t58 := I_m_mdt0_t57.flat X_t58
                have u_m_mdt0_t58 := u_m_mdt0_t57.ex I_m_mdt0_t57 (X_t58 0)
                have z_t59 : m_at t58 < m_ct t58 := lo_ne (Nat.ne_of_gt (show 0 < lo t58 (m_at t58) from by omega))
                refine Kp_at C_t58 (fun t59 C_t59 X_t59 a_t59 b_t59 d_t59 w_t59 u_t59 v_t59 j_t59 l_t59 => ?_)
                have e_t59 := C_t59.2.2.2.1
                rw [a_t58] at a_t59
                rw [b_t58] at b_t59
                rw [d_t58] at d_t59
                rw [w_t58] at w_t59
                rw [u_t58] at u_t59
                rw [v_t58] at v_t59
                rw [a_t58, e_t58] at z_t59
                clear d_t58 w_t58 u_t58 v_t58 e_t58 a_t58 b_t58
                have I_n_t59 := I_n_t58.flat X_t59
                have f_n_t59 := f_n_t58.ex I_n_t58 (X_t59 0)
                have u_n_t59 := u_n_t58.ex I_n_t58 (X_t59 0)
                have I_m_mdt0_t59 := I_m_mdt0_t58.flat X_t59
                have u_m_mdt0_t59 := u_m_mdt0_t58.ex I_m_mdt0_t58 (X_t59 0)
                refine Kp_push C_t59 (by omega) (fun t60 C_t60 X_t60 a_t60 b_t60 d_t60 w_t60 u_t60 v_t60 j_t60 l_t60 => ?_)
                have e_t60 := C_t60.2.2.2.1
                rw [a_t59] at a_t60
                rw [b_t59] at b_t60
                rw [d_t59] at d_t60
                rw [w_t59] at w_t60
                rw [u_t59] at u_t60
                rw [v_t59] at v_t60
                clear d_t59 w_t59 u_t59 v_t59 e_t59 a_t59 b_t59
                have I_n_t60 := I_n_t59.flat X_t60
                have f_n_t60 := f_n_t59.ex I_n_t59 (X_t60 0)
                have u_n_t60 := u_n_t59.ex I_n_t59 (X_t60 0)
                have I_m_mdt0_t60 := I_m_mdt0_t59.flat X_t60
                have u_m_mdt0_t60 := u_m_mdt0_t59.ex I_m_mdt0_t59 (X_t60 0)
                refine Kp_push C_t60 (by omega) (fun t61 C_t61 X_t61 a_t61 b_t61 d_t61 w_t61 u_t61 v_t61 j_t61 l_t61 => ?_)
                have e_t61 := C_t61.2.2.2.1
                rw [a_t60] at a_t61
                rw [b_t60] at b_t61
                rw [d_t60] at d_t61
                rw [w_t60] at w_t61
                rw [u_t60] at u_t61
                rw [v_t60] at v_t61
                clear d_t60 w_t60 u_t60 v_t60 e_t60 a_t60 b_t60
                have I_n_t61 := I_n_t60.flat X_t61
                have f_n_t61 := f_n_t60.ex I_n_t60 (X_t61 0)
                have u_n_t61 := u_n_t60.ex I_n_t60 (X_t61 0)
                have I_m_mdt0_t61 := I_m_mdt0_t60.flat X_t61
                have u_m_mdt0_t61 := u_m_mdt0_t60.ex I_m_mdt0_t60 (X_t61 0)
                refine Ok_ret (show Ok _ _ _ from ?_)
                refine Hv_mk (Kv_c (x := (39, m_md t0, 0)) rfl (Kv_c (x := (8, 83, 0)) rfl hK)) (C_t61.1.2.2.2.2.2.2 hTt) C_t61 hT (by omega) (by omega) (by omega) ?_ ?_ ?_ (by omega) ?_ ?_ ?_
                · exact ⟨(Io_n (by decide) (by decide) I_m_mdt0_t61.1 I_m_mdt0_t61.2.1 I_m_mdt0_t61.2.2.1 (fun _ => u_m_mdt0_t61) (fun q => absurd q (by decide)) I_m_mdt0_t61.2.2.2), (Nd_0 (by decide) Mo_nil), ⟨(Io_78 (by decide) (by decide) (by decide)), (Nd_x (by decide)), Stk_step (N := n) (pop := (59, n, t)) (new := [(8, 83, 0), (39, m_md t0, 0)]) F0 C_t61.1.to2 (fun (h : nk 59 = false) => absurd h (by decide)) (fun q _ h => h (59, n, t) rfl) (fun _ => rfl) (fun y hy hk => ⟨rfl, (Mo_cons (fun q => absurd (show nk 8 = true from q) (by decide)) (Mo_cons (fun q => show n ≤ m_md t0 from by omega) Mo_nil)) y hy hk⟩) (fun (h : 59 = 3 ∨ 59 = 18 ∨ 59 = 41) => absurd h (by decide)) (fun (h : 59 = 18) => absurd h (by decide)) (fun (h : 59 = 41 ∨ 59 = 42 ∨ 59 = 43) => absurd h (by decide)) r [] (fun y hy => absurd hy List.not_mem_nil) hS⟩⟩
                · exact (Aj_up (x := (39, m_md t0, 0)) (Aj_sub (y := (8, 83, 0)) hJ (Nat.le_of_ble_eq_true rfl)) (Or.inl (Nat.le_of_ble_eq_true rfl)))
                · show m_dp t61 = (dlt 39 + (dlt 8 + sD r))
                  have : dlt 39 = 0 := rfl; have : dlt 59 = 0 := rfl; have : dlt 8 = 1 := rfl; omega
                · show m_rw t61 = (rho 39 + (rho 8 + sR r))
                  have : rho 39 = 0 := rfl; have : rho 59 = 0 := rfl; have : rho 8 = 0 := rfl; omega
                · show m_md t61 + (mu7 39 + (mu7 8 + sM r)) ≤ 3 * m_at t61 + 7 * (r.length + 1 + 1) + 10
                  have : mu7 39 = 7 := rfl; have : mu7 59 = 6 := rfl; have : mu7 8 = 4 := rfl; omega
                · show (wt 39 + (wt 8 + sW r)) + 6 * (4096 - m_at t61) + 4 * (600 - (r.length + 1 + 1)) < (wt 59 + sW r) + 6 * (4096 - m_at t0) + 4 * (600 - (r.length + 1))
                  have : wt 39 = 9 := rfl; have : wt 59 = 7 := rfl; have : wt 8 = 0 := rfl; omega
              · have w_t58 := Nat.pos_of_ne_zero w_t58
                have I_n_t58 := I_n_t57.flat X_t58
                have f_n_t58 := f_n_t57.ex I_n_t57 (X_t58 0)
                have u_n_t58 := u_n_t57.ex I_n_t57 (X_t58 0)
                have I_m_mdt0_t58 := I_m_mdt0_t57.flat X_t58
                have u_m_mdt0_t58 := u_m_mdt0_t57.ex I_m_mdt0_t57 (X_t58 0)
                refine Kp_at C_t58 (fun t62 C_t62 X_t62 a_t62 b_t62 d_t62 w_t62 u_t62 v_t62 j_t62 l_t62 => ?_)
                have e_t62 := C_t62.2.2.2.1
                have I_n_t62 := I_n_t58.flat X_t62
                have f_n_t62 := f_n_t58.ex I_n_t58 (X_t62 0)
                have u_n_t62 := u_n_t58.ex I_n_t58 (X_t62 0)
                have I_m_mdt0_t62 := I_m_mdt0_t58.flat X_t62
                have u_m_mdt0_t62 := u_m_mdt0_t58.ex I_m_mdt0_t58 (X_t62 0)
                refine Kp_push C_t62 (by omega) (fun t63 C_t63 X_t63 a_t63 b_t63 d_t63 w_t63 u_t63 v_t63 j_t63 l_t63 => ?_)
                have e_t63 := C_t63.2.2.2.1
                have I_n_t63 := I_n_t62.flat X_t63
                have f_n_t63 := f_n_t62.ex I_n_t62 (X_t63 0)
                have u_n_t63 := u_n_t62.ex I_n_t62 (X_t63 0)
                have I_m_mdt0_t63 := I_m_mdt0_t62.flat X_t63
                have u_m_mdt0_t63 := u_m_mdt0_t62.ex I_m_mdt0_t62 (X_t63 0)
                refine Kp_push C_t63 (by omega) (fun t64 C_t64 X_t64 a_t64 b_t64 d_t64 w_t64 u_t64 v_t64 j_t64 l_t64 => ?_)
                have e_t64 := C_t64.2.2.2.1
                have I_n_t64 := I_n_t63.flat X_t64
                have f_n_t64 := f_n_t63.ex I_n_t63 (X_t64 0)
                have u_n_t64 := u_n_t63.ex I_n_t63 (X_t64 0)
                have I_m_mdt0_t64 := I_m_mdt0_t63.flat X_t64
                have u_m_mdt0_t64 := u_m_mdt0_t63.ex I_m_mdt0_t63 (X_t64 0)
                refine Ok_ret (show Ok _ _ _ from ?_)
                exact Or.inl ⟨Nat.ne_of_gt (show 0 < m_wr t64 from by omega), by omega, by omega, C_t64.2.2.2.2.2, by omega⟩
            · refine Ok_ife (Nat.lt_trans (lo_lt (C_t0.tk hT) _) (by decide)) (by decide) (fun q65 => ?_) (fun q65 => ?_)
              · refine Ok_bnc ?_
                try unfold b_X6_ifs
                refine Kp_child C_t0 I_n_t0.1 I_n_t0.2.1 I_n_t0.2.2.1 (by omega) (by omega) (by decide) (by decide) (fun t67 C_t67 X_t67 a_t67 b_t67 d_t67 w_t67 u_t67 v_t67 j_t67 l_t67 => ?_)
                have e_t67 := C_t67.2.2.2.1
                have I_n_t67 := I_n_t0.chd X_t67 j_t67
                have u_n_t67 := u_n_t0.ex I_n_t0 (X_t67 0 (Nat.zero_le _))
                have f_n_t67 : Fz t67 n := j_t67.2.2.2.2.1
                have I_m_mdt0_t67 : Nq t67 (m_md t0) := Nq.chn j_t67 (by omega) I_n_t0 (by decide)
                have u_m_mdt0_t67 : Up t67 (m_md t0) := Or.inl j_t67.2.1
                have z_t68 : m_at t67 < m_ct t67 := lo_ne (Nat.ne_of_gt (show 0 < lo t67 (m_at t67) from by omega))
                refine Kp_at C_t67 (fun t68 C_t68 X_t68 a_t68 b_t68 d_t68 w_t68 u_t68 v_t68 j_t68 l_t68 => ?_)
                have e_t68 := C_t68.2.2.2.1
                rw [a_t67] at a_t68
                rw [b_t67] at b_t68
                rw [d_t67] at d_t68
                rw [w_t67] at w_t68
                rw [u_t67] at u_t68
                rw [v_t67] at v_t68
                rw [a_t67, e_t67] at z_t68
                clear d_t67 w_t67 u_t67 v_t67 e_t67 a_t67 b_t67
                have I_n_t68 := I_n_t67.flat X_t68
                have f_n_t68 := f_n_t67.ex I_n_t67 (X_t68 0)
                have u_n_t68 := u_n_t67.ex I_n_t67 (X_t68 0)
                have I_m_mdt0_t68 := I_m_mdt0_t67.flat X_t68
                have u_m_mdt0_t68 := u_m_mdt0_t67.ex I_m_mdt0_t67 (X_t68 0)
                refine Kp_push C_t68 (by omega) (fun t69 C_t69 X_t69 a_t69 b_t69 d_t69 w_t69 u_t69 v_t69 j_t69 l_t69 => ?_)
                have e_t69 := C_t69.2.2.2.1
                rw [a_t68] at a_t69
                rw [b_t68] at b_t69
                rw [d_t68] at d_t69
                rw [w_t68] at w_t69
                rw [u_t68] at u_t69
                rw [v_t68] at v_t69
                clear d_t68 w_t68 u_t68 v_t68 e_t68 a_t68 b_t68
                have I_n_t69 := I_n_t68.flat X_t69
                have f_n_t69 := f_n_t68.ex I_n_t68 (X_t69 0)
                have u_n_t69 := u_n_t68.ex I_n_t68 (X_t69 0)
                have I_m_mdt0_t69 := I_m_mdt0_t68.flat X_t69
                have u_m_mdt0_t69 := u_m_mdt0_t68.ex I_m_mdt0_t68 (X_t69 0)
                refine Kp_push C_t69 (by omega) (fun t70 C_t70 X_t70 a_t70 b_t70 d_t70 w_t70 u_t70 v_t70 j_t70 l_t70 => ?_)
                have e_t70 := C_t70.2.2.2.1
                rw [a_t69] at a_t70
                rw [b_t69] at b_t70
                rw [d_t69] at d_t70
                rw [w_t69] at w_t70
                rw [u_t69] at u_t70
                rw [v_t69] at v_t70
                clear d_t69 w_t69 u_t69 v_t69 e_t69 a_t69 b_t69
                have I_n_t70 := I_n_t69.flat X_t70
                have f_n_t70 := f_n_t69.ex I_n_t69 (X_t70 0)
                have u_n_t70 := u_n_t69.ex I_n_t69 (X_t70 0)
                have I_m_mdt0_t70 := I_m_mdt0_t69.flat X_t70
                have u_m_mdt0_t70 := u_m_mdt0_t69.ex I_m_mdt0_t69 (X_t70 0)
                refine Kp_look C_t70 hT (by omega) ?_
                refine Ok_ife (Nat.lt_trans (lo_lt (C_t70.tk hT) _) (by decide)) (by decide) (fun q71 => ?_) (fun q71 => ?_)
                · refine Kp_child C_t70 I_m_mdt0_t70.1 I_m_mdt0_t70.2.1 I_m_mdt0_t70.2.2.1 (by omega) (by omega) (by decide) (by decide) (fun t72 C_t72 X_t72 a_t72 b_t72 d_t72 w_t72 u_t72 v_t72 j_t72 l_t72 => ?_)
                  have e_t72 := C_t72.2.2.2.1
                  rw [a_t70] at a_t72
                  rw [b_t70] at b_t72
                  rw [d_t70] at d_t72
                  rw [w_t70] at w_t72
                  rw [u_t70] at u_t72
                  rw [v_t70] at v_t72
                  clear d_t70 w_t70 u_t70 v_t70 e_t70 a_t70
                  have I_n_t72 := I_n_t70.chd X_t72 j_t72
                  have f_n_t72 := f_n_t70.ex I_n_t70 (X_t72 0 (Nat.zero_le _))
                  have u_n_t72 := u_n_t70.ex I_n_t70 (X_t72 0 (Nat.zero_le _))
                  have I_m_mdt0_t72 := I_m_mdt0_t70.chd X_t72 j_t72
                  have u_m_mdt0_t72 := u_m_mdt0_t70.ex I_m_mdt0_t70 (X_t72 0 (Nat.zero_le _))
                  have f_m_mdt0_t72 : Fz t72 (m_md t0) := j_t72.2.2.2.2.1
                  have I_m_mdt70_t72 : Nq t72 (m_md t70) := Nq.chn j_t72 (by omega) I_m_mdt0_t70 (by decide)
                  have u_m_mdt70_t72 : Up t72 (m_md t70) := Or.inl j_t72.2.1
                  have z_t73 : m_at t72 < m_ct t72 := lo_ne (Nat.ne_of_gt (show 0 < lo t72 (m_at t72) from by omega))
                  refine Kp_at C_t72 (fun t73 C_t73 X_t73 a_t73 b_t73 d_t73 w_t73 u_t73 v_t73 j_t73 l_t73 => ?_)
                  have e_t73 := C_t73.2.2.2.1
                  rw [a_t72] at a_t73
                  rw [b_t72] at b_t73
                  rw [d_t72] at d_t73
                  rw [w_t72] at w_t73
                  rw [u_t72] at u_t73
                  rw [v_t72] at v_t73
                  rw [a_t72, e_t72] at z_t73
                  clear z_t68
                  clear d_t72 w_t72 u_t72 v_t72 e_t72 a_t72 b_t72
                  have I_n_t73 := I_n_t72.flat X_t73
                  have f_n_t73 := f_n_t72.ex I_n_t72 (X_t73 0)
                  have u_n_t73 := u_n_t72.ex I_n_t72 (X_t73 0)
                  have I_m_mdt0_t73 := I_m_mdt0_t72.flat X_t73
                  have f_m_mdt0_t73 := f_m_mdt0_t72.ex I_m_mdt0_t72 (X_t73 0)
                  have u_m_mdt0_t73 := u_m_mdt0_t72.ex I_m_mdt0_t72 (X_t73 0)
                  have I_m_mdt70_t73 := I_m_mdt70_t72.flat X_t73
                  have u_m_mdt70_t73 := u_m_mdt70_t72.ex I_m_mdt70_t72 (X_t73 0)
                  refine Ok_bnc ?_
                  try unfold b_X6_expression
                  refine Kp_push C_t73 (by omega) (fun t75 C_t75 X_t75 a_t75 b_t75 d_t75 w_t75 u_t75 v_t75 j_t75 l_t75 => ?_)
                  have e_t75 := C_t75.2.2.2.1
                  rw [a_t73] at a_t75
                  rw [b_t73] at b_t75
                  rw [d_t73] at d_t75
                  rw [w_t73] at w_t75
                  rw [u_t73] at u_t75
                  rw [v_t73] at v_t75
                  clear d_t73 w_t73 u_t73 v_t73 e_t73 a_t73 b_t73
                  have I_n_t75 := I_n_t73.flat X_t75
                  have f_n_t75 := f_n_t73.ex I_n_t73 (X_t75 0)
                  have u_n_t75 := u_n_t73.ex I_n_t73 (X_t75 0)
                  have I_m_mdt0_t75 := I_m_mdt0_t73.flat X_t75
                  have f_m_mdt0_t75 := f_m_mdt0_t73.ex I_m_mdt0_t73 (X_t75 0)
                  have u_m_mdt0_t75 := u_m_mdt0_t73.ex I_m_mdt0_t73 (X_t75 0)
                  have I_m_mdt70_t75 := I_m_mdt70_t73.flat X_t75
                  have u_m_mdt70_t75 := u_m_mdt70_t73.ex I_m_mdt70_t73 (X_t75 0)
                  refine Kp_push C_t75 (by omega) (fun t76 C_t76 X_t76 a_t76 b_t76 d_t76 w_t76 u_t76 v_t76 j_t76 l_t76 => ?_)
                  have e_t76 := C_t76.2.2.2.1
                  rw [a_t75] at a_t76
                  rw [b_t75] at b_t76
                  rw [d_t75] at d_t76
                  rw [w_t75] at w_t76
                  rw [u_t75] at u_t76
                  rw [v_t75] at v_t76
                  clear d_t75 w_t75 u_t75 v_t75 e_t75 a_t75 b_t75
                  have I_n_t76 := I_n_t75.flat X_t76
                  have f_n_t76 := f_n_t75.ex I_n_t75 (X_t76 0)
                  have u_n_t76 := u_n_t75.ex I_n_t75 (X_t76 0)
                  have I_m_mdt0_t76 := I_m_mdt0_t75.flat X_t76
                  have f_m_mdt0_t76 := f_m_mdt0_t75.ex I_m_mdt0_t75 (X_t76 0)
                  have u_m_mdt0_t76 := u_m_mdt0_t75.ex I_m_mdt0_t75 (X_t76 0)
                  have I_m_mdt70_t76 := I_m_mdt70_t75.flat X_t76
                  have u_m_mdt70_t76 := u_m_mdt70_t75.ex I_m_mdt70_t75 (X_t76 0)
                  refine Ok_ret (show Ok _ _ _ from ?_)
                  refine Ok_ret (show Ok _ _ _ from ?_)
                  refine Hv_mk (Kv_c (x := (3, m_md t0, 1)) rfl (Kv_c (x := (2, m_md t0, 1 ||| (1 * 256))) rfl (Kv_c (x := (38, m_md t0, 0)) rfl (Kv_c (x := (45, m_md t0, 0)) rfl hK)))) (C_t76.1.2.2.2.2.2.2 hTt) C_t76 hT (by omega) (by omega) (by omega) ?_ ?_ ?_ (by omega) ?_ ?_ ?_
                  · exact ⟨(Io_n (by decide) (by decide) I_m_mdt0_t76.1 I_m_mdt0_t76.2.1 I_m_mdt0_t76.2.2.1 (fun q => absurd q (by decide)) (fun q => absurd q (by decide)) I_m_mdt0_t76.2.2.2), (Nd_0 (by decide) Mo_nil), ⟨(Io_2 (by have := or_256 (b := 1) (show 1 < 256 from by omega); omega) (by have := or_256 (b := 1) (show 1 < 256 from by omega); omega) (by have := or_256 (b := 1) (show 1 < 256 from by omega); omega) I_m_mdt0_t76.1 I_m_mdt0_t76.2.1 I_m_mdt0_t76.2.2.1 I_m_mdt0_t76.2.2.2), (Nd_A (by decide) (Mo_cons (fun q => show m_md t0 ≤ m_md t0 from by omega) Mo_nil) (Or.inr ⟨(3, m_md t0, 1), List.mem_cons_self, rfl, Or.inl rfl⟩)), ⟨(Io_n (by decide) (by decide) I_m_mdt0_t76.1 I_m_mdt0_t76.2.1 I_m_mdt0_t76.2.2.1 (fun q => absurd q (by decide)) (fun q => absurd q (by decide)) I_m_mdt0_t76.2.2.2), (Nd_0 (by decide) (Mo_cons (fun q => show m_md t0 ≤ m_md t0 from by omega) (Mo_cons (fun q => show m_md t0 ≤ m_md t0 from by omega) Mo_nil))), ⟨(Io_n (by decide) (by decide) I_m_mdt0_t76.1 I_m_mdt0_t76.2.1 I_m_mdt0_t76.2.2.1 (fun q => absurd q (by decide)) (fun q => absurd q (by decide)) I_m_mdt0_t76.2.2.2), (Nd_0 (by decide) (Mo_cons (fun q => show m_md t0 ≤ m_md t0 from by omega) (Mo_cons (fun q => show m_md t0 ≤ m_md t0 from by omega) (Mo_cons (fun q => show m_md t0 ≤ m_md t0 from by omega) Mo_nil)))), Stk_step (N := n) (pop := (59, n, t)) (new := [(45, m_md t0, 0), (38, m_md t0, 0), (2, m_md t0, 1 ||| (1 * 256)), (3, m_md t0, 1)]) F0 C_t76.1.to2 (fun (h : nk 59 = false) => absurd h (by decide)) (fun q _ h => h (59, n, t) rfl) (fun _ => rfl) (fun y hy hk => ⟨rfl, (Mo_cons (fun q => show n ≤ m_md t0 from by omega) (Mo_cons (fun q => show n ≤ m_md t0 from by omega) (Mo_cons (fun q => show n ≤ m_md t0 from by omega) (Mo_cons (fun q => show n ≤ m_md t0 from by omega) Mo_nil)))) y hy hk⟩) (fun (h : 59 = 3 ∨ 59 = 18 ∨ 59 = 41) => absurd h (by decide)) (fun (h : 59 = 18) => absurd h (by decide)) (fun (h : 59 = 41 ∨ 59 = 42 ∨ 59 = 43) => absurd h (by decide)) r [] (fun y hy => absurd hy List.not_mem_nil) hS⟩⟩⟩⟩
                  · exact (Aj_up (x := (3, m_md t0, 1)) (Aj_up (x := (2, m_md t0, 1 ||| (1 * 256))) (Aj_up (x := (38, m_md t0, 0)) (Aj_sub (y := (45, m_md t0, 0)) hJ (Nat.le_of_ble_eq_true rfl)) (Or.inr (Nat.le_of_ble_eq_true rfl))) (Or.inr (show 9 - (1 ||| (1 * 256)) / 256 < 12 from by have := or_256 (b := 1) (show 1 < 256 from by omega); omega))) (Or.inr (show 2 < 9 - (1 ||| (1 * 256)) / 256 from by have := or_256 (b := 1) (show 1 < 256 from by omega); omega)))
                  · show m_dp t76 = (dlt 3 + (dlt 2 + (dlt 38 + (dlt 45 + sD r))))
                    have : dlt 2 = 0 := rfl; have : dlt 3 = 0 := rfl; have : dlt 38 = 0 := rfl; have : dlt 45 = 0 := rfl; have : dlt 59 = 0 := rfl; omega
                  · show m_rw t76 = (rho 3 + (rho 2 + (rho 38 + (rho 45 + sR r))))
                    have : rho 2 = 0 := rfl; have : rho 3 = 0 := rfl; have : rho 38 = 0 := rfl; have : rho 45 = 0 := rfl; have : rho 59 = 0 := rfl; omega
                  · show m_md t76 + (mu7 3 + (mu7 2 + (mu7 38 + (mu7 45 + sM r)))) ≤ 3 * m_at t76 + 7 * (r.length + 1 + 1 + 1 + 1) + 10
                    have : mu7 2 = 7 := rfl; have : mu7 3 = 5 := rfl; have : mu7 38 = 2 := rfl; have : mu7 45 = 7 := rfl; have : mu7 59 = 6 := rfl; omega
                  · show (wt 3 + (wt 2 + (wt 38 + (wt 45 + sW r)))) + 6 * (4096 - m_at t76) + 4 * (600 - (r.length + 1 + 1 + 1 + 1)) < (wt 59 + sW r) + 6 * (4096 - m_at t0) + 4 * (600 - (r.length + 1))
                    have : wt 2 = 5 := rfl; have : wt 3 = 3 := rfl; have : wt 38 = 0 := rfl; have : wt 45 = 5 := rfl; have : wt 59 = 7 := rfl; omega
                · refine Kp_push C_t70 (by omega) (fun t77 C_t77 X_t77 a_t77 b_t77 d_t77 w_t77 u_t77 v_t77 j_t77 l_t77 => ?_)
                  have e_t77 := C_t77.2.2.2.1
                  rw [a_t70] at a_t77
                  rw [b_t70] at b_t77
                  rw [d_t70] at d_t77
                  rw [w_t70] at w_t77
                  rw [u_t70] at u_t77
                  rw [v_t70] at v_t77
                  clear d_t70 w_t70 u_t70 v_t70 e_t70 a_t70 b_t70
                  have I_n_t77 := I_n_t70.flat X_t77
                  have f_n_t77 := f_n_t70.ex I_n_t70 (X_t77 0)
                  have u_n_t77 := u_n_t70.ex I_n_t70 (X_t77 0)
                  have I_m_mdt0_t77 := I_m_mdt0_t70.flat X_t77
                  have u_m_mdt0_t77 := u_m_mdt0_t70.ex I_m_mdt0_t70 (X_t77 0)
                  refine Kp_push C_t77 (by omega) (fun t78 C_t78 X_t78 a_t78 b_t78 d_t78 w_t78 u_t78 v_t78 j_t78 l_t78 => ?_)
                  have e_t78 := C_t78.2.2.2.1
                  rw [a_t77] at a_t78
                  rw [b_t77] at b_t78
                  rw [d_t77] at d_t78
                  rw [w_t77] at w_t78
                  rw [u_t77] at u_t78
                  rw [v_t77] at v_t78
                  clear d_t77 w_t77 u_t77 v_t77 e_t77 a_t77 b_t77
                  have I_n_t78 := I_n_t77.flat X_t78
                  have f_n_t78 := f_n_t77.ex I_n_t77 (X_t78 0)
                  have u_n_t78 := u_n_t77.ex I_n_t77 (X_t78 0)
                  have I_m_mdt0_t78 := I_m_mdt0_t77.flat X_t78
                  have u_m_mdt0_t78 := u_m_mdt0_t77.ex I_m_mdt0_t77 (X_t78 0)
                  refine Ok_ret (show Ok _ _ _ from ?_)
                  refine Hv_mk (Kv_c (x := (41, m_md t0, 1)) rfl (Kv_c (x := (44, m_md t0, 0)) rfl (Kv_c (x := (38, m_md t0, 0)) rfl (Kv_c (x := (45, m_md t0, 0)) rfl hK)))) (C_t78.1.2.2.2.2.2.2 hTt) C_t78 hT (by omega) (by omega) (by omega) ?_ ?_ ?_ (by omega) ?_ ?_ ?_
                  · exact ⟨(Io_41 (by decide) I_m_mdt0_t78.1 I_m_mdt0_t78.2.1 I_m_mdt0_t78.2.2.1 u_m_mdt0_t78 I_m_mdt0_t78.2.2.2), (Nd_0 (by decide) Mo_nil), ⟨(Io_n (by decide) (by decide) I_m_mdt0_t78.1 I_m_mdt0_t78.2.1 I_m_mdt0_t78.2.2.1 (fun _ => u_m_mdt0_t78) (fun q => absurd q (by decide)) I_m_mdt0_t78.2.2.2), (Nd_44 (by decide) (Mo_cons (fun q => show m_md t0 ≤ m_md t0 from by omega) Mo_nil) ⟨(41, m_md t0, 1), rfl, rfl, Or.inl rfl, (show 1 &&& 16 = 0 from by decide)⟩), ⟨(Io_n (by decide) (by decide) I_m_mdt0_t78.1 I_m_mdt0_t78.2.1 I_m_mdt0_t78.2.2.1 (fun q => absurd q (by decide)) (fun q => absurd q (by decide)) I_m_mdt0_t78.2.2.2), (Nd_0 (by decide) (Mo_cons (fun q => show m_md t0 ≤ m_md t0 from by omega) (Mo_cons (fun q => show m_md t0 ≤ m_md t0 from by omega) Mo_nil))), ⟨(Io_n (by decide) (by decide) I_m_mdt0_t78.1 I_m_mdt0_t78.2.1 I_m_mdt0_t78.2.2.1 (fun q => absurd q (by decide)) (fun q => absurd q (by decide)) I_m_mdt0_t78.2.2.2), (Nd_0 (by decide) (Mo_cons (fun q => show m_md t0 ≤ m_md t0 from by omega) (Mo_cons (fun q => show m_md t0 ≤ m_md t0 from by omega) (Mo_cons (fun q => show m_md t0 ≤ m_md t0 from by omega) Mo_nil)))), Stk_step (N := n) (pop := (59, n, t)) (new := [(45, m_md t0, 0), (38, m_md t0, 0), (44, m_md t0, 0), (41, m_md t0, 1)]) F0 C_t78.1.to2 (fun (h : nk 59 = false) => absurd h (by decide)) (fun q _ h => h (59, n, t) rfl) (fun _ => rfl) (fun y hy hk => ⟨rfl, (Mo_cons (fun q => show n ≤ m_md t0 from by omega) (Mo_cons (fun q => show n ≤ m_md t0 from by omega) (Mo_cons (fun q => show n ≤ m_md t0 from by omega) (Mo_cons (fun q => show n ≤ m_md t0 from by omega) Mo_nil)))) y hy hk⟩) (fun (h : 59 = 3 ∨ 59 = 18 ∨ 59 = 41) => absurd h (by decide)) (fun (h : 59 = 18) => absurd h (by decide)) (fun (h : 59 = 41 ∨ 59 = 42 ∨ 59 = 43) => absurd h (by decide)) r [] (fun y hy => absurd hy List.not_mem_nil) hS⟩⟩⟩⟩
                  · exact (Aj_up (x := (41, m_md t0, 1)) (Aj_up (x := (44, m_md t0, 0)) (Aj_up (x := (38, m_md t0, 0)) (Aj_sub (y := (45, m_md t0, 0)) hJ (Nat.le_of_ble_eq_true rfl)) (Or.inr (Nat.le_of_ble_eq_true rfl))) (Or.inr (Nat.le_of_ble_eq_true rfl))) (Or.inr (Nat.le_of_ble_eq_true rfl)))
                  · show m_dp t78 = (dlt 41 + (dlt 44 + (dlt 38 + (dlt 45 + sD r))))
                    have : dlt 38 = 0 := rfl; have : dlt 41 = 0 := rfl; have : dlt 44 = 0 := rfl; have : dlt 45 = 0 := rfl; have : dlt 59 = 0 := rfl; omega
                  · show m_rw t78 = (rho 41 + (rho 44 + (rho 38 + (rho 45 + sR r))))
                    have : rho 38 = 0 := rfl; have : rho 41 = 0 := rfl; have : rho 44 = 0 := rfl; have : rho 45 = 0 := rfl; have : rho 59 = 0 := rfl; omega
                  · show m_md t78 + (mu7 41 + (mu7 44 + (mu7 38 + (mu7 45 + sM r)))) ≤ 3 * m_at t78 + 7 * (r.length + 1 + 1 + 1 + 1) + 10
                    have : mu7 38 = 2 := rfl; have : mu7 41 = 6 := rfl; have : mu7 44 = 7 := rfl; have : mu7 45 = 7 := rfl; have : mu7 59 = 6 := rfl; omega
                  · show (wt 41 + (wt 44 + (wt 38 + (wt 45 + sW r)))) + 6 * (4096 - m_at t78) + 4 * (600 - (r.length + 1 + 1 + 1 + 1)) < (wt 59 + sW r) + 6 * (4096 - m_at t0) + 4 * (600 - (r.length + 1))
                    have : wt 38 = 0 := rfl; have : wt 41 = 6 := rfl; have : wt 44 = 5 := rfl; have : wt 45 = 5 := rfl; have : wt 59 = 7 := rfl; omega
              · refine Ok_ife (Nat.lt_trans (lo_lt (C_t0.tk hT) _) (by decide)) (by decide) (fun q79 => ?_) (fun q79 => ?_)
                · refine Ok_bnc ?_
                  try unfold b_X6_loop
                  refine Kp_child C_t0 I_n_t0.1 I_n_t0.2.1 I_n_t0.2.2.1 (by omega) (by omega) (by decide) (by decide) (fun t81 C_t81 X_t81 a_t81 b_t81 d_t81 w_t81 u_t81 v_t81 j_t81 l_t81 => ?_)
                  have e_t81 := C_t81.2.2.2.1
                  have I_n_t81 := I_n_t0.chd X_t81 j_t81
                  have u_n_t81 := u_n_t0.ex I_n_t0 (X_t81 0 (Nat.zero_le _))
                  have f_n_t81 : Fz t81 n := j_t81.2.2.2.2.1
                  have I_m_mdt0_t81 : Nq t81 (m_md t0) := Nq.chn j_t81 (by omega) I_n_t0 (by decide)
                  have u_m_mdt0_t81 : Up t81 (m_md t0) := Or.inl j_t81.2.1
                  have z_t82 : m_at t81 < m_ct t81 := lo_ne (Nat.ne_of_gt (show 0 < lo t81 (m_at t81) from by omega))
                  refine Kp_at C_t81 (fun t82 C_t82 X_t82 a_t82 b_t82 d_t82 w_t82 u_t82 v_t82 j_t82 l_t82 => ?_)
                  have e_t82 := C_t82.2.2.2.1
                  rw [a_t81] at a_t82
                  rw [b_t81] at b_t82
                  rw [d_t81] at d_t82
                  rw [w_t81] at w_t82
                  rw [u_t81] at u_t82
                  rw [v_t81] at v_t82
                  rw [a_t81, e_t81] at z_t82
                  clear d_t81 w_t81 u_t81 v_t81 e_t81 a_t81 b_t81
                  have I_n_t82 := I_n_t81.flat X_t82
                  have f_n_t82 := f_n_t81.ex I_n_t81 (X_t82 0)
                  have u_n_t82 := u_n_t81.ex I_n_t81 (X_t82 0)
                  have I_m_mdt0_t82 := I_m_mdt0_t81.flat X_t82
                  have u_m_mdt0_t82 := u_m_mdt0_t81.ex I_m_mdt0_t81 (X_t82 0)
                  refine Kp_look C_t82 hT (by omega) ?_
                  refine Ok_ife (Nat.lt_trans (lo_lt (C_t82.tk hT) _) (by decide)) (by decide) (fun q83 => ?_) (fun q83 => ?_)
                  · refine Ok_bnc ?_
                    try unfold b_X6_block
                    refine Kp_look C_t82 hT (by omega) ?_
                    refine Ok_ife (Nat.lt_trans (lo_lt (C_t82.tk hT) _) (by decide)) (by decide) (fun q => ?_) (fun q => absurd q83 q)
                    refine Kp_child C_t82 I_m_mdt0_t82.1 I_m_mdt0_t82.2.1 I_m_mdt0_t82.2.2.1 (by omega) (by omega) (by decide) (by decide) (fun t85 C_t85 X_t85 a_t85 b_t85 d_t85 w_t85 u_t85 v_t85 j_t85 l_t85 => ?_)
                    have e_t85 := C_t85.2.2.2.1
                    rw [a_t82] at a_t85
                    rw [b_t82] at b_t85
                    rw [d_t82] at d_t85
                    rw [w_t82] at w_t85
                    rw [u_t82] at u_t85
                    rw [v_t82] at v_t85
                    clear d_t82 w_t82 u_t82 v_t82 e_t82 a_t82
                    have I_n_t85 := I_n_t82.chd X_t85 j_t85
                    have f_n_t85 := f_n_t82.ex I_n_t82 (X_t85 0 (Nat.zero_le _))
                    have u_n_t85 := u_n_t82.ex I_n_t82 (X_t85 0 (Nat.zero_le _))
                    have I_m_mdt0_t85 := I_m_mdt0_t82.chd X_t85 j_t85
                    have u_m_mdt0_t85 := u_m_mdt0_t82.ex I_m_mdt0_t82 (X_t85 0 (Nat.zero_le _))
                    have f_m_mdt0_t85 : Fz t85 (m_md t0) := j_t85.2.2.2.2.1
                    have I_m_mdt82_t85 : Nq t85 (m_md t82) := Nq.chn j_t85 (by omega) I_m_mdt0_t82 (by decide)
                    have u_m_mdt82_t85 : Up t85 (m_md t82) := Or.inl j_t85.2.1
                    refine Kp_more C_t85 (by omega) (by omega) (fun t86 C_t86 X_t86 a_t86 b_t86 d_t86 w_t86 u_t86 v_t86 j_t86 l_t86 => ?_)
                    have e_t86 := C_t86.2.2.2.1
                    rcases w_t86 with ⟨w_t86, y_t86⟩ | ⟨w_t86, wb_t86⟩
                    · rw [a_t85] at a_t86
                      rw [b_t85] at b_t86
                      rw [d_t85] at d_t86
                      rw [w_t85] at w_t86
                      rw [u_t85] at u_t86
                      rw [v_t85] at v_t86
                      rw [d_t86] at y_t86
                      clear d_t85 w_t85 u_t85 v_t85 e_t85 a_t85 b_t85
                      have I_n_t86 := I_n_t85.flat X_t86
                      have f_n_t86 := f_n_t85.ex I_n_t85 (X_t86 0)
                      have u_n_t86 := u_n_t85.ex I_n_t85 (X_t86 0)
                      have I_m_mdt0_t86 := I_m_mdt0_t85.flat X_t86
                      have f_m_mdt0_t86 := f_m_mdt0_t85.ex I_m_mdt0_t85 (X_t86 0)
                      have u_m_mdt0_t86 := u_m_mdt0_t85.ex I_m_mdt0_t85 (X_t86 0)
                      have I_m_mdt82_t86 := I_m_mdt82_t85.flat X_t86
                      have u_m_mdt82_t86 := u_m_mdt82_t85.ex I_m_mdt82_t85 (X_t86 0)
                      have z_t87 : m_at t86 < m_ct t86 := lo_ne (Nat.ne_of_gt (show 0 < lo t86 (m_at t86) from by omega))
                      refine Kp_at C_t86 (fun t87 C_t87 X_t87 a_t87 b_t87 d_t87 w_t87 u_t87 v_t87 j_t87 l_t87 => ?_)
                      have e_t87 := C_t87.2.2.2.1
                      rw [a_t86] at a_t87
                      rw [b_t86] at b_t87
                      rw [d_t86] at d_t87
                      rw [w_t86] at w_t87
                      rw [u_t86] at u_t87
                      rw [v_t86] at v_t87
                      rw [a_t86, e_t86] at z_t87
                      clear z_t82
                      clear d_t86 w_t86 u_t86 v_t86 e_t86 a_t86 b_t86
                      have I_n_t87 := I_n_t86.flat X_t87
                      have f_n_t87 := f_n_t86.ex I_n_t86 (X_t87 0)
                      have u_n_t87 := u_n_t86.ex I_n_t86 (X_t87 0)
                      have I_m_mdt0_t87 := I_m_mdt0_t86.flat X_t87
                      have f_m_mdt0_t87 := f_m_mdt0_t86.ex I_m_mdt0_t86 (X_t87 0)
                      have u_m_mdt0_t87 := u_m_mdt0_t86.ex I_m_mdt0_t86 (X_t87 0)
                      have I_m_mdt82_t87 := I_m_mdt82_t86.flat X_t87
                      have u_m_mdt82_t87 := u_m_mdt82_t86.ex I_m_mdt82_t86 (X_t87 0)
                      refine Kp_push C_t87 (by omega) (fun t88 C_t88 X_t88 a_t88 b_t88 d_t88 w_t88 u_t88 v_t88 j_t88 l_t88 => ?_)
                      have e_t88 := C_t88.2.2.2.1
                      rw [a_t87] at a_t88
                      rw [b_t87] at b_t88
                      rw [d_t87] at d_t88
                      rw [w_t87] at w_t88
                      rw [u_t87] at u_t88
                      rw [v_t87] at v_t88
                      clear d_t87 w_t87 u_t87 v_t87 e_t87 a_t87 b_t87
                      have I_n_t88 := I_n_t87.flat X_t88
                      have f_n_t88 := f_n_t87.ex I_n_t87 (X_t88 0)
                      have u_n_t88 := u_n_t87.ex I_n_t87 (X_t88 0)
                      have I_m_mdt0_t88 := I_m_mdt0_t87.flat X_t88
                      have f_m_mdt0_t88 := f_m_mdt0_t87.ex I_m_mdt0_t87 (X_t88 0)
                      have u_m_mdt0_t88 := u_m_mdt0_t87.ex I_m_mdt0_t87 (X_t88 0)
                      have I_m_mdt82_t88 := I_m_mdt82_t87.flat X_t88
                      have u_m_mdt82_t88 := u_m_mdt82_t87.ex I_m_mdt82_t87 (X_t88 0)
                      refine Kp_push C_t88 (by omega) (fun t89 C_t89 X_t89 a_t89 b_t89 d_t89 w_t89 u_t89 v_t89 j_t89 l_t89 => ?_)
                      have e_t89 := C_t89.2.2.2.1
                      rw [a_t88] at a_t89
                      rw [b_t88] at b_t89
                      rw [d_t88] at d_t89
                      rw [w_t88] at w_t89
                      rw [u_t88] at u_t89
                      rw [v_t88] at v_t89
                      clear d_t88 w_t88 u_t88 v_t88 e_t88 a_t88 b_t88
                      have I_n_t89 := I_n_t88.flat X_t89
                      have f_n_t89 := f_n_t88.ex I_n_t88 (X_t89 0)
                      have u_n_t89 := u_n_t88.ex I_n_t88 (X_t89 0)
                      have I_m_mdt0_t89 := I_m_mdt0_t88.flat X_t89
                      have f_m_mdt0_t89 := f_m_mdt0_t88.ex I_m_mdt0_t88 (X_t89 0)
                      have u_m_mdt0_t89 := u_m_mdt0_t88.ex I_m_mdt0_t88 (X_t89 0)
                      have I_m_mdt82_t89 := I_m_mdt82_t88.flat X_t89
                      have u_m_mdt82_t89 := u_m_mdt82_t88.ex I_m_mdt82_t88 (X_t89 0)
                      refine Ok_ret (show Ok _ _ _ from ?_)
                      refine Ok_ret (show Ok _ _ _ from ?_)
                      refine Hv_mk (Kv_c (x := (39, m_md t82, 0)) rfl (Kv_c (x := (8, 83, 0)) rfl hK)) (C_t89.1.2.2.2.2.2.2 hTt) C_t89 hT (by omega) (by omega) (by omega) ?_ ?_ ?_ (by omega) ?_ ?_ ?_
                      · exact ⟨(Io_n (by decide) (by decide) I_m_mdt82_t89.1 I_m_mdt82_t89.2.1 I_m_mdt82_t89.2.2.1 (fun _ => u_m_mdt82_t89) (fun q => absurd q (by decide)) I_m_mdt82_t89.2.2.2), (Nd_0 (by decide) Mo_nil), ⟨(Io_78 (by decide) (by decide) (by decide)), (Nd_x (by decide)), Stk_step (N := n) (pop := (59, n, t)) (new := [(8, 83, 0), (39, m_md t82, 0)]) F0 C_t89.1.to2 (fun (h : nk 59 = false) => absurd h (by decide)) (fun q _ h => h (59, n, t) rfl) (fun _ => rfl) (fun y hy hk => ⟨rfl, (Mo_cons (fun q => absurd (show nk 8 = true from q) (by decide)) (Mo_cons (fun q => show n ≤ m_md t82 from by omega) Mo_nil)) y hy hk⟩) (fun (h : 59 = 3 ∨ 59 = 18 ∨ 59 = 41) => absurd h (by decide)) (fun (h : 59 = 18) => absurd h (by decide)) (fun (h : 59 = 41 ∨ 59 = 42 ∨ 59 = 43) => absurd h (by decide)) r [] (fun y hy => absurd hy List.not_mem_nil) hS⟩⟩
                      · exact (Aj_up (x := (39, m_md t82, 0)) (Aj_sub (y := (8, 83, 0)) hJ (Nat.le_of_ble_eq_true rfl)) (Or.inl (Nat.le_of_ble_eq_true rfl)))
                      · show m_dp t89 = (dlt 39 + (dlt 8 + sD r))
                        have : dlt 39 = 0 := rfl; have : dlt 59 = 0 := rfl; have : dlt 8 = 1 := rfl; omega
                      · show m_rw t89 = (rho 39 + (rho 8 + sR r))
                        have : rho 39 = 0 := rfl; have : rho 59 = 0 := rfl; have : rho 8 = 0 := rfl; omega
                      · show m_md t89 + (mu7 39 + (mu7 8 + sM r)) ≤ 3 * m_at t89 + 7 * (r.length + 1 + 1) + 10
                        have : mu7 39 = 7 := rfl; have : mu7 59 = 6 := rfl; have : mu7 8 = 4 := rfl; omega
                      · show (wt 39 + (wt 8 + sW r)) + 6 * (4096 - m_at t89) + 4 * (600 - (r.length + 1 + 1)) < (wt 59 + sW r) + 6 * (4096 - m_at t0) + 4 * (600 - (r.length + 1))
                        have : wt 39 = 9 := rfl; have : wt 59 = 7 := rfl; have : wt 8 = 0 := rfl; omega
                    · have w_t86 := Nat.pos_of_ne_zero w_t86
                      have I_n_t86 := I_n_t85.flat X_t86
                      have f_n_t86 := f_n_t85.ex I_n_t85 (X_t86 0)
                      have u_n_t86 := u_n_t85.ex I_n_t85 (X_t86 0)
                      have I_m_mdt0_t86 := I_m_mdt0_t85.flat X_t86
                      have f_m_mdt0_t86 := f_m_mdt0_t85.ex I_m_mdt0_t85 (X_t86 0)
                      have u_m_mdt0_t86 := u_m_mdt0_t85.ex I_m_mdt0_t85 (X_t86 0)
                      have I_m_mdt82_t86 := I_m_mdt82_t85.flat X_t86
                      have u_m_mdt82_t86 := u_m_mdt82_t85.ex I_m_mdt82_t85 (X_t86 0)
                      refine Kp_at C_t86 (fun t90 C_t90 X_t90 a_t90 b_t90 d_t90 w_t90 u_t90 v_t90 j_t90 l_t90 => ?_)
                      have e_t90 := C_t90.2.2.2.1
                      have I_n_t90 := I_n_t86.flat X_t90
                      have f_n_t90 := f_n_t86.ex I_n_t86 (X_t90 0)
                      have u_n_t90 := u_n_t86.ex I_n_t86 (X_t90 0)
                      have I_m_mdt0_t90 := I_m_mdt0_t86.flat X_t90
                      have f_m_mdt0_t90 := f_m_mdt0_t86.ex I_m_mdt0_t86 (X_t90 0)
                      have u_m_mdt0_t90 := u_m_mdt0_t86.ex I_m_mdt0_t86 (X_t90 0)
                      have I_m_mdt82_t90 := I_m_mdt82_t86.flat X_t90
                      have u_m_mdt82_t90 := u_m_mdt82_t86.ex I_m_mdt82_t86 (X_t90 0)
                      refine Kp_push C_t90 (by omega) (fun t91 C_t91 X_t91 a_t91 b_t91 d_t91 w_t91 u_t91 v_t91 j_t91 l_t91 => ?_)
                      have e_t91 := C_t91.2.2.2.1
                      have I_n_t91 := I_n_t90.flat X_t91
                      have f_n_t91 := f_n_t90.ex I_n_t90 (X_t91 0)
                      have u_n_t91 := u_n_t90.ex I_n_t90 (X_t91 0)
                      have I_m_mdt0_t91 := I_m_mdt0_t90.flat X_t91
                      have f_m_mdt0_t91 := f_m_mdt0_t90.ex I_m_mdt0_t90 (X_t91 0)
                      have u_m_mdt0_t91 := u_m_mdt0_t90.ex I_m_mdt0_t90 (X_t91 0)
                      have I_m_mdt82_t91 := I_m_mdt82_t90.flat X_t91
                      have u_m_mdt82_t91 := u_m_mdt82_t90.ex I_m_mdt82_t90 (X_t91 0)
                      refine Kp_push C_t91 (by omega) (fun t92 C_t92 X_t92 a_t92 b_t92 d_t92 w_t92 u_t92 v_t92 j_t92 l_t92 => ?_)
                      have e_t92 := C_t92.2.2.2.1
                      have I_n_t92 := I_n_t91.flat X_t92
                      have f_n_t92 := f_n_t91.ex I_n_t91 (X_t92 0)
                      have u_n_t92 := u_n_t91.ex I_n_t91 (X_t92 0)
                      have I_m_mdt0_t92 := I_m_mdt0_t91.flat X_t92
                      have f_m_mdt0_t92 := f_m_mdt0_t91.ex I_m_mdt0_t91 (X_t92 0)
                      have u_m_mdt0_t92 := u_m_mdt0_t91.ex I_m_mdt0_t91 (X_t92 0)
                      have I_m_mdt82_t92 := I_m_mdt82_t91.flat X_t92
                      have u_m_mdt82_t92 := u_m_mdt82_t91.ex I_m_mdt82_t91 (X_t92 0)
                      refine Ok_ret (show Ok _ _ _ from ?_)
                      refine Ok_ret (show Ok _ _ _ from ?_)
                      exact Or.inl ⟨Nat.ne_of_gt (show 0 < m_wr t92 from by omega), by omega, by omega, C_t92.2.2.2.2.2, by omega⟩
                  · refine Ok_ife (Nat.lt_trans (lo_lt (C_t82.tk hT) _) (by decide)) (by decide) (fun q93 => ?_) (fun q93 => ?_)
                    · refine Kp_child C_t82 I_m_mdt0_t82.1 I_m_mdt0_t82.2.1 I_m_mdt0_t82.2.2.1 (by omega) (by omega) (by decide) (by decide) (fun t94 C_t94 X_t94 a_t94 b_t94 d_t94 w_t94 u_t94 v_t94 j_t94 l_t94 => ?_)
                      have e_t94 := C_t94.2.2.2.1
                      rw [a_t82] at a_t94
                      rw [b_t82] at b_t94
                      rw [d_t82] at d_t94
                      rw [w_t82] at w_t94
                      rw [u_t82] at u_t94
                      rw [v_t82] at v_t94
                      clear d_t82 w_t82 u_t82 v_t82 e_t82 a_t82
                      have I_n_t94 := I_n_t82.chd X_t94 j_t94
                      have f_n_t94 := f_n_t82.ex I_n_t82 (X_t94 0 (Nat.zero_le _))
                      have u_n_t94 := u_n_t82.ex I_n_t82 (X_t94 0 (Nat.zero_le _))
                      have I_m_mdt0_t94 := I_m_mdt0_t82.chd X_t94 j_t94
                      have u_m_mdt0_t94 := u_m_mdt0_t82.ex I_m_mdt0_t82 (X_t94 0 (Nat.zero_le _))
                      have f_m_mdt0_t94 : Fz t94 (m_md t0) := j_t94.2.2.2.2.1
                      have I_m_mdt82_t94 : Nq t94 (m_md t82) := Nq.chn j_t94 (by omega) I_m_mdt0_t82 (by decide)
                      have u_m_mdt82_t94 : Up t94 (m_md t82) := Or.inl j_t94.2.1
                      have z_t95 : m_at t94 < m_ct t94 := lo_ne (Nat.ne_of_gt (show 0 < lo t94 (m_at t94) from by omega))
                      refine Kp_at C_t94 (fun t95 C_t95 X_t95 a_t95 b_t95 d_t95 w_t95 u_t95 v_t95 j_t95 l_t95 => ?_)
                      have e_t95 := C_t95.2.2.2.1
                      rw [a_t94] at a_t95
                      rw [b_t94] at b_t95
                      rw [d_t94] at d_t95
                      rw [w_t94] at w_t95
                      rw [u_t94] at u_t95
                      rw [v_t94] at v_t95
                      rw [a_t94, e_t94] at z_t95
                      clear z_t82
                      clear d_t94 w_t94 u_t94 v_t94 e_t94 a_t94 b_t94
                      have I_n_t95 := I_n_t94.flat X_t95
                      have f_n_t95 := f_n_t94.ex I_n_t94 (X_t95 0)
                      have u_n_t95 := u_n_t94.ex I_n_t94 (X_t95 0)
                      have I_m_mdt0_t95 := I_m_mdt0_t94.flat X_t95
                      have f_m_mdt0_t95 := f_m_mdt0_t94.ex I_m_mdt0_t94 (X_t95 0)
                      have u_m_mdt0_t95 := u_m_mdt0_t94.ex I_m_mdt0_t94 (X_t95 0)
                      have I_m_mdt82_t95 := I_m_mdt82_t94.flat X_t95
                      have u_m_mdt82_t95 := u_m_mdt82_t94.ex I_m_mdt82_t94 (X_t95 0)
                      refine Kp_push C_t95 (by omega) (fun t96 C_t96 X_t96 a_t96 b_t96 d_t96 w_t96 u_t96 v_t96 j_t96 l_t96 => ?_)
                      have e_t96 := C_t96.2.2.2.1
                      rw [a_t95] at a_t96
                      rw [b_t95] at b_t96
                      rw [d_t95] at d_t96
                      rw [w_t95] at w_t96
                      rw [u_t95] at u_t96
                      rw [v_t95] at v_t96
                      clear d_t95 w_t95 u_t95 v_t95 e_t95 a_t95 b_t95
                      have I_n_t96 := I_n_t95.flat X_t96
                      have f_n_t96 := f_n_t95.ex I_n_t95 (X_t96 0)
                      have u_n_t96 := u_n_t95.ex I_n_t95 (X_t96 0)
                      have I_m_mdt0_t96 := I_m_mdt0_t95.flat X_t96
                      have f_m_mdt0_t96 := f_m_mdt0_t95.ex I_m_mdt0_t95 (X_t96 0)
                      have u_m_mdt0_t96 := u_m_mdt0_t95.ex I_m_mdt0_t95 (X_t96 0)
                      have I_m_mdt82_t96 := I_m_mdt82_t95.flat X_t96
                      have u_m_mdt82_t96 := u_m_mdt82_t95.ex I_m_mdt82_t95 (X_t96 0)
                      refine Ok_bnc ?_
                      try unfold b_X6_expression
                      refine Kp_push C_t96 (by omega) (fun t98 C_t98 X_t98 a_t98 b_t98 d_t98 w_t98 u_t98 v_t98 j_t98 l_t98 => ?_)
                      have e_t98 := C_t98.2.2.2.1
                      rw [a_t96] at a_t98
                      rw [b_t96] at b_t98
                      rw [d_t96] at d_t98
                      rw [w_t96] at w_t98
                      rw [u_t96] at u_t98
                      rw [v_t96] at v_t98
                      clear d_t96 w_t96 u_t96 v_t96 e_t96 a_t96 b_t96
                      have I_n_t98 := I_n_t96.flat X_t98
                      have f_n_t98 := f_n_t96.ex I_n_t96 (X_t98 0)
                      have u_n_t98 := u_n_t96.ex I_n_t96 (X_t98 0)
                      have I_m_mdt0_t98 := I_m_mdt0_t96.flat X_t98
                      have f_m_mdt0_t98 := f_m_mdt0_t96.ex I_m_mdt0_t96 (X_t98 0)
                      have u_m_mdt0_t98 := u_m_mdt0_t96.ex I_m_mdt0_t96 (X_t98 0)
                      have I_m_mdt82_t98 := I_m_mdt82_t96.flat X_t98
                      have u_m_mdt82_t98 := u_m_mdt82_t96.ex I_m_mdt82_t96 (X_t98 0)
                      refine Kp_push C_t98 (by omega) (fun t99 C_t99 X_t99 a_t99 b_t99 d_t99 w_t99 u_t99 v_t99 j_t99 l_t99 => ?_)
                      have e_t99 := C_t99.2.2.2.1
                      rw [a_t98] at a_t99
                      rw [b_t98] at b_t99
                      rw [d_t98] at d_t99
                      rw [w_t98] at w_t99
                      rw [u_t98] at u_t99
                      rw [v_t98] at v_t99
                      clear d_t98 w_t98 u_t98 v_t98 e_t98 a_t98 b_t98
                      have I_n_t99 := I_n_t98.flat X_t99
                      have f_n_t99 := f_n_t98.ex I_n_t98 (X_t99 0)
                      have u_n_t99 := u_n_t98.ex I_n_t98 (X_t99 0)
                      have I_m_mdt0_t99 := I_m_mdt0_t98.flat X_t99
                      have f_m_mdt0_t99 := f_m_mdt0_t98.ex I_m_mdt0_t98 (X_t99 0)
                      have u_m_mdt0_t99 := u_m_mdt0_t98.ex I_m_mdt0_t98 (X_t99 0)
                      have I_m_mdt82_t99 := I_m_mdt82_t98.flat X_t99
                      have u_m_mdt82_t99 := u_m_mdt82_t98.ex I_m_mdt82_t98 (X_t99 0)
                      refine Ok_ret (show Ok _ _ _ from ?_)
                      refine Ok_ret (show Ok _ _ _ from ?_)
                      refine Hv_mk (Kv_c (x := (3, m_md t82, 1)) rfl (Kv_c (x := (2, m_md t82, 1 ||| (1 * 256))) rfl (Kv_c (x := (38, m_md t0, 0)) rfl hK))) (C_t99.1.2.2.2.2.2.2 hTt) C_t99 hT (by omega) (by omega) (by omega) ?_ ?_ ?_ (by omega) ?_ ?_ ?_
                      · exact ⟨(Io_n (by decide) (by decide) I_m_mdt82_t99.1 I_m_mdt82_t99.2.1 I_m_mdt82_t99.2.2.1 (fun q => absurd q (by decide)) (fun q => absurd q (by decide)) I_m_mdt82_t99.2.2.2), (Nd_0 (by decide) Mo_nil), ⟨(Io_2 (by have := or_256 (b := 1) (show 1 < 256 from by omega); omega) (by have := or_256 (b := 1) (show 1 < 256 from by omega); omega) (by have := or_256 (b := 1) (show 1 < 256 from by omega); omega) I_m_mdt82_t99.1 I_m_mdt82_t99.2.1 I_m_mdt82_t99.2.2.1 I_m_mdt82_t99.2.2.2), (Nd_A (by decide) (Mo_cons (fun q => show m_md t82 ≤ m_md t82 from by omega) Mo_nil) (Or.inr ⟨(3, m_md t82, 1), List.mem_cons_self, rfl, Or.inl rfl⟩)), ⟨(Io_n (by decide) (by decide) I_m_mdt0_t99.1 I_m_mdt0_t99.2.1 I_m_mdt0_t99.2.2.1 (fun q => absurd q (by decide)) (fun q => absurd q (by decide)) I_m_mdt0_t99.2.2.2), (Nd_0 (by decide) (Mo_cons (fun q => show m_md t0 ≤ m_md t82 from by omega) (Mo_cons (fun q => show m_md t0 ≤ m_md t82 from by omega) Mo_nil))), Stk_step (N := n) (pop := (59, n, t)) (new := [(38, m_md t0, 0), (2, m_md t82, 1 ||| (1 * 256)), (3, m_md t82, 1)]) F0 C_t99.1.to2 (fun (h : nk 59 = false) => absurd h (by decide)) (fun q _ h => h (59, n, t) rfl) (fun _ => rfl) (fun y hy hk => ⟨rfl, (Mo_cons (fun q => show n ≤ m_md t0 from by omega) (Mo_cons (fun q => show n ≤ m_md t82 from by omega) (Mo_cons (fun q => show n ≤ m_md t82 from by omega) Mo_nil))) y hy hk⟩) (fun (h : 59 = 3 ∨ 59 = 18 ∨ 59 = 41) => absurd h (by decide)) (fun (h : 59 = 18) => absurd h (by decide)) (fun (h : 59 = 41 ∨ 59 = 42 ∨ 59 = 43) => absurd h (by decide)) r [] (fun y hy => absurd hy List.not_mem_nil) hS⟩⟩⟩
                      · exact (Aj_up (x := (3, m_md t82, 1)) (Aj_up (x := (2, m_md t82, 1 ||| (1 * 256))) (Aj_sub (y := (38, m_md t0, 0)) hJ (Nat.le_of_ble_eq_true rfl)) (Or.inr (show 9 - (1 ||| (1 * 256)) / 256 < 12 from by have := or_256 (b := 1) (show 1 < 256 from by omega); omega))) (Or.inr (show 2 < 9 - (1 ||| (1 * 256)) / 256 from by have := or_256 (b := 1) (show 1 < 256 from by omega); omega)))
                      · show m_dp t99 = (dlt 3 + (dlt 2 + (dlt 38 + sD r)))
                        have : dlt 2 = 0 := rfl; have : dlt 3 = 0 := rfl; have : dlt 38 = 0 := rfl; have : dlt 59 = 0 := rfl; omega
                      · show m_rw t99 = (rho 3 + (rho 2 + (rho 38 + sR r)))
                        have : rho 2 = 0 := rfl; have : rho 3 = 0 := rfl; have : rho 38 = 0 := rfl; have : rho 59 = 0 := rfl; omega
                      · show m_md t99 + (mu7 3 + (mu7 2 + (mu7 38 + sM r))) ≤ 3 * m_at t99 + 7 * (r.length + 1 + 1 + 1) + 10
                        have : mu7 2 = 7 := rfl; have : mu7 3 = 5 := rfl; have : mu7 38 = 2 := rfl; have : mu7 59 = 6 := rfl; omega
                      · show (wt 3 + (wt 2 + (wt 38 + sW r))) + 6 * (4096 - m_at t99) + 4 * (600 - (r.length + 1 + 1 + 1)) < (wt 59 + sW r) + 6 * (4096 - m_at t0) + 4 * (600 - (r.length + 1))
                        have : wt 2 = 5 := rfl; have : wt 3 = 3 := rfl; have : wt 38 = 0 := rfl; have : wt 59 = 7 := rfl; omega
                    · refine Ok_ife (Nat.lt_trans (lo_lt (C_t82.tk hT) _) (by decide)) (by decide) (fun q100 => ?_) (fun q100 => ?_)
                      · refine Kp_child C_t82 I_m_mdt0_t82.1 I_m_mdt0_t82.2.1 I_m_mdt0_t82.2.2.1 (by omega) (by omega) (by decide) (by decide) (fun t101 C_t101 X_t101 a_t101 b_t101 d_t101 w_t101 u_t101 v_t101 j_t101 l_t101 => ?_)
                        have e_t101 := C_t101.2.2.2.1
                        rw [a_t82] at a_t101
                        rw [b_t82] at b_t101
                        rw [d_t82] at d_t101
                        rw [w_t82] at w_t101
                        rw [u_t82] at u_t101
                        rw [v_t82] at v_t101
                        clear d_t82 w_t82 u_t82 v_t82 e_t82 a_t82
                        have I_n_t101 := I_n_t82.chd X_t101 j_t101
                        have f_n_t101 := f_n_t82.ex I_n_t82 (X_t101 0 (Nat.zero_le _))
                        have u_n_t101 := u_n_t82.ex I_n_t82 (X_t101 0 (Nat.zero_le _))
                        have I_m_mdt0_t101 := I_m_mdt0_t82.chd X_t101 j_t101
                        have u_m_mdt0_t101 := u_m_mdt0_t82.ex I_m_mdt0_t82 (X_t101 0 (Nat.zero_le _))
                        have f_m_mdt0_t101 : Fz t101 (m_md t0) := j_t101.2.2.2.2.1
                        have I_m_mdt82_t101 : Nq t101 (m_md t82) := Nq.chn j_t101 (by omega) I_m_mdt0_t82 (by decide)
                        have u_m_mdt82_t101 : Up t101 (m_md t82) := Or.inl j_t101.2.1
                        have z_t102 : m_at t101 < m_ct t101 := lo_ne (Nat.ne_of_gt (show 0 < lo t101 (m_at t101) from by omega))
                        refine Kp_at C_t101 (fun t102 C_t102 X_t102 a_t102 b_t102 d_t102 w_t102 u_t102 v_t102 j_t102 l_t102 => ?_)
                        have e_t102 := C_t102.2.2.2.1
                        rw [a_t101] at a_t102
                        rw [b_t101] at b_t102
                        rw [d_t101] at d_t102
                        rw [w_t101] at w_t102
                        rw [u_t101] at u_t102
                        rw [v_t101] at v_t102
                        rw [a_t101, e_t101] at z_t102
                        clear z_t82
                        clear d_t101 w_t101 u_t101 v_t101 e_t101 a_t101 b_t101
                        have I_n_t102 := I_n_t101.flat X_t102
                        have f_n_t102 := f_n_t101.ex I_n_t101 (X_t102 0)
                        have u_n_t102 := u_n_t101.ex I_n_t101 (X_t102 0)
                        have I_m_mdt0_t102 := I_m_mdt0_t101.flat X_t102
                        have f_m_mdt0_t102 := f_m_mdt0_t101.ex I_m_mdt0_t101 (X_t102 0)
                        have u_m_mdt0_t102 := u_m_mdt0_t101.ex I_m_mdt0_t101 (X_t102 0)
                        have I_m_mdt82_t102 := I_m_mdt82_t101.flat X_t102
                        have u_m_mdt82_t102 := u_m_mdt82_t101.ex I_m_mdt82_t101 (X_t102 0)
                        refine Ok_bnc ?_
                        try unfold b_X6_condition
                        refine Kp_child C_t102 I_m_mdt0_t102.1 I_m_mdt0_t102.2.1 I_m_mdt0_t102.2.2.1 (by omega) (by omega) (by decide) (by decide) (fun t104 C_t104 X_t104 a_t104 b_t104 d_t104 w_t104 u_t104 v_t104 j_t104 l_t104 => ?_)
                        have e_t104 := C_t104.2.2.2.1
                        rw [a_t102] at a_t104
                        rw [b_t102] at b_t104
                        rw [d_t102] at d_t104
                        rw [w_t102] at w_t104
                        rw [u_t102] at u_t104
                        rw [v_t102] at v_t104
                        clear d_t102 w_t102 u_t102 v_t102 e_t102 a_t102
                        have I_n_t104 := I_n_t102.chd X_t104 j_t104
                        have f_n_t104 := f_n_t102.ex I_n_t102 (X_t104 0 (Nat.zero_le _))
                        have u_n_t104 := u_n_t102.ex I_n_t102 (X_t104 0 (Nat.zero_le _))
                        have I_m_mdt0_t104 := I_m_mdt0_t102.chd X_t104 j_t104
                        have f_m_mdt0_t104 := f_m_mdt0_t102.ex I_m_mdt0_t102 (X_t104 0 (Nat.zero_le _))
                        have u_m_mdt0_t104 := u_m_mdt0_t102.ex I_m_mdt0_t102 (X_t104 0 (Nat.zero_le _))
                        have I_m_mdt82_t104 := I_m_mdt82_t102.chd X_t104 j_t104
                        have u_m_mdt82_t104 := u_m_mdt82_t102.ex I_m_mdt82_t102 (X_t104 0 (Nat.zero_le _))
                        have f_m_mdt0_t104 : Fz t104 (m_md t0) := j_t104.2.2.2.2.1
                        have I_m_mdt102_t104 : Nq t104 (m_md t102) := Nq.chn j_t104 (by omega) I_m_mdt0_t102 (by decide)
                        have u_m_mdt102_t104 : Up t104 (m_md t102) := Or.inl j_t104.2.1
                        refine Kp_push C_t104 (by omega) (fun t105 C_t105 X_t105 a_t105 b_t105 d_t105 w_t105 u_t105 v_t105 j_t105 l_t105 => ?_)
                        have e_t105 := C_t105.2.2.2.1
                        rw [a_t104] at a_t105
                        rw [b_t104] at b_t105
                        rw [d_t104] at d_t105
                        rw [w_t104] at w_t105
                        rw [u_t104] at u_t105
                        rw [v_t104] at v_t105
                        clear d_t104 w_t104 u_t104 v_t104 e_t104 a_t104 b_t104
                        have I_n_t105 := I_n_t104.flat X_t105
                        have f_n_t105 := f_n_t104.ex I_n_t104 (X_t105 0)
                        have u_n_t105 := u_n_t104.ex I_n_t104 (X_t105 0)
                        have I_m_mdt0_t105 := I_m_mdt0_t104.flat X_t105
                        have f_m_mdt0_t105 := f_m_mdt0_t104.ex I_m_mdt0_t104 (X_t105 0)
                        have u_m_mdt0_t105 := u_m_mdt0_t104.ex I_m_mdt0_t104 (X_t105 0)
                        have I_m_mdt82_t105 := I_m_mdt82_t104.flat X_t105
                        have u_m_mdt82_t105 := u_m_mdt82_t104.ex I_m_mdt82_t104 (X_t105 0)
                        have I_m_mdt102_t105 := I_m_mdt102_t104.flat X_t105
                        have u_m_mdt102_t105 := u_m_mdt102_t104.ex I_m_mdt102_t104 (X_t105 0)
                        refine Kp_look C_t105 hT (by omega) ?_
                        refine Ok_ife (Nat.lt_trans (lo_lt (C_t105.tk hT) _) (by decide)) (by decide) (fun q106 => ?_) (fun q106 => ?_)
                        · refine Ok_ret (show Ok _ _ _ from ?_)
                          refine Ok_ret (show Ok _ _ _ from ?_)
                          refine Hv_mk (Kv_c (x := (48, m_md t0, m_md t102)) rfl hK) (C_t105.1.2.2.2.2.2.2 hTt) C_t105 hT (by omega) (by omega) (by omega) ?_ ?_ ?_ (by omega) ?_ ?_ ?_
                          · exact ⟨(Io_48 (show m_md t102 < m_md t105 from by omega) I_m_mdt0_t105.1 I_m_mdt0_t105.2.1 I_m_mdt0_t105.2.2.1 I_m_mdt0_t105.2.2.2), (Nd_0 (by decide) Mo_nil), Stk_step (N := n) (pop := (59, n, t)) (new := [(48, m_md t0, m_md t102)]) F0 C_t105.1.to2 (fun (h : nk 59 = false) => absurd h (by decide)) (fun q _ h => h (59, n, t) rfl) (fun _ => rfl) (fun y hy hk => ⟨rfl, (Mo_cons (fun q => show n ≤ m_md t0 from by omega) Mo_nil) y hy hk⟩) (fun (h : 59 = 3 ∨ 59 = 18 ∨ 59 = 41) => absurd h (by decide)) (fun (h : 59 = 18) => absurd h (by decide)) (fun (h : 59 = 41 ∨ 59 = 42 ∨ 59 = 43) => absurd h (by decide)) r [] (fun y hy => absurd hy List.not_mem_nil) hS⟩
                          · exact (Aj_sub (y := (48, m_md t0, m_md t102)) hJ (Nat.le_of_ble_eq_true rfl))
                          · show m_dp t105 = (dlt 48 + sD r)
                            have : dlt 48 = 0 := rfl; have : dlt 59 = 0 := rfl; omega
                          · show m_rw t105 = (rho 48 + sR r)
                            have : rho 48 = 0 := rfl; have : rho 59 = 0 := rfl; omega
                          · show m_md t105 + (mu7 48 + sM r) ≤ 3 * m_at t105 + 7 * (r.length + 1) + 10
                            have : mu7 48 = 0 := rfl; have : mu7 59 = 6 := rfl; omega
                          · show (wt 48 + sW r) + 6 * (4096 - m_at t105) + 4 * (600 - (r.length + 1)) < (wt 59 + sW r) + 6 * (4096 - m_at t0) + 4 * (600 - (r.length + 1))
                            have : wt 48 = 0 := rfl; have : wt 59 = 7 := rfl; omega
                        · refine Ok_bnc ?_
                          try unfold b_X6_expression
                          refine Kp_push C_t105 (by omega) (fun t108 C_t108 X_t108 a_t108 b_t108 d_t108 w_t108 u_t108 v_t108 j_t108 l_t108 => ?_)
                          have e_t108 := C_t108.2.2.2.1
                          rw [a_t105] at a_t108
                          rw [b_t105] at b_t108
                          rw [d_t105] at d_t108
                          rw [w_t105] at w_t108
                          rw [u_t105] at u_t108
                          rw [v_t105] at v_t108
                          clear d_t105 w_t105 u_t105 v_t105 e_t105 a_t105 b_t105
                          have I_n_t108 := I_n_t105.flat X_t108
                          have f_n_t108 := f_n_t105.ex I_n_t105 (X_t108 0)
                          have u_n_t108 := u_n_t105.ex I_n_t105 (X_t108 0)
                          have I_m_mdt0_t108 := I_m_mdt0_t105.flat X_t108
                          have f_m_mdt0_t108 := f_m_mdt0_t105.ex I_m_mdt0_t105 (X_t108 0)
                          have u_m_mdt0_t108 := u_m_mdt0_t105.ex I_m_mdt0_t105 (X_t108 0)
                          have I_m_mdt82_t108 := I_m_mdt82_t105.flat X_t108
                          have u_m_mdt82_t108 := u_m_mdt82_t105.ex I_m_mdt82_t105 (X_t108 0)
                          have I_m_mdt102_t108 := I_m_mdt102_t105.flat X_t108
                          have u_m_mdt102_t108 := u_m_mdt102_t105.ex I_m_mdt102_t105 (X_t108 0)
                          refine Kp_push C_t108 (by omega) (fun t109 C_t109 X_t109 a_t109 b_t109 d_t109 w_t109 u_t109 v_t109 j_t109 l_t109 => ?_)
                          have e_t109 := C_t109.2.2.2.1
                          rw [a_t108] at a_t109
                          rw [b_t108] at b_t109
                          rw [d_t108] at d_t109
                          rw [w_t108] at w_t109
                          rw [u_t108] at u_t109
                          rw [v_t108] at v_t109
                          clear d_t108 w_t108 u_t108 v_t108 e_t108 a_t108 b_t108
                          have I_n_t109 := I_n_t108.flat X_t109
                          have f_n_t109 := f_n_t108.ex I_n_t108 (X_t109 0)
                          have u_n_t109 := u_n_t108.ex I_n_t108 (X_t109 0)
                          have I_m_mdt0_t109 := I_m_mdt0_t108.flat X_t109
                          have f_m_mdt0_t109 := f_m_mdt0_t108.ex I_m_mdt0_t108 (X_t109 0)
                          have u_m_mdt0_t109 := u_m_mdt0_t108.ex I_m_mdt0_t108 (X_t109 0)
                          have I_m_mdt82_t109 := I_m_mdt82_t108.flat X_t109
                          have u_m_mdt82_t109 := u_m_mdt82_t108.ex I_m_mdt82_t108 (X_t109 0)
                          have I_m_mdt102_t109 := I_m_mdt102_t108.flat X_t109
                          have u_m_mdt102_t109 := u_m_mdt102_t108.ex I_m_mdt102_t108 (X_t109 0)
                          refine Ok_ret (show Ok _ _ _ from ?_)
                          refine Ok_ret (show Ok _ _ _ from ?_)
                          refine Ok_ret (show Ok _ _ _ from ?_)
                          refine Hv_mk (Kv_c (x := (3, m_md t102, 1)) rfl (Kv_c (x := (2, m_md t102, 1 ||| (1 * 256))) rfl (Kv_c (x := (48, m_md t0, m_md t102)) rfl hK))) (C_t109.1.2.2.2.2.2.2 hTt) C_t109 hT (by omega) (by omega) (by omega) ?_ ?_ ?_ (by omega) ?_ ?_ ?_
                          · exact ⟨(Io_n (by decide) (by decide) I_m_mdt102_t109.1 I_m_mdt102_t109.2.1 I_m_mdt102_t109.2.2.1 (fun q => absurd q (by decide)) (fun q => absurd q (by decide)) I_m_mdt102_t109.2.2.2), (Nd_0 (by decide) Mo_nil), ⟨(Io_2 (by have := or_256 (b := 1) (show 1 < 256 from by omega); omega) (by have := or_256 (b := 1) (show 1 < 256 from by omega); omega) (by have := or_256 (b := 1) (show 1 < 256 from by omega); omega) I_m_mdt102_t109.1 I_m_mdt102_t109.2.1 I_m_mdt102_t109.2.2.1 I_m_mdt102_t109.2.2.2), (Nd_A (by decide) (Mo_cons (fun q => show m_md t102 ≤ m_md t102 from by omega) Mo_nil) (Or.inr ⟨(3, m_md t102, 1), List.mem_cons_self, rfl, Or.inl rfl⟩)), ⟨(Io_48 (show m_md t102 < m_md t109 from by omega) I_m_mdt0_t109.1 I_m_mdt0_t109.2.1 I_m_mdt0_t109.2.2.1 I_m_mdt0_t109.2.2.2), (Nd_0 (by decide) (Mo_cons (fun q => show m_md t0 ≤ m_md t102 from by omega) (Mo_cons (fun q => show m_md t0 ≤ m_md t102 from by omega) Mo_nil))), Stk_step (N := n) (pop := (59, n, t)) (new := [(48, m_md t0, m_md t102), (2, m_md t102, 1 ||| (1 * 256)), (3, m_md t102, 1)]) F0 C_t109.1.to2 (fun (h : nk 59 = false) => absurd h (by decide)) (fun q _ h => h (59, n, t) rfl) (fun _ => rfl) (fun y hy hk => ⟨rfl, (Mo_cons (fun q => show n ≤ m_md t0 from by omega) (Mo_cons (fun q => show n ≤ m_md t102 from by omega) (Mo_cons (fun q => show n ≤ m_md t102 from by omega) Mo_nil))) y hy hk⟩) (fun (h : 59 = 3 ∨ 59 = 18 ∨ 59 = 41) => absurd h (by decide)) (fun (h : 59 = 18) => absurd h (by decide)) (fun (h : 59 = 41 ∨ 59 = 42 ∨ 59 = 43) => absurd h (by decide)) r [] (fun y hy => absurd hy List.not_mem_nil) hS⟩⟩⟩
                          · exact (Aj_up (x := (3, m_md t102, 1)) (Aj_up (x := (2, m_md t102, 1 ||| (1 * 256))) (Aj_sub (y := (48, m_md t0, m_md t102)) hJ (Nat.le_of_ble_eq_true rfl)) (Or.inr (show 9 - (1 ||| (1 * 256)) / 256 < 12 from by have := or_256 (b := 1) (show 1 < 256 from by omega); omega))) (Or.inr (show 2 < 9 - (1 ||| (1 * 256)) / 256 from by have := or_256 (b := 1) (show 1 < 256 from by omega); omega)))
                          · show m_dp t109 = (dlt 3 + (dlt 2 + (dlt 48 + sD r)))
                            have : dlt 2 = 0 := rfl; have : dlt 3 = 0 := rfl; have : dlt 48 = 0 := rfl; have : dlt 59 = 0 := rfl; omega
                          · show m_rw t109 = (rho 3 + (rho 2 + (rho 48 + sR r)))
                            have : rho 2 = 0 := rfl; have : rho 3 = 0 := rfl; have : rho 48 = 0 := rfl; have : rho 59 = 0 := rfl; omega
                          · show m_md t109 + (mu7 3 + (mu7 2 + (mu7 48 + sM r))) ≤ 3 * m_at t109 + 7 * (r.length + 1 + 1 + 1) + 10
                            have : mu7 2 = 7 := rfl; have : mu7 3 = 5 := rfl; have : mu7 48 = 0 := rfl; have : mu7 59 = 6 := rfl; omega
                          · show (wt 3 + (wt 2 + (wt 48 + sW r))) + 6 * (4096 - m_at t109) + 4 * (600 - (r.length + 1 + 1 + 1)) < (wt 59 + sW r) + 6 * (4096 - m_at t0) + 4 * (600 - (r.length + 1))
                            have : wt 2 = 5 := rfl; have : wt 3 = 3 := rfl; have : wt 48 = 0 := rfl; have : wt 59 = 7 := rfl; omega
                      · refine Kp_push C_t82 (by omega) (fun t110 C_t110 X_t110 a_t110 b_t110 d_t110 w_t110 u_t110 v_t110 j_t110 l_t110 => ?_)
                        have e_t110 := C_t110.2.2.2.1
                        rw [a_t82] at a_t110
                        rw [b_t82] at b_t110
                        rw [d_t82] at d_t110
                        rw [w_t82] at w_t110
                        rw [u_t82] at u_t110
                        rw [v_t82] at v_t110
                        clear d_t82 w_t82 u_t82 v_t82 e_t82 a_t82 b_t82
                        have I_n_t110 := I_n_t82.flat X_t110
                        have f_n_t110 := f_n_t82.ex I_n_t82 (X_t110 0)
                        have u_n_t110 := u_n_t82.ex I_n_t82 (X_t110 0)
                        have I_m_mdt0_t110 := I_m_mdt0_t82.flat X_t110
                        have u_m_mdt0_t110 := u_m_mdt0_t82.ex I_m_mdt0_t82 (X_t110 0)
                        refine Kp_push C_t110 (by omega) (fun t111 C_t111 X_t111 a_t111 b_t111 d_t111 w_t111 u_t111 v_t111 j_t111 l_t111 => ?_)
                        have e_t111 := C_t111.2.2.2.1
                        rw [a_t110] at a_t111
                        rw [b_t110] at b_t111
                        rw [d_t110] at d_t111
                        rw [w_t110] at w_t111
                        rw [u_t110] at u_t111
                        rw [v_t110] at v_t111
                        clear d_t110 w_t110 u_t110 v_t110 e_t110 a_t110 b_t110
                        have I_n_t111 := I_n_t110.flat X_t111
                        have f_n_t111 := f_n_t110.ex I_n_t110 (X_t111 0)
                        have u_n_t111 := u_n_t110.ex I_n_t110 (X_t111 0)
                        have I_m_mdt0_t111 := I_m_mdt0_t110.flat X_t111
                        have u_m_mdt0_t111 := u_m_mdt0_t110.ex I_m_mdt0_t110 (X_t111 0)
                        refine Ok_ret (show Ok _ _ _ from ?_)
                        refine Hv_mk (Kv_c (x := (41, m_md t0, 5)) rfl (Kv_c (x := (46, m_md t0, 0)) rfl hK)) (C_t111.1.2.2.2.2.2.2 hTt) C_t111 hT (by omega) (by omega) (by omega) ?_ ?_ ?_ (by omega) ?_ ?_ ?_
                        · exact ⟨(Io_41 (by decide) I_m_mdt0_t111.1 I_m_mdt0_t111.2.1 I_m_mdt0_t111.2.2.1 u_m_mdt0_t111 I_m_mdt0_t111.2.2.2), (Nd_0 (by decide) Mo_nil), ⟨(Io_n (by decide) (by decide) I_m_mdt0_t111.1 I_m_mdt0_t111.2.1 I_m_mdt0_t111.2.2.1 (fun _ => u_m_mdt0_t111) (fun q => absurd q (by decide)) I_m_mdt0_t111.2.2.2), (Nd_44 (by decide) (Mo_cons (fun q => show m_md t0 ≤ m_md t0 from by omega) Mo_nil) ⟨(41, m_md t0, 5), rfl, rfl, Or.inl rfl, (show 5 &&& 16 = 0 from by decide)⟩), Stk_step (N := n) (pop := (59, n, t)) (new := [(46, m_md t0, 0), (41, m_md t0, 5)]) F0 C_t111.1.to2 (fun (h : nk 59 = false) => absurd h (by decide)) (fun q _ h => h (59, n, t) rfl) (fun _ => rfl) (fun y hy hk => ⟨rfl, (Mo_cons (fun q => show n ≤ m_md t0 from by omega) (Mo_cons (fun q => show n ≤ m_md t0 from by omega) Mo_nil)) y hy hk⟩) (fun (h : 59 = 3 ∨ 59 = 18 ∨ 59 = 41) => absurd h (by decide)) (fun (h : 59 = 18) => absurd h (by decide)) (fun (h : 59 = 41 ∨ 59 = 42 ∨ 59 = 43) => absurd h (by decide)) r [] (fun y hy => absurd hy List.not_mem_nil) hS⟩⟩
                        · exact (Aj_up (x := (41, m_md t0, 5)) (Aj_sub (y := (46, m_md t0, 0)) hJ (Nat.le_of_ble_eq_true rfl)) (Or.inr (Nat.le_of_ble_eq_true rfl)))
                        · show m_dp t111 = (dlt 41 + (dlt 46 + sD r))
                          have : dlt 41 = 0 := rfl; have : dlt 46 = 0 := rfl; have : dlt 59 = 0 := rfl; omega
                        · show m_rw t111 = (rho 41 + (rho 46 + sR r))
                          have : rho 41 = 0 := rfl; have : rho 46 = 0 := rfl; have : rho 59 = 0 := rfl; omega
                        · show m_md t111 + (mu7 41 + (mu7 46 + sM r)) ≤ 3 * m_at t111 + 7 * (r.length + 1 + 1) + 10
                          have : mu7 41 = 6 := rfl; have : mu7 46 = 2 := rfl; have : mu7 59 = 6 := rfl; omega
                        · show (wt 41 + (wt 46 + sW r)) + 6 * (4096 - m_at t111) + 4 * (600 - (r.length + 1 + 1)) < (wt 59 + sW r) + 6 * (4096 - m_at t0) + 4 * (600 - (r.length + 1))
                          have : wt 41 = 6 := rfl; have : wt 46 = 0 := rfl; have : wt 59 = 7 := rfl; omega
                · refine Ok_ife (Nat.lt_trans (lo_lt (C_t0.tk hT) _) (by decide)) (by decide) (fun q112 => ?_) (fun q112 => ?_)
                  · refine Ok_bnc ?_
                    try unfold b_X6_choice
                    refine Kp_child C_t0 I_n_t0.1 I_n_t0.2.1 I_n_t0.2.2.1 (by omega) (by omega) (by decide) (by decide) (fun t114 C_t114 X_t114 a_t114 b_t114 d_t114 w_t114 u_t114 v_t114 j_t114 l_t114 => ?_)
                    have e_t114 := C_t114.2.2.2.1
                    have I_n_t114 := I_n_t0.chd X_t114 j_t114
                    have u_n_t114 := u_n_t0.ex I_n_t0 (X_t114 0 (Nat.zero_le _))
                    have f_n_t114 : Fz t114 n := j_t114.2.2.2.2.1
                    have I_m_mdt0_t114 : Nq t114 (m_md t0) := Nq.chn j_t114 (by omega) I_n_t0 (by decide)
                    have u_m_mdt0_t114 : Up t114 (m_md t0) := Or.inl j_t114.2.1
                    have z_t115 : m_at t114 < m_ct t114 := lo_ne (Nat.ne_of_gt (show 0 < lo t114 (m_at t114) from by omega))
                    refine Kp_at C_t114 (fun t115 C_t115 X_t115 a_t115 b_t115 d_t115 w_t115 u_t115 v_t115 j_t115 l_t115 => ?_)
                    have e_t115 := C_t115.2.2.2.1
                    rw [a_t114] at a_t115
                    rw [b_t114] at b_t115
                    rw [d_t114] at d_t115
                    rw [w_t114] at w_t115
                    rw [u_t114] at u_t115
                    rw [v_t114] at v_t115
                    rw [a_t114, e_t114] at z_t115
                    clear d_t114 w_t114 u_t114 v_t114 e_t114 a_t114 b_t114
                    have I_n_t115 := I_n_t114.flat X_t115
                    have f_n_t115 := f_n_t114.ex I_n_t114 (X_t115 0)
                    have u_n_t115 := u_n_t114.ex I_n_t114 (X_t115 0)
                    have I_m_mdt0_t115 := I_m_mdt0_t114.flat X_t115
                    have u_m_mdt0_t115 := u_m_mdt0_t114.ex I_m_mdt0_t114 (X_t115 0)
                    refine Kp_look C_t115 hT (by omega) ?_
                    refine Ok_ife (Nat.lt_trans (lo_lt (C_t115.tk hT) _) (by decide)) (by decide) (fun q116 => ?_) (fun q116 => ?_)
                    · refine Ok_bnc ?_
                      try unfold b_X6_body
                      refine Kp_look C_t115 hT (by omega) ?_
                      refine Ok_ife (Nat.lt_trans (lo_lt (C_t115.tk hT) _) (by decide)) (by decide) (fun q => ?_) (fun q => absurd q116 q)
                      refine Kp_more C_t115 (by omega) (by omega) (fun t118 C_t118 X_t118 a_t118 b_t118 d_t118 w_t118 u_t118 v_t118 j_t118 l_t118 => ?_)
                      have e_t118 := C_t118.2.2.2.1
                      rcases w_t118 with ⟨w_t118, y_t118⟩ | ⟨w_t118, wb_t118⟩
                      · rw [a_t115] at a_t118
                        rw [b_t115] at b_t118
                        rw [d_t115] at d_t118
                        rw [w_t115] at w_t118
                        rw [u_t115] at u_t118
                        rw [v_t115] at v_t118
                        rw [d_t118] at y_t118
                        clear d_t115 w_t115 u_t115 v_t115 e_t115 a_t115 b_t115
                        have I_n_t118 := I_n_t115.flat X_t118
                        have f_n_t118 := f_n_t115.ex I_n_t115 (X_t118 0)
                        have u_n_t118 := u_n_t115.ex I_n_t115 (X_t118 0)
                        have I_m_mdt0_t118 := I_m_mdt0_t115.flat X_t118
                        have u_m_mdt0_t118 := u_m_mdt0_t115.ex I_m_mdt0_t115 (X_t118 0)
                        have z_t119 : m_at t118 < m_ct t118 := lo_ne (Nat.ne_of_gt (show 0 < lo t118 (m_at t118) from by omega))
                        refine Kp_at C_t118 (fun t119 C_t119 X_t119 a_t119 b_t119 d_t119 w_t119 u_t119 v_t119 j_t119 l_t119 => ?_)
                        have e_t119 := C_t119.2.2.2.1
                        rw [a_t118] at a_t119
                        rw [b_t118] at b_t119
                        rw [d_t118] at d_t119
                        rw [w_t118] at w_t119
                        rw [u_t118] at u_t119
                        rw [v_t118] at v_t119
                        rw [a_t118, e_t118] at z_t119
                        clear z_t115
                        clear d_t118 w_t118 u_t118 v_t118 e_t118 a_t118 b_t118
                        have I_n_t119 := I_n_t118.flat X_t119
                        have f_n_t119 := f_n_t118.ex I_n_t118 (X_t119 0)
                        have u_n_t119 := u_n_t118.ex I_n_t118 (X_t119 0)
                        have I_m_mdt0_t119 := I_m_mdt0_t118.flat X_t119
                        have u_m_mdt0_t119 := u_m_mdt0_t118.ex I_m_mdt0_t118 (X_t119 0)
                        refine Kp_push C_t119 (by omega) (fun t120 C_t120 X_t120 a_t120 b_t120 d_t120 w_t120 u_t120 v_t120 j_t120 l_t120 => ?_)
                        have e_t120 := C_t120.2.2.2.1
                        rw [a_t119] at a_t120
                        rw [b_t119] at b_t120
                        rw [d_t119] at d_t120
                        rw [w_t119] at w_t120
                        rw [u_t119] at u_t120
                        rw [v_t119] at v_t120
                        clear d_t119 w_t119 u_t119 v_t119 e_t119 a_t119 b_t119
                        have I_n_t120 := I_n_t119.flat X_t120
                        have f_n_t120 := f_n_t119.ex I_n_t119 (X_t120 0)
                        have u_n_t120 := u_n_t119.ex I_n_t119 (X_t120 0)
                        have I_m_mdt0_t120 := I_m_mdt0_t119.flat X_t120
                        have u_m_mdt0_t120 := u_m_mdt0_t119.ex I_m_mdt0_t119 (X_t120 0)
                        refine Ok_ret (show Ok _ _ _ from ?_)
                        refine Ok_ret (show Ok _ _ _ from ?_)
                        refine Hv_mk (Kv_c (x := (51, m_md t0, 0)) rfl hK) (C_t120.1.2.2.2.2.2.2 hTt) C_t120 hT (by omega) (by omega) (by omega) ?_ ?_ ?_ (by omega) ?_ ?_ ?_
                        · exact ⟨(Io_n (by decide) (by decide) I_m_mdt0_t120.1 I_m_mdt0_t120.2.1 I_m_mdt0_t120.2.2.1 (fun q => absurd q (by decide)) (fun q => absurd q (by decide)) I_m_mdt0_t120.2.2.2), (Nd_0 (by decide) Mo_nil), Stk_step (N := n) (pop := (59, n, t)) (new := [(51, m_md t0, 0)]) F0 C_t120.1.to2 (fun (h : nk 59 = false) => absurd h (by decide)) (fun q _ h => h (59, n, t) rfl) (fun _ => rfl) (fun y hy hk => ⟨rfl, (Mo_cons (fun q => show n ≤ m_md t0 from by omega) Mo_nil) y hy hk⟩) (fun (h : 59 = 3 ∨ 59 = 18 ∨ 59 = 41) => absurd h (by decide)) (fun (h : 59 = 18) => absurd h (by decide)) (fun (h : 59 = 41 ∨ 59 = 42 ∨ 59 = 43) => absurd h (by decide)) r [] (fun y hy => absurd hy List.not_mem_nil) hS⟩
                        · exact (Aj_sub (y := (51, m_md t0, 0)) hJ (Nat.le_of_ble_eq_true rfl))
                        · show m_dp t120 = (dlt 51 + sD r)
                          have : dlt 51 = 1 := rfl; have : dlt 59 = 0 := rfl; omega
                        · show m_rw t120 = (rho 51 + sR r)
                          have : rho 51 = 0 := rfl; have : rho 59 = 0 := rfl; omega
                        · show m_md t120 + (mu7 51 + sM r) ≤ 3 * m_at t120 + 7 * (r.length + 1) + 10
                          have : mu7 51 = 4 := rfl; have : mu7 59 = 6 := rfl; omega
                        · show (wt 51 + sW r) + 6 * (4096 - m_at t120) + 4 * (600 - (r.length + 1)) < (wt 59 + sW r) + 6 * (4096 - m_at t0) + 4 * (600 - (r.length + 1))
                          have : wt 51 = 0 := rfl; have : wt 59 = 7 := rfl; omega
                      · have w_t118 := Nat.pos_of_ne_zero w_t118
                        have I_n_t118 := I_n_t115.flat X_t118
                        have f_n_t118 := f_n_t115.ex I_n_t115 (X_t118 0)
                        have u_n_t118 := u_n_t115.ex I_n_t115 (X_t118 0)
                        have I_m_mdt0_t118 := I_m_mdt0_t115.flat X_t118
                        have u_m_mdt0_t118 := u_m_mdt0_t115.ex I_m_mdt0_t115 (X_t118 0)
                        refine Kp_at C_t118 (fun t121 C_t121 X_t121 a_t121 b_t121 d_t121 w_t121 u_t121 v_t121 j_t121 l_t121 => ?_)
                        have e_t121 := C_t121.2.2.2.1
                        have I_n_t121 := I_n_t118.flat X_t121
                        have f_n_t121 := f_n_t118.ex I_n_t118 (X_t121 0)
                        have u_n_t121 := u_n_t118.ex I_n_t118 (X_t121 0)
                        have I_m_mdt0_t121 := I_m_mdt0_t118.flat X_t121
                        have u_m_mdt0_t121 := u_m_mdt0_t118.ex I_m_mdt0_t118 (X_t121 0)
                        refine Kp_push C_t121 (by omega) (fun t122 C_t122 X_t122 a_t122 b_t122 d_t122 w_t122 u_t122 v_t122 j_t122 l_t122 => ?_)
                        have e_t122 := C_t122.2.2.2.1
                        have I_n_t122 := I_n_t121.flat X_t122
                        have f_n_t122 := f_n_t121.ex I_n_t121 (X_t122 0)
                        have u_n_t122 := u_n_t121.ex I_n_t121 (X_t122 0)
                        have I_m_mdt0_t122 := I_m_mdt0_t121.flat X_t122
                        have u_m_mdt0_t122 := u_m_mdt0_t121.ex I_m_mdt0_t121 (X_t122 0)
                        refine Ok_ret (show Ok _ _ _ from ?_)
                        refine Ok_ret (show Ok _ _ _ from ?_)
                        exact Or.inl ⟨Nat.ne_of_gt (show 0 < m_wr t122 from by omega), by omega, by omega, C_t122.2.2.2.2.2, by omega⟩
                    · refine Kp_look C_t115 hT (by omega) ?_
                      refine Ok_ife (Nat.lt_trans (lo_lt (C_t115.tk hT) _) (by decide)) (by decide) (fun q123 => ?_) (fun q123 => ?_)
                      · refine Kp_child C_t115 I_m_mdt0_t115.1 I_m_mdt0_t115.2.1 I_m_mdt0_t115.2.2.1 (by omega) (by omega) (by decide) (by decide) (fun t124 C_t124 X_t124 a_t124 b_t124 d_t124 w_t124 u_t124 v_t124 j_t124 l_t124 => ?_)
                        have e_t124 := C_t124.2.2.2.1
                        rw [a_t115] at a_t124
                        rw [b_t115] at b_t124
                        rw [d_t115] at d_t124
                        rw [w_t115] at w_t124
                        rw [u_t115] at u_t124
                        rw [v_t115] at v_t124
                        clear d_t115 w_t115 u_t115 v_t115 e_t115 a_t115
                        have I_n_t124 := I_n_t115.chd X_t124 j_t124
                        have f_n_t124 := f_n_t115.ex I_n_t115 (X_t124 0 (Nat.zero_le _))
                        have u_n_t124 := u_n_t115.ex I_n_t115 (X_t124 0 (Nat.zero_le _))
                        have I_m_mdt0_t124 := I_m_mdt0_t115.chd X_t124 j_t124
                        have u_m_mdt0_t124 := u_m_mdt0_t115.ex I_m_mdt0_t115 (X_t124 0 (Nat.zero_le _))
                        have f_m_mdt0_t124 : Fz t124 (m_md t0) := j_t124.2.2.2.2.1
                        have I_m_mdt115_t124 : Nq t124 (m_md t115) := Nq.chn j_t124 (by omega) I_m_mdt0_t115 (by decide)
                        have u_m_mdt115_t124 : Up t124 (m_md t115) := Or.inl j_t124.2.1
                        have z_t125 : m_at t124 < m_ct t124 := lo_ne (Nat.ne_of_gt (show 0 < lo t124 (m_at t124) from by omega))
                        refine Kp_at C_t124 (fun t125 C_t125 X_t125 a_t125 b_t125 d_t125 w_t125 u_t125 v_t125 j_t125 l_t125 => ?_)
                        have e_t125 := C_t125.2.2.2.1
                        rw [a_t124] at a_t125
                        rw [b_t124] at b_t125
                        rw [d_t124] at d_t125
                        rw [w_t124] at w_t125
                        rw [u_t124] at u_t125
                        rw [v_t124] at v_t125
                        rw [a_t124, e_t124] at z_t125
                        clear z_t115
                        clear d_t124 w_t124 u_t124 v_t124 e_t124 a_t124 b_t124
                        have I_n_t125 := I_n_t124.flat X_t125
                        have f_n_t125 := f_n_t124.ex I_n_t124 (X_t125 0)
                        have u_n_t125 := u_n_t124.ex I_n_t124 (X_t125 0)
                        have I_m_mdt0_t125 := I_m_mdt0_t124.flat X_t125
                        have f_m_mdt0_t125 := f_m_mdt0_t124.ex I_m_mdt0_t124 (X_t125 0)
                        have u_m_mdt0_t125 := u_m_mdt0_t124.ex I_m_mdt0_t124 (X_t125 0)
                        have I_m_mdt115_t125 := I_m_mdt115_t124.flat X_t125
                        have u_m_mdt115_t125 := u_m_mdt115_t124.ex I_m_mdt115_t124 (X_t125 0)
                        refine Ok_bnc ?_
                        try unfold b_X6_second
                        refine Kp_look C_t125 hT (by omega) ?_
                        refine Ok_ife (Nat.lt_trans (lo_lt (C_t125.tk hT) _) (by decide)) (by decide) (fun q127 => ?_) (fun q127 => ?_)
                        · refine Ok_bnc ?_
                          try unfold b_X6_body
                          refine Kp_look C_t125 hT (by omega) ?_
                          refine Ok_ife (Nat.lt_trans (lo_lt (C_t125.tk hT) _) (by decide)) (by decide) (fun q => ?_) (fun q => absurd q127 q)
                          refine Kp_more C_t125 (by omega) (by omega) (fun t129 C_t129 X_t129 a_t129 b_t129 d_t129 w_t129 u_t129 v_t129 j_t129 l_t129 => ?_)
                          have e_t129 := C_t129.2.2.2.1
                          rcases w_t129 with ⟨w_t129, y_t129⟩ | ⟨w_t129, wb_t129⟩
                          · rw [a_t125] at a_t129
                            rw [b_t125] at b_t129
                            rw [d_t125] at d_t129
                            rw [w_t125] at w_t129
                            rw [u_t125] at u_t129
                            rw [v_t125] at v_t129
                            rw [d_t129] at y_t129
                            clear d_t125 w_t125 u_t125 v_t125 e_t125 a_t125 b_t125
                            have I_n_t129 := I_n_t125.flat X_t129
                            have f_n_t129 := f_n_t125.ex I_n_t125 (X_t129 0)
                            have u_n_t129 := u_n_t125.ex I_n_t125 (X_t129 0)
                            have I_m_mdt0_t129 := I_m_mdt0_t125.flat X_t129
                            have f_m_mdt0_t129 := f_m_mdt0_t125.ex I_m_mdt0_t125 (X_t129 0)
                            have u_m_mdt0_t129 := u_m_mdt0_t125.ex I_m_mdt0_t125 (X_t129 0)
                            have I_m_mdt115_t129 := I_m_mdt115_t125.flat X_t129
                            have u_m_mdt115_t129 := u_m_mdt115_t125.ex I_m_mdt115_t125 (X_t129 0)
                            have z_t130 : m_at t129 < m_ct t129 := lo_ne (Nat.ne_of_gt (show 0 < lo t129 (m_at t129) from by omega))
                            refine Kp_at C_t129 (fun t130 C_t130 X_t130 a_t130 b_t130 d_t130 w_t130 u_t130 v_t130 j_t130 l_t130 => ?_)
                            have e_t130 := C_t130.2.2.2.1
                            rw [a_t129] at a_t130
                            rw [b_t129] at b_t130
                            rw [d_t129] at d_t130
                            rw [w_t129] at w_t130
                            rw [u_t129] at u_t130
                            rw [v_t129] at v_t130
                            rw [a_t129, e_t129] at z_t130
                            clear z_t125
                            clear d_t129 w_t129 u_t129 v_t129 e_t129 a_t129 b_t129
                            have I_n_t130 := I_n_t129.flat X_t130
                            have f_n_t130 := f_n_t129.ex I_n_t129 (X_t130 0)
                            have u_n_t130 := u_n_t129.ex I_n_t129 (X_t130 0)
                            have I_m_mdt0_t130 := I_m_mdt0_t129.flat X_t130
                            have f_m_mdt0_t130 := f_m_mdt0_t129.ex I_m_mdt0_t129 (X_t130 0)
                            have u_m_mdt0_t130 := u_m_mdt0_t129.ex I_m_mdt0_t129 (X_t130 0)
                            have I_m_mdt115_t130 := I_m_mdt115_t129.flat X_t130
                            have u_m_mdt115_t130 := u_m_mdt115_t129.ex I_m_mdt115_t129 (X_t130 0)
                            refine Kp_push C_t130 (by omega) (fun t131 C_t131 X_t131 a_t131 b_t131 d_t131 w_t131 u_t131 v_t131 j_t131 l_t131 => ?_)
                            have e_t131 := C_t131.2.2.2.1
                            rw [a_t130] at a_t131
                            rw [b_t130] at b_t131
                            rw [d_t130] at d_t131
                            rw [w_t130] at w_t131
                            rw [u_t130] at u_t131
                            rw [v_t130] at v_t131
                            clear d_t130 w_t130 u_t130 v_t130 e_t130 a_t130 b_t130
                            have I_n_t131 := I_n_t130.flat X_t131
                            have f_n_t131 := f_n_t130.ex I_n_t130 (X_t131 0)
                            have u_n_t131 := u_n_t130.ex I_n_t130 (X_t131 0)
                            have I_m_mdt0_t131 := I_m_mdt0_t130.flat X_t131
                            have f_m_mdt0_t131 := f_m_mdt0_t130.ex I_m_mdt0_t130 (X_t131 0)
                            have u_m_mdt0_t131 := u_m_mdt0_t130.ex I_m_mdt0_t130 (X_t131 0)
                            have I_m_mdt115_t131 := I_m_mdt115_t130.flat X_t131
                            have u_m_mdt115_t131 := u_m_mdt115_t130.ex I_m_mdt115_t130 (X_t131 0)
                            refine Ok_ret (show Ok _ _ _ from ?_)
                            refine Ok_ret (show Ok _ _ _ from ?_)
                            refine Ok_ret (show Ok _ _ _ from ?_)
                            refine Hv_mk (Kv_c (x := (51, m_md t0, 0)) rfl hK) (C_t131.1.2.2.2.2.2.2 hTt) C_t131 hT (by omega) (by omega) (by omega) ?_ ?_ ?_ (by omega) ?_ ?_ ?_
                            · exact ⟨(Io_n (by decide) (by decide) I_m_mdt0_t131.1 I_m_mdt0_t131.2.1 I_m_mdt0_t131.2.2.1 (fun q => absurd q (by decide)) (fun q => absurd q (by decide)) I_m_mdt0_t131.2.2.2), (Nd_0 (by decide) Mo_nil), Stk_step (N := n) (pop := (59, n, t)) (new := [(51, m_md t0, 0)]) F0 C_t131.1.to2 (fun (h : nk 59 = false) => absurd h (by decide)) (fun q _ h => h (59, n, t) rfl) (fun _ => rfl) (fun y hy hk => ⟨rfl, (Mo_cons (fun q => show n ≤ m_md t0 from by omega) Mo_nil) y hy hk⟩) (fun (h : 59 = 3 ∨ 59 = 18 ∨ 59 = 41) => absurd h (by decide)) (fun (h : 59 = 18) => absurd h (by decide)) (fun (h : 59 = 41 ∨ 59 = 42 ∨ 59 = 43) => absurd h (by decide)) r [] (fun y hy => absurd hy List.not_mem_nil) hS⟩
                            · exact (Aj_sub (y := (51, m_md t0, 0)) hJ (Nat.le_of_ble_eq_true rfl))
                            · show m_dp t131 = (dlt 51 + sD r)
                              have : dlt 51 = 1 := rfl; have : dlt 59 = 0 := rfl; omega
                            · show m_rw t131 = (rho 51 + sR r)
                              have : rho 51 = 0 := rfl; have : rho 59 = 0 := rfl; omega
                            · show m_md t131 + (mu7 51 + sM r) ≤ 3 * m_at t131 + 7 * (r.length + 1) + 10
                              have : mu7 51 = 4 := rfl; have : mu7 59 = 6 := rfl; omega
                            · show (wt 51 + sW r) + 6 * (4096 - m_at t131) + 4 * (600 - (r.length + 1)) < (wt 59 + sW r) + 6 * (4096 - m_at t0) + 4 * (600 - (r.length + 1))
                              have : wt 51 = 0 := rfl; have : wt 59 = 7 := rfl; omega
                          · have w_t129 := Nat.pos_of_ne_zero w_t129
                            have I_n_t129 := I_n_t125.flat X_t129
                            have f_n_t129 := f_n_t125.ex I_n_t125 (X_t129 0)
                            have u_n_t129 := u_n_t125.ex I_n_t125 (X_t129 0)
                            have I_m_mdt0_t129 := I_m_mdt0_t125.flat X_t129
                            have f_m_mdt0_t129 := f_m_mdt0_t125.ex I_m_mdt0_t125 (X_t129 0)
                            have u_m_mdt0_t129 := u_m_mdt0_t125.ex I_m_mdt0_t125 (X_t129 0)
                            have I_m_mdt115_t129 := I_m_mdt115_t125.flat X_t129
                            have u_m_mdt115_t129 := u_m_mdt115_t125.ex I_m_mdt115_t125 (X_t129 0)
                            refine Kp_at C_t129 (fun t132 C_t132 X_t132 a_t132 b_t132 d_t132 w_t132 u_t132 v_t132 j_t132 l_t132 => ?_)
                            have e_t132 := C_t132.2.2.2.1
                            have I_n_t132 := I_n_t129.flat X_t132
                            have f_n_t132 := f_n_t129.ex I_n_t129 (X_t132 0)
                            have u_n_t132 := u_n_t129.ex I_n_t129 (X_t132 0)
                            have I_m_mdt0_t132 := I_m_mdt0_t129.flat X_t132
                            have f_m_mdt0_t132 := f_m_mdt0_t129.ex I_m_mdt0_t129 (X_t132 0)
                            have u_m_mdt0_t132 := u_m_mdt0_t129.ex I_m_mdt0_t129 (X_t132 0)
                            have I_m_mdt115_t132 := I_m_mdt115_t129.flat X_t132
                            have u_m_mdt115_t132 := u_m_mdt115_t129.ex I_m_mdt115_t129 (X_t132 0)
                            refine Kp_push C_t132 (by omega) (fun t133 C_t133 X_t133 a_t133 b_t133 d_t133 w_t133 u_t133 v_t133 j_t133 l_t133 => ?_)
                            have e_t133 := C_t133.2.2.2.1
                            have I_n_t133 := I_n_t132.flat X_t133
                            have f_n_t133 := f_n_t132.ex I_n_t132 (X_t133 0)
                            have u_n_t133 := u_n_t132.ex I_n_t132 (X_t133 0)
                            have I_m_mdt0_t133 := I_m_mdt0_t132.flat X_t133
                            have f_m_mdt0_t133 := f_m_mdt0_t132.ex I_m_mdt0_t132 (X_t133 0)
                            have u_m_mdt0_t133 := u_m_mdt0_t132.ex I_m_mdt0_t132 (X_t133 0)
                            have I_m_mdt115_t133 := I_m_mdt115_t132.flat X_t133
                            have u_m_mdt115_t133 := u_m_mdt115_t132.ex I_m_mdt115_t132 (X_t133 0)
                            refine Ok_ret (show Ok _ _ _ from ?_)
                            refine Ok_ret (show Ok _ _ _ from ?_)
                            refine Ok_ret (show Ok _ _ _ from ?_)
                            exact Or.inl ⟨Nat.ne_of_gt (show 0 < m_wr t133 from by omega), by omega, by omega, C_t133.2.2.2.2.2, by omega⟩
                        · refine Kp_push C_t125 (by omega) (fun t134 C_t134 X_t134 a_t134 b_t134 d_t134 w_t134 u_t134 v_t134 j_t134 l_t134 => ?_)
                          have e_t134 := C_t134.2.2.2.1
                          rw [a_t125] at a_t134
                          rw [b_t125] at b_t134
                          rw [d_t125] at d_t134
                          rw [w_t125] at w_t134
                          rw [u_t125] at u_t134
                          rw [v_t125] at v_t134
                          clear d_t125 w_t125 u_t125 v_t125 e_t125 a_t125 b_t125
                          have I_n_t134 := I_n_t125.flat X_t134
                          have f_n_t134 := f_n_t125.ex I_n_t125 (X_t134 0)
                          have u_n_t134 := u_n_t125.ex I_n_t125 (X_t134 0)
                          have I_m_mdt0_t134 := I_m_mdt0_t125.flat X_t134
                          have f_m_mdt0_t134 := f_m_mdt0_t125.ex I_m_mdt0_t125 (X_t134 0)
                          have u_m_mdt0_t134 := u_m_mdt0_t125.ex I_m_mdt0_t125 (X_t134 0)
                          have I_m_mdt115_t134 := I_m_mdt115_t125.flat X_t134
                          have u_m_mdt115_t134 := u_m_mdt115_t125.ex I_m_mdt115_t125 (X_t134 0)
                          refine Kp_push C_t134 (by omega) (fun t135 C_t135 X_t135 a_t135 b_t135 d_t135 w_t135 u_t135 v_t135 j_t135 l_t135 => ?_)
                          have e_t135 := C_t135.2.2.2.1
                          rw [a_t134] at a_t135
                          rw [b_t134] at b_t135
                          rw [d_t134] at d_t135
                          rw [w_t134] at w_t135
                          rw [u_t134] at u_t135
                          rw [v_t134] at v_t135
                          clear d_t134 w_t134 u_t134 v_t134 e_t134 a_t134 b_t134
                          have I_n_t135 := I_n_t134.flat X_t135
                          have f_n_t135 := f_n_t134.ex I_n_t134 (X_t135 0)
                          have u_n_t135 := u_n_t134.ex I_n_t134 (X_t135 0)
                          have I_m_mdt0_t135 := I_m_mdt0_t134.flat X_t135
                          have f_m_mdt0_t135 := f_m_mdt0_t134.ex I_m_mdt0_t134 (X_t135 0)
                          have u_m_mdt0_t135 := u_m_mdt0_t134.ex I_m_mdt0_t134 (X_t135 0)
                          have I_m_mdt115_t135 := I_m_mdt115_t134.flat X_t135
                          have u_m_mdt115_t135 := u_m_mdt115_t134.ex I_m_mdt115_t134 (X_t135 0)
                          refine Ok_ret (show Ok _ _ _ from ?_)
                          refine Ok_ret (show Ok _ _ _ from ?_)
                          refine Hv_mk (Kv_c (x := (41, m_md t0, 25)) rfl (Kv_c (x := (50, m_md t0, 0)) rfl hK)) (C_t135.1.2.2.2.2.2.2 hTt) C_t135 hT (by omega) (by omega) (by omega) ?_ ?_ ?_ (by omega) ?_ ?_ ?_
                          · exact ⟨(Io_41 (by decide) I_m_mdt0_t135.1 I_m_mdt0_t135.2.1 I_m_mdt0_t135.2.2.1 u_m_mdt0_t135 I_m_mdt0_t135.2.2.2), (Nd_0 (by decide) Mo_nil), ⟨(Io_n (by decide) (by decide) I_m_mdt0_t135.1 I_m_mdt0_t135.2.1 I_m_mdt0_t135.2.2.1 (fun _ => u_m_mdt0_t135) (fun q => absurd q (by decide)) I_m_mdt0_t135.2.2.2), (Nd_A (by decide) (Mo_cons (fun q => show m_md t0 ≤ m_md t0 from by omega) Mo_nil) (Or.inr ⟨(41, m_md t0, 25), List.mem_cons_self, rfl, Or.inr (Or.inr rfl)⟩)), Stk_step (N := n) (pop := (59, n, t)) (new := [(50, m_md t0, 0), (41, m_md t0, 25)]) F0 C_t135.1.to2 (fun (h : nk 59 = false) => absurd h (by decide)) (fun q _ h => h (59, n, t) rfl) (fun _ => rfl) (fun y hy hk => ⟨rfl, (Mo_cons (fun q => show n ≤ m_md t0 from by omega) (Mo_cons (fun q => show n ≤ m_md t0 from by omega) Mo_nil)) y hy hk⟩) (fun (h : 59 = 3 ∨ 59 = 18 ∨ 59 = 41) => absurd h (by decide)) (fun (h : 59 = 18) => absurd h (by decide)) (fun (h : 59 = 41 ∨ 59 = 42 ∨ 59 = 43) => absurd h (by decide)) r [] (fun y hy => absurd hy List.not_mem_nil) hS⟩⟩
                          · exact (Aj_up (x := (41, m_md t0, 25)) (Aj_sub (y := (50, m_md t0, 0)) hJ (Nat.le_of_ble_eq_true rfl)) (Or.inr (Nat.le_of_ble_eq_true rfl)))
                          · show m_dp t135 = (dlt 41 + (dlt 50 + sD r))
                            have : dlt 41 = 0 := rfl; have : dlt 50 = 0 := rfl; have : dlt 59 = 0 := rfl; omega
                          · show m_rw t135 = (rho 41 + (rho 50 + sR r))
                            have : rho 41 = 0 := rfl; have : rho 50 = 0 := rfl; have : rho 59 = 0 := rfl; omega
                          · show m_md t135 + (mu7 41 + (mu7 50 + sM r)) ≤ 3 * m_at t135 + 7 * (r.length + 1 + 1) + 10
                            have : mu7 41 = 6 := rfl; have : mu7 50 = 1 := rfl; have : mu7 59 = 6 := rfl; omega
                          · show (wt 41 + (wt 50 + sW r)) + 6 * (4096 - m_at t135) + 4 * (600 - (r.length + 1 + 1)) < (wt 59 + sW r) + 6 * (4096 - m_at t0) + 4 * (600 - (r.length + 1))
                            have : wt 41 = 6 := rfl; have : wt 50 = 0 := rfl; have : wt 59 = 7 := rfl; omega
                      · refine Kp_push C_t115 (by omega) (fun t136 C_t136 X_t136 a_t136 b_t136 d_t136 w_t136 u_t136 v_t136 j_t136 l_t136 => ?_)
                        have e_t136 := C_t136.2.2.2.1
                        rw [a_t115] at a_t136
                        rw [b_t115] at b_t136
                        rw [d_t115] at d_t136
                        rw [w_t115] at w_t136
                        rw [u_t115] at u_t136
                        rw [v_t115] at v_t136
                        clear d_t115 w_t115 u_t115 v_t115 e_t115 a_t115 b_t115
                        have I_n_t136 := I_n_t115.flat X_t136
                        have f_n_t136 := f_n_t115.ex I_n_t115 (X_t136 0)
                        have u_n_t136 := u_n_t115.ex I_n_t115 (X_t136 0)
                        have I_m_mdt0_t136 := I_m_mdt0_t115.flat X_t136
                        have u_m_mdt0_t136 := u_m_mdt0_t115.ex I_m_mdt0_t115 (X_t136 0)
                        refine Kp_push C_t136 (by omega) (fun t137 C_t137 X_t137 a_t137 b_t137 d_t137 w_t137 u_t137 v_t137 j_t137 l_t137 => ?_)
                        have e_t137 := C_t137.2.2.2.1
                        rw [a_t136] at a_t137
                        rw [b_t136] at b_t137
                        rw [d_t136] at d_t137
                        rw [w_t136] at w_t137
                        rw [u_t136] at u_t137
                        rw [v_t136] at v_t137
                        clear d_t136 w_t136 u_t136 v_t136 e_t136 a_t136 b_t136
                        have I_n_t137 := I_n_t136.flat X_t137
                        have f_n_t137 := f_n_t136.ex I_n_t136 (X_t137 0)
                        have u_n_t137 := u_n_t136.ex I_n_t136 (X_t137 0)
                        have I_m_mdt0_t137 := I_m_mdt0_t136.flat X_t137
                        have u_m_mdt0_t137 := u_m_mdt0_t136.ex I_m_mdt0_t136 (X_t137 0)
                        refine Ok_ret (show Ok _ _ _ from ?_)
                        refine Hv_mk (Kv_c (x := (41, m_md t0, 9)) rfl (Kv_c (x := (49, m_md t0, 0)) rfl hK)) (C_t137.1.2.2.2.2.2.2 hTt) C_t137 hT (by omega) (by omega) (by omega) ?_ ?_ ?_ (by omega) ?_ ?_ ?_
                        · exact ⟨(Io_41 (by decide) I_m_mdt0_t137.1 I_m_mdt0_t137.2.1 I_m_mdt0_t137.2.2.1 u_m_mdt0_t137 I_m_mdt0_t137.2.2.2), (Nd_0 (by decide) Mo_nil), ⟨(Io_n (by decide) (by decide) I_m_mdt0_t137.1 I_m_mdt0_t137.2.1 I_m_mdt0_t137.2.2.1 (fun _ => u_m_mdt0_t137) (fun q => absurd q (by decide)) I_m_mdt0_t137.2.2.2), (Nd_44 (by decide) (Mo_cons (fun q => show m_md t0 ≤ m_md t0 from by omega) Mo_nil) ⟨(41, m_md t0, 9), rfl, rfl, Or.inl rfl, (show 9 &&& 16 = 0 from by decide)⟩), Stk_step (N := n) (pop := (59, n, t)) (new := [(49, m_md t0, 0), (41, m_md t0, 9)]) F0 C_t137.1.to2 (fun (h : nk 59 = false) => absurd h (by decide)) (fun q _ h => h (59, n, t) rfl) (fun _ => rfl) (fun y hy hk => ⟨rfl, (Mo_cons (fun q => show n ≤ m_md t0 from by omega) (Mo_cons (fun q => show n ≤ m_md t0 from by omega) Mo_nil)) y hy hk⟩) (fun (h : 59 = 3 ∨ 59 = 18 ∨ 59 = 41) => absurd h (by decide)) (fun (h : 59 = 18) => absurd h (by decide)) (fun (h : 59 = 41 ∨ 59 = 42 ∨ 59 = 43) => absurd h (by decide)) r [] (fun y hy => absurd hy List.not_mem_nil) hS⟩⟩
                        · exact (Aj_up (x := (41, m_md t0, 9)) (Aj_sub (y := (49, m_md t0, 0)) hJ (Nat.le_of_ble_eq_true rfl)) (Or.inr (Nat.le_of_ble_eq_true rfl)))
                        · show m_dp t137 = (dlt 41 + (dlt 49 + sD r))
                          have : dlt 41 = 0 := rfl; have : dlt 49 = 0 := rfl; have : dlt 59 = 0 := rfl; omega
                        · show m_rw t137 = (rho 41 + (rho 49 + sR r))
                          have : rho 41 = 0 := rfl; have : rho 49 = 0 := rfl; have : rho 59 = 0 := rfl; omega
                        · show m_md t137 + (mu7 41 + (mu7 49 + sM r)) ≤ 3 * m_at t137 + 7 * (r.length + 1 + 1) + 10
                          have : mu7 41 = 6 := rfl; have : mu7 49 = 1 := rfl; have : mu7 59 = 6 := rfl; omega
                        · show (wt 41 + (wt 49 + sW r)) + 6 * (4096 - m_at t137) + 4 * (600 - (r.length + 1 + 1)) < (wt 59 + sW r) + 6 * (4096 - m_at t0) + 4 * (600 - (r.length + 1))
                          have : wt 41 = 6 := rfl; have : wt 49 = 0 := rfl; have : wt 59 = 7 := rfl; omega
                  · refine Ok_ife (Nat.lt_trans (lo_lt (C_t0.tk hT) _) (by decide)) (by decide) (fun q138 => ?_) (fun q138 => ?_)
                    · refine Kp_child C_t0 I_n_t0.1 I_n_t0.2.1 I_n_t0.2.2.1 (by omega) (by omega) (by decide) (by decide) (fun t139 C_t139 X_t139 a_t139 b_t139 d_t139 w_t139 u_t139 v_t139 j_t139 l_t139 => ?_)
                      have e_t139 := C_t139.2.2.2.1
                      have I_n_t139 := I_n_t0.chd X_t139 j_t139
                      have u_n_t139 := u_n_t0.ex I_n_t0 (X_t139 0 (Nat.zero_le _))
                      have f_n_t139 : Fz t139 n := j_t139.2.2.2.2.1
                      have I_m_mdt0_t139 : Nq t139 (m_md t0) := Nq.chn j_t139 (by omega) I_n_t0 (by decide)
                      have u_m_mdt0_t139 : Up t139 (m_md t0) := Or.inl j_t139.2.1
                      have z_t140 : m_at t139 < m_ct t139 := lo_ne (Nat.ne_of_gt (show 0 < lo t139 (m_at t139) from by omega))
                      refine Kp_at C_t139 (fun t140 C_t140 X_t140 a_t140 b_t140 d_t140 w_t140 u_t140 v_t140 j_t140 l_t140 => ?_)
                      have e_t140 := C_t140.2.2.2.1
                      rw [a_t139] at a_t140
                      rw [b_t139] at b_t140
                      rw [d_t139] at d_t140
                      rw [w_t139] at w_t140
                      rw [u_t139] at u_t140
                      rw [v_t139] at v_t140
                      rw [a_t139, e_t139] at z_t140
                      clear d_t139 w_t139 u_t139 v_t139 e_t139 a_t139 b_t139
                      have I_n_t140 := I_n_t139.flat X_t140
                      have f_n_t140 := f_n_t139.ex I_n_t139 (X_t140 0)
                      have u_n_t140 := u_n_t139.ex I_n_t139 (X_t140 0)
                      have I_m_mdt0_t140 := I_m_mdt0_t139.flat X_t140
                      have u_m_mdt0_t140 := u_m_mdt0_t139.ex I_m_mdt0_t139 (X_t140 0)
                      refine Ok_bnc ?_
                      try unfold b_X6_body
                      refine Kp_look C_t140 hT (by omega) ?_
                      refine Ok_ife (Nat.lt_trans (lo_lt (C_t140.tk hT) _) (by decide)) (by decide) (fun q142 => ?_) (fun q142 => ?_)
                      · refine Kp_more C_t140 (by omega) (by omega) (fun t143 C_t143 X_t143 a_t143 b_t143 d_t143 w_t143 u_t143 v_t143 j_t143 l_t143 => ?_)
                        have e_t143 := C_t143.2.2.2.1
                        rcases w_t143 with ⟨w_t143, y_t143⟩ | ⟨w_t143, wb_t143⟩
                        · rw [a_t140] at a_t143
                          rw [b_t140] at b_t143
                          rw [d_t140] at d_t143
                          rw [w_t140] at w_t143
                          rw [u_t140] at u_t143
                          rw [v_t140] at v_t143
                          rw [d_t143] at y_t143
                          clear d_t140 w_t140 u_t140 v_t140 e_t140 a_t140 b_t140
                          have I_n_t143 := I_n_t140.flat X_t143
                          have f_n_t143 := f_n_t140.ex I_n_t140 (X_t143 0)
                          have u_n_t143 := u_n_t140.ex I_n_t140 (X_t143 0)
                          have I_m_mdt0_t143 := I_m_mdt0_t140.flat X_t143
                          have u_m_mdt0_t143 := u_m_mdt0_t140.ex I_m_mdt0_t140 (X_t143 0)
                          have z_t144 : m_at t143 < m_ct t143 := lo_ne (Nat.ne_of_gt (show 0 < lo t143 (m_at t143) from by omega))
                          refine Kp_at C_t143 (fun t144 C_t144 X_t144 a_t144 b_t144 d_t144 w_t144 u_t144 v_t144 j_t144 l_t144 => ?_)
                          have e_t144 := C_t144.2.2.2.1
                          rw [a_t143] at a_t144
                          rw [b_t143] at b_t144
                          rw [d_t143] at d_t144
                          rw [w_t143] at w_t144
                          rw [u_t143] at u_t144
                          rw [v_t143] at v_t144
                          rw [a_t143, e_t143] at z_t144
                          clear z_t140
                          clear d_t143 w_t143 u_t143 v_t143 e_t143 a_t143 b_t143
                          have I_n_t144 := I_n_t143.flat X_t144
                          have f_n_t144 := f_n_t143.ex I_n_t143 (X_t144 0)
                          have u_n_t144 := u_n_t143.ex I_n_t143 (X_t144 0)
                          have I_m_mdt0_t144 := I_m_mdt0_t143.flat X_t144
                          have u_m_mdt0_t144 := u_m_mdt0_t143.ex I_m_mdt0_t143 (X_t144 0)
                          refine Kp_push C_t144 (by omega) (fun t145 C_t145 X_t145 a_t145 b_t145 d_t145 w_t145 u_t145 v_t145 j_t145 l_t145 => ?_)
                          have e_t145 := C_t145.2.2.2.1
                          rw [a_t144] at a_t145
                          rw [b_t144] at b_t145
                          rw [d_t144] at d_t145
                          rw [w_t144] at w_t145
                          rw [u_t144] at u_t145
                          rw [v_t144] at v_t145
                          clear d_t144 w_t144 u_t144 v_t144 e_t144 a_t144 b_t144
                          have I_n_t145 := I_n_t144.flat X_t145
                          have f_n_t145 := f_n_t144.ex I_n_t144 (X_t145 0)
                          have u_n_t145 := u_n_t144.ex I_n_t144 (X_t145 0)
                          have I_m_mdt0_t145 := I_m_mdt0_t144.flat X_t145
                          have u_m_mdt0_t145 := u_m_mdt0_t144.ex I_m_mdt0_t144 (X_t145 0)
                          refine Ok_ret (show Ok _ _ _ from ?_)
                          refine Hv_mk (Kv_c (x := (51, m_md t0, 2)) rfl hK) (C_t145.1.2.2.2.2.2.2 hTt) C_t145 hT (by omega) (by omega) (by omega) ?_ ?_ ?_ (by omega) ?_ ?_ ?_
                          · exact ⟨(Io_n (by decide) (by decide) I_m_mdt0_t145.1 I_m_mdt0_t145.2.1 I_m_mdt0_t145.2.2.1 (fun q => absurd q (by decide)) (fun q => absurd q (by decide)) I_m_mdt0_t145.2.2.2), (Nd_0 (by decide) Mo_nil), Stk_step (N := n) (pop := (59, n, t)) (new := [(51, m_md t0, 2)]) F0 C_t145.1.to2 (fun (h : nk 59 = false) => absurd h (by decide)) (fun q _ h => h (59, n, t) rfl) (fun _ => rfl) (fun y hy hk => ⟨rfl, (Mo_cons (fun q => show n ≤ m_md t0 from by omega) Mo_nil) y hy hk⟩) (fun (h : 59 = 3 ∨ 59 = 18 ∨ 59 = 41) => absurd h (by decide)) (fun (h : 59 = 18) => absurd h (by decide)) (fun (h : 59 = 41 ∨ 59 = 42 ∨ 59 = 43) => absurd h (by decide)) r [] (fun y hy => absurd hy List.not_mem_nil) hS⟩
                          · exact (Aj_sub (y := (51, m_md t0, 2)) hJ (Nat.le_of_ble_eq_true rfl))
                          · show m_dp t145 = (dlt 51 + sD r)
                            have : dlt 51 = 1 := rfl; have : dlt 59 = 0 := rfl; omega
                          · show m_rw t145 = (rho 51 + sR r)
                            have : rho 51 = 0 := rfl; have : rho 59 = 0 := rfl; omega
                          · show m_md t145 + (mu7 51 + sM r) ≤ 3 * m_at t145 + 7 * (r.length + 1) + 10
                            have : mu7 51 = 4 := rfl; have : mu7 59 = 6 := rfl; omega
                          · show (wt 51 + sW r) + 6 * (4096 - m_at t145) + 4 * (600 - (r.length + 1)) < (wt 59 + sW r) + 6 * (4096 - m_at t0) + 4 * (600 - (r.length + 1))
                            have : wt 51 = 0 := rfl; have : wt 59 = 7 := rfl; omega
                        · have w_t143 := Nat.pos_of_ne_zero w_t143
                          have I_n_t143 := I_n_t140.flat X_t143
                          have f_n_t143 := f_n_t140.ex I_n_t140 (X_t143 0)
                          have u_n_t143 := u_n_t140.ex I_n_t140 (X_t143 0)
                          have I_m_mdt0_t143 := I_m_mdt0_t140.flat X_t143
                          have u_m_mdt0_t143 := u_m_mdt0_t140.ex I_m_mdt0_t140 (X_t143 0)
                          refine Kp_at C_t143 (fun t146 C_t146 X_t146 a_t146 b_t146 d_t146 w_t146 u_t146 v_t146 j_t146 l_t146 => ?_)
                          have e_t146 := C_t146.2.2.2.1
                          have I_n_t146 := I_n_t143.flat X_t146
                          have f_n_t146 := f_n_t143.ex I_n_t143 (X_t146 0)
                          have u_n_t146 := u_n_t143.ex I_n_t143 (X_t146 0)
                          have I_m_mdt0_t146 := I_m_mdt0_t143.flat X_t146
                          have u_m_mdt0_t146 := u_m_mdt0_t143.ex I_m_mdt0_t143 (X_t146 0)
                          refine Kp_push C_t146 (by omega) (fun t147 C_t147 X_t147 a_t147 b_t147 d_t147 w_t147 u_t147 v_t147 j_t147 l_t147 => ?_)
                          have e_t147 := C_t147.2.2.2.1
                          have I_n_t147 := I_n_t146.flat X_t147
                          have f_n_t147 := f_n_t146.ex I_n_t146 (X_t147 0)
                          have u_n_t147 := u_n_t146.ex I_n_t146 (X_t147 0)
                          have I_m_mdt0_t147 := I_m_mdt0_t146.flat X_t147
                          have u_m_mdt0_t147 := u_m_mdt0_t146.ex I_m_mdt0_t146 (X_t147 0)
                          refine Ok_ret (show Ok _ _ _ from ?_)
                          exact Or.inl ⟨Nat.ne_of_gt (show 0 < m_wr t147 from by omega), by omega, by omega, C_t147.2.2.2.2.2, by omega⟩
                      · refine Kp_error C_t140 (by omega) (fun t148 C_t148 X_t148 a_t148 b_t148 d_t148 w_t148 u_t148 v_t148 j_t148 l_t148 => ?_)
                        have wb_t148 := w_t148.2
                        have w_t148 := Nat.pos_of_ne_zero w_t148.1
                        have e_t148 := C_t148.2.2.2.1
                        have I_n_t148 := I_n_t140.flat X_t148
                        have f_n_t148 := f_n_t140.ex I_n_t140 (X_t148 0)
                        have u_n_t148 := u_n_t140.ex I_n_t140 (X_t148 0)
                        have I_m_mdt0_t148 := I_m_mdt0_t140.flat X_t148
                        have u_m_mdt0_t148 := u_m_mdt0_t140.ex I_m_mdt0_t140 (X_t148 0)
                        refine Ok_ret (show Ok _ _ _ from ?_)
                        exact Or.inl ⟨Nat.ne_of_gt (show 0 < m_wr t148 from by omega), by omega, by omega, C_t148.2.2.2.2.2, by omega⟩
                    · refine Ok_ife (Nat.lt_trans (lo_lt (C_t0.tk hT) _) (by decide)) (by decide) (fun q149 => ?_) (fun q149 => ?_)
                      · refine Ok_bnc ?_
                        try unfold b_X6_leaving
                        refine Ok_ife (Nat.lt_trans (lo_lt (C_t0.tk hT) _) (by decide)) (by decide) (fun q => ?_) (fun q => absurd q149 q)
                        refine Kp_child C_t0 I_n_t0.1 I_n_t0.2.1 I_n_t0.2.2.1 (by omega) (by omega) (by decide) (by decide) (fun t151 C_t151 X_t151 a_t151 b_t151 d_t151 w_t151 u_t151 v_t151 j_t151 l_t151 => ?_)
                        have e_t151 := C_t151.2.2.2.1
                        have I_n_t151 := I_n_t0.chd X_t151 j_t151
                        have u_n_t151 := u_n_t0.ex I_n_t0 (X_t151 0 (Nat.zero_le _))
                        have f_n_t151 : Fz t151 n := j_t151.2.2.2.2.1
                        have I_m_mdt0_t151 : Nq t151 (m_md t0) := Nq.chn j_t151 (by omega) I_n_t0 (by decide)
                        have u_m_mdt0_t151 : Up t151 (m_md t0) := Or.inl j_t151.2.1
                        have z_t152 : m_at t151 < m_ct t151 := lo_ne (Nat.ne_of_gt (show 0 < lo t151 (m_at t151) from by omega))
                        refine Kp_at C_t151 (fun t152 C_t152 X_t152 a_t152 b_t152 d_t152 w_t152 u_t152 v_t152 j_t152 l_t152 => ?_)
                        have e_t152 := C_t152.2.2.2.1
                        rw [a_t151] at a_t152
                        rw [b_t151] at b_t152
                        rw [d_t151] at d_t152
                        rw [w_t151] at w_t152
                        rw [u_t151] at u_t152
                        rw [v_t151] at v_t152
                        rw [a_t151, e_t151] at z_t152
                        clear d_t151 w_t151 u_t151 v_t151 e_t151 a_t151 b_t151
                        have I_n_t152 := I_n_t151.flat X_t152
                        have f_n_t152 := f_n_t151.ex I_n_t151 (X_t152 0)
                        have u_n_t152 := u_n_t151.ex I_n_t151 (X_t152 0)
                        have I_m_mdt0_t152 := I_m_mdt0_t151.flat X_t152
                        have u_m_mdt0_t152 := u_m_mdt0_t151.ex I_m_mdt0_t151 (X_t152 0)
                        refine Ok_ife (Nat.lt_trans (lo_lt (C_t0.tk hT) _) (by decide)) (by decide) (fun q => ?_) (fun q => absurd q149 q)
                        refine Ok_bnc ?_
                        try unfold b_X6_expression
                        refine Kp_push C_t152 (by omega) (fun t154 C_t154 X_t154 a_t154 b_t154 d_t154 w_t154 u_t154 v_t154 j_t154 l_t154 => ?_)
                        have e_t154 := C_t154.2.2.2.1
                        rw [a_t152] at a_t154
                        rw [b_t152] at b_t154
                        rw [d_t152] at d_t154
                        rw [w_t152] at w_t154
                        rw [u_t152] at u_t154
                        rw [v_t152] at v_t154
                        clear d_t152 w_t152 u_t152 v_t152 e_t152 a_t152 b_t152
                        have I_n_t154 := I_n_t152.flat X_t154
                        have f_n_t154 := f_n_t152.ex I_n_t152 (X_t154 0)
                        have u_n_t154 := u_n_t152.ex I_n_t152 (X_t154 0)
                        have I_m_mdt0_t154 := I_m_mdt0_t152.flat X_t154
                        have u_m_mdt0_t154 := u_m_mdt0_t152.ex I_m_mdt0_t152 (X_t154 0)
                        refine Kp_push C_t154 (by omega) (fun t155 C_t155 X_t155 a_t155 b_t155 d_t155 w_t155 u_t155 v_t155 j_t155 l_t155 => ?_)
                        have e_t155 := C_t155.2.2.2.1
                        rw [a_t154] at a_t155
                        rw [b_t154] at b_t155
                        rw [d_t154] at d_t155
                        rw [w_t154] at w_t155
                        rw [u_t154] at u_t155
                        rw [v_t154] at v_t155
                        clear d_t154 w_t154 u_t154 v_t154 e_t154 a_t154 b_t154
                        have I_n_t155 := I_n_t154.flat X_t155
                        have f_n_t155 := f_n_t154.ex I_n_t154 (X_t155 0)
                        have u_n_t155 := u_n_t154.ex I_n_t154 (X_t155 0)
                        have I_m_mdt0_t155 := I_m_mdt0_t154.flat X_t155
                        have u_m_mdt0_t155 := u_m_mdt0_t154.ex I_m_mdt0_t154 (X_t155 0)
                        refine Ok_ret (show Ok _ _ _ from ?_)
                        refine Ok_ret (show Ok _ _ _ from ?_)
                        refine Hv_mk (Kv_c (x := (3, m_md t0, 0)) rfl (Kv_c (x := (2, m_md t0, 0 ||| (1 * 256))) rfl hK)) (C_t155.1.2.2.2.2.2.2 hTt) C_t155 hT (by omega) (by omega) (by omega) ?_ ?_ ?_ (by omega) ?_ ?_ ?_
                        · exact ⟨(Io_n (by decide) (by decide) I_m_mdt0_t155.1 I_m_mdt0_t155.2.1 I_m_mdt0_t155.2.2.1 (fun q => absurd q (by decide)) (fun q => absurd q (by decide)) I_m_mdt0_t155.2.2.2), (Nd_0 (by decide) Mo_nil), ⟨(Io_2 (by have := or_256 (b := 1) (show 0 < 256 from by omega); omega) (by have := or_256 (b := 1) (show 0 < 256 from by omega); omega) (by have := or_256 (b := 1) (show 0 < 256 from by omega); omega) I_m_mdt0_t155.1 I_m_mdt0_t155.2.1 I_m_mdt0_t155.2.2.1 I_m_mdt0_t155.2.2.2), (Nd_A (by decide) (Mo_cons (fun q => show m_md t0 ≤ m_md t0 from by omega) Mo_nil) (Or.inr ⟨(3, m_md t0, 0), List.mem_cons_self, rfl, Or.inl rfl⟩)), Stk_step (N := n) (pop := (59, n, t)) (new := [(2, m_md t0, 0 ||| (1 * 256)), (3, m_md t0, 0)]) F0 C_t155.1.to2 (fun (h : nk 59 = false) => absurd h (by decide)) (fun q _ h => h (59, n, t) rfl) (fun _ => rfl) (fun y hy hk => ⟨rfl, (Mo_cons (fun q => show n ≤ m_md t0 from by omega) (Mo_cons (fun q => show n ≤ m_md t0 from by omega) Mo_nil)) y hy hk⟩) (fun (h : 59 = 3 ∨ 59 = 18 ∨ 59 = 41) => absurd h (by decide)) (fun (h : 59 = 18) => absurd h (by decide)) (fun (h : 59 = 41 ∨ 59 = 42 ∨ 59 = 43) => absurd h (by decide)) r [] (fun y hy => absurd hy List.not_mem_nil) hS⟩⟩
                        · exact (Aj_up (x := (3, m_md t0, 0)) (Aj_sub (y := (2, m_md t0, 0 ||| (1 * 256))) hJ (show 9 - (0 ||| (1 * 256)) / 256 ≤ 13 from by have := or_256 (b := 1) (show 0 < 256 from by omega); omega)) (Or.inr (show 2 < 9 - (0 ||| (1 * 256)) / 256 from by have := or_256 (b := 1) (show 0 < 256 from by omega); omega)))
                        · show m_dp t155 = (dlt 3 + (dlt 2 + sD r))
                          have : dlt 2 = 0 := rfl; have : dlt 3 = 0 := rfl; have : dlt 59 = 0 := rfl; omega
                        · show m_rw t155 = (rho 3 + (rho 2 + sR r))
                          have : rho 2 = 0 := rfl; have : rho 3 = 0 := rfl; have : rho 59 = 0 := rfl; omega
                        · show m_md t155 + (mu7 3 + (mu7 2 + sM r)) ≤ 3 * m_at t155 + 7 * (r.length + 1 + 1) + 10
                          have : mu7 2 = 7 := rfl; have : mu7 3 = 5 := rfl; have : mu7 59 = 6 := rfl; omega
                        · show (wt 3 + (wt 2 + sW r)) + 6 * (4096 - m_at t155) + 4 * (600 - (r.length + 1 + 1)) < (wt 59 + sW r) + 6 * (4096 - m_at t0) + 4 * (600 - (r.length + 1))
                          have : wt 2 = 5 := rfl; have : wt 3 = 3 := rfl; have : wt 59 = 7 := rfl; omega
                      · refine Ok_ife (Nat.lt_trans (lo_lt (C_t0.tk hT) _) (by decide)) (by decide) (fun q156 => ?_) (fun q156 => ?_)
                        · refine Ok_bnc ?_
                          try unfold b_X6_leaving
                          refine Ok_ife (Nat.lt_trans (lo_lt (C_t0.tk hT) _) (by decide)) (by decide) (fun q => absurd q q149) (fun q => ?_)
                          refine Ok_ife (Nat.lt_trans (lo_lt (C_t0.tk hT) _) (by decide)) (by decide) (fun q => ?_) (fun q => absurd q156 q)
                          refine Kp_child C_t0 I_n_t0.1 I_n_t0.2.1 I_n_t0.2.2.1 (by omega) (by omega) (by decide) (by decide) (fun t158 C_t158 X_t158 a_t158 b_t158 d_t158 w_t158 u_t158 v_t158 j_t158 l_t158 => ?_)
                          have e_t158 := C_t158.2.2.2.1
                          have I_n_t158 := I_n_t0.chd X_t158 j_t158
                          have u_n_t158 := u_n_t0.ex I_n_t0 (X_t158 0 (Nat.zero_le _))
                          have f_n_t158 : Fz t158 n := j_t158.2.2.2.2.1
                          have I_m_mdt0_t158 : Nq t158 (m_md t0) := Nq.chn j_t158 (by omega) I_n_t0 (by decide)
                          have u_m_mdt0_t158 : Up t158 (m_md t0) := Or.inl j_t158.2.1
                          have z_t159 : m_at t158 < m_ct t158 := lo_ne (Nat.ne_of_gt (show 0 < lo t158 (m_at t158) from by omega))
                          refine Kp_at C_t158 (fun t159 C_t159 X_t159 a_t159 b_t159 d_t159 w_t159 u_t159 v_t159 j_t159 l_t159 => ?_)
                          have e_t159 := C_t159.2.2.2.1
                          rw [a_t158] at a_t159
                          rw [b_t158] at b_t159
                          rw [d_t158] at d_t159
                          rw [w_t158] at w_t159
                          rw [u_t158] at u_t159
                          rw [v_t158] at v_t159
                          rw [a_t158, e_t158] at z_t159
                          clear d_t158 w_t158 u_t158 v_t158 e_t158 a_t158 b_t158
                          have I_n_t159 := I_n_t158.flat X_t159
                          have f_n_t159 := f_n_t158.ex I_n_t158 (X_t159 0)
                          have u_n_t159 := u_n_t158.ex I_n_t158 (X_t159 0)
                          have I_m_mdt0_t159 := I_m_mdt0_t158.flat X_t159
                          have u_m_mdt0_t159 := u_m_mdt0_t158.ex I_m_mdt0_t158 (X_t159 0)
                          refine Ok_ife (Nat.lt_trans (lo_lt (C_t0.tk hT) _) (by decide)) (by decide) (fun q => absurd q q149) (fun q => ?_)
                          refine Ok_ife (Nat.lt_trans (lo_lt (C_t0.tk hT) _) (by decide)) (by decide) (fun q => ?_) (fun q => absurd q156 q)
                          refine Ok_bnc ?_
                          try unfold b_X6_expression
                          refine Kp_push C_t159 (by omega) (fun t161 C_t161 X_t161 a_t161 b_t161 d_t161 w_t161 u_t161 v_t161 j_t161 l_t161 => ?_)
                          have e_t161 := C_t161.2.2.2.1
                          rw [a_t159] at a_t161
                          rw [b_t159] at b_t161
                          rw [d_t159] at d_t161
                          rw [w_t159] at w_t161
                          rw [u_t159] at u_t161
                          rw [v_t159] at v_t161
                          clear d_t159 w_t159 u_t159 v_t159 e_t159 a_t159 b_t159
                          have I_n_t161 := I_n_t159.flat X_t161
                          have f_n_t161 := f_n_t159.ex I_n_t159 (X_t161 0)
                          have u_n_t161 := u_n_t159.ex I_n_t159 (X_t161 0)
                          have I_m_mdt0_t161 := I_m_mdt0_t159.flat X_t161
                          have u_m_mdt0_t161 := u_m_mdt0_t159.ex I_m_mdt0_t159 (X_t161 0)
                          refine Kp_push C_t161 (by omega) (fun t162 C_t162 X_t162 a_t162 b_t162 d_t162 w_t162 u_t162 v_t162 j_t162 l_t162 => ?_)
                          have e_t162 := C_t162.2.2.2.1
                          rw [a_t161] at a_t162
                          rw [b_t161] at b_t162
                          rw [d_t161] at d_t162
                          rw [w_t161] at w_t162
                          rw [u_t161] at u_t162
                          rw [v_t161] at v_t162
                          clear d_t161 w_t161 u_t161 v_t161 e_t161 a_t161 b_t161
                          have I_n_t162 := I_n_t161.flat X_t162
                          have f_n_t162 := f_n_t161.ex I_n_t161 (X_t162 0)
                          have u_n_t162 := u_n_t161.ex I_n_t161 (X_t162 0)
                          have I_m_mdt0_t162 := I_m_mdt0_t161.flat X_t162
                          have u_m_mdt0_t162 := u_m_mdt0_t161.ex I_m_mdt0_t161 (X_t162 0)
                          refine Ok_ret (show Ok _ _ _ from ?_)
                          refine Ok_ret (show Ok _ _ _ from ?_)
                          refine Hv_mk (Kv_c (x := (3, m_md t0, 0)) rfl (Kv_c (x := (2, m_md t0, 0 ||| (1 * 256))) rfl hK)) (C_t162.1.2.2.2.2.2.2 hTt) C_t162 hT (by omega) (by omega) (by omega) ?_ ?_ ?_ (by omega) ?_ ?_ ?_
                          · exact ⟨(Io_n (by decide) (by decide) I_m_mdt0_t162.1 I_m_mdt0_t162.2.1 I_m_mdt0_t162.2.2.1 (fun q => absurd q (by decide)) (fun q => absurd q (by decide)) I_m_mdt0_t162.2.2.2), (Nd_0 (by decide) Mo_nil), ⟨(Io_2 (by have := or_256 (b := 1) (show 0 < 256 from by omega); omega) (by have := or_256 (b := 1) (show 0 < 256 from by omega); omega) (by have := or_256 (b := 1) (show 0 < 256 from by omega); omega) I_m_mdt0_t162.1 I_m_mdt0_t162.2.1 I_m_mdt0_t162.2.2.1 I_m_mdt0_t162.2.2.2), (Nd_A (by decide) (Mo_cons (fun q => show m_md t0 ≤ m_md t0 from by omega) Mo_nil) (Or.inr ⟨(3, m_md t0, 0), List.mem_cons_self, rfl, Or.inl rfl⟩)), Stk_step (N := n) (pop := (59, n, t)) (new := [(2, m_md t0, 0 ||| (1 * 256)), (3, m_md t0, 0)]) F0 C_t162.1.to2 (fun (h : nk 59 = false) => absurd h (by decide)) (fun q _ h => h (59, n, t) rfl) (fun _ => rfl) (fun y hy hk => ⟨rfl, (Mo_cons (fun q => show n ≤ m_md t0 from by omega) (Mo_cons (fun q => show n ≤ m_md t0 from by omega) Mo_nil)) y hy hk⟩) (fun (h : 59 = 3 ∨ 59 = 18 ∨ 59 = 41) => absurd h (by decide)) (fun (h : 59 = 18) => absurd h (by decide)) (fun (h : 59 = 41 ∨ 59 = 42 ∨ 59 = 43) => absurd h (by decide)) r [] (fun y hy => absurd hy List.not_mem_nil) hS⟩⟩
                          · exact (Aj_up (x := (3, m_md t0, 0)) (Aj_sub (y := (2, m_md t0, 0 ||| (1 * 256))) hJ (show 9 - (0 ||| (1 * 256)) / 256 ≤ 13 from by have := or_256 (b := 1) (show 0 < 256 from by omega); omega)) (Or.inr (show 2 < 9 - (0 ||| (1 * 256)) / 256 from by have := or_256 (b := 1) (show 0 < 256 from by omega); omega)))
                          · show m_dp t162 = (dlt 3 + (dlt 2 + sD r))
                            have : dlt 2 = 0 := rfl; have : dlt 3 = 0 := rfl; have : dlt 59 = 0 := rfl; omega
                          · show m_rw t162 = (rho 3 + (rho 2 + sR r))
                            have : rho 2 = 0 := rfl; have : rho 3 = 0 := rfl; have : rho 59 = 0 := rfl; omega
                          · show m_md t162 + (mu7 3 + (mu7 2 + sM r)) ≤ 3 * m_at t162 + 7 * (r.length + 1 + 1) + 10
                            have : mu7 2 = 7 := rfl; have : mu7 3 = 5 := rfl; have : mu7 59 = 6 := rfl; omega
                          · show (wt 3 + (wt 2 + sW r)) + 6 * (4096 - m_at t162) + 4 * (600 - (r.length + 1 + 1)) < (wt 59 + sW r) + 6 * (4096 - m_at t0) + 4 * (600 - (r.length + 1))
                            have : wt 2 = 5 := rfl; have : wt 3 = 3 := rfl; have : wt 59 = 7 := rfl; omega
                        · refine Ok_ife (Nat.lt_trans (lo_lt (C_t0.tk hT) _) (by decide)) (by decide) (fun q163 => ?_) (fun q163 => ?_)
                          · refine Ok_bnc ?_
                            try unfold b_X6_leaving
                            refine Ok_ife (Nat.lt_trans (lo_lt (C_t0.tk hT) _) (by decide)) (by decide) (fun q => absurd q q149) (fun q => ?_)
                            refine Ok_ife (Nat.lt_trans (lo_lt (C_t0.tk hT) _) (by decide)) (by decide) (fun q => absurd q q156) (fun q => ?_)
                            refine Ok_ife (Nat.lt_trans (lo_lt (C_t0.tk hT) _) (by decide)) (by decide) (fun q => ?_) (fun q => absurd q163 q)
                            refine Kp_child C_t0 I_n_t0.1 I_n_t0.2.1 I_n_t0.2.2.1 (by omega) (by omega) (by decide) (by decide) (fun t165 C_t165 X_t165 a_t165 b_t165 d_t165 w_t165 u_t165 v_t165 j_t165 l_t165 => ?_)
                            have e_t165 := C_t165.2.2.2.1
                            have I_n_t165 := I_n_t0.chd X_t165 j_t165
                            have u_n_t165 := u_n_t0.ex I_n_t0 (X_t165 0 (Nat.zero_le _))
                            have f_n_t165 : Fz t165 n := j_t165.2.2.2.2.1
                            have I_m_mdt0_t165 : Nq t165 (m_md t0) := Nq.chn j_t165 (by omega) I_n_t0 (by decide)
                            have u_m_mdt0_t165 : Up t165 (m_md t0) := Or.inl j_t165.2.1
                            have z_t166 : m_at t165 < m_ct t165 := lo_ne (Nat.ne_of_gt (show 0 < lo t165 (m_at t165) from by omega))
                            refine Kp_at C_t165 (fun t166 C_t166 X_t166 a_t166 b_t166 d_t166 w_t166 u_t166 v_t166 j_t166 l_t166 => ?_)
                            have e_t166 := C_t166.2.2.2.1
                            rw [a_t165] at a_t166
                            rw [b_t165] at b_t166
                            rw [d_t165] at d_t166
                            rw [w_t165] at w_t166
                            rw [u_t165] at u_t166
                            rw [v_t165] at v_t166
                            rw [a_t165, e_t165] at z_t166
                            clear d_t165 w_t165 u_t165 v_t165 e_t165 a_t165 b_t165
                            have I_n_t166 := I_n_t165.flat X_t166
                            have f_n_t166 := f_n_t165.ex I_n_t165 (X_t166 0)
                            have u_n_t166 := u_n_t165.ex I_n_t165 (X_t166 0)
                            have I_m_mdt0_t166 := I_m_mdt0_t165.flat X_t166
                            have u_m_mdt0_t166 := u_m_mdt0_t165.ex I_m_mdt0_t165 (X_t166 0)
                            refine Ok_ife (Nat.lt_trans (lo_lt (C_t0.tk hT) _) (by decide)) (by decide) (fun q => absurd q q149) (fun q => ?_)
                            refine Ok_ife (Nat.lt_trans (lo_lt (C_t0.tk hT) _) (by decide)) (by decide) (fun q => absurd q q156) (fun q => ?_)
                            refine Ok_ife (Nat.lt_trans (lo_lt (C_t0.tk hT) _) (by decide)) (by decide) (fun q => ?_) (fun q => absurd q163 q)
                            refine Kp_look C_t166 hT (by omega) ?_
                            refine Ok_ck (Nat.lt_trans (lo_lt (C_t166.tk hT) _) (by decide)) ?_
                            refine Ok_ifz (f6_beginsExpr _) (fun q167 => ?_) (fun q167 => ?_)
                            · refine Ok_ife (Nat.lt_trans (lo_lt (C_t0.tk hT) _) (by decide)) (by decide) (fun q => absurd (q163.symm.trans q) (by decide)) (fun _ => ?_)
                              refine Ok_ife (Nat.lt_trans (lo_lt (C_t0.tk hT) _) (by decide)) (by decide) (fun q => absurd (q163.symm.trans q) (by decide)) (fun _ => ?_)
                              refine Ok_ret (show Ok _ _ _ from ?_)
                              refine Hv_mk hK (C_t166.1.2.2.2.2.2.2 hTt) C_t166 hT (by omega) (by omega) (by omega) ?_ ?_ ?_ (by omega) ?_ ?_ ?_
                              · exact Stk_step (N := n) (pop := (59, n, t)) (new := []) F0 C_t166.1.to2 (fun (h : nk 59 = false) => absurd h (by decide)) (fun q _ h => h (59, n, t) rfl) (fun _ => rfl) (fun y hy hk => ⟨rfl, Mo_nil (n := n) y hy hk⟩) (fun (h : 59 = 3 ∨ 59 = 18 ∨ 59 = 41) => absurd h (by decide)) (fun (h : 59 = 18) => absurd h (by decide)) (fun (h : 59 = 41 ∨ 59 = 42 ∨ 59 = 43) => absurd h (by decide)) r [] (fun y hy => absurd hy List.not_mem_nil) hS
                              · exact Aj_tl hJ
                              · show m_dp t166 = sD r
                                have : dlt 59 = 0 := rfl; omega
                              · show m_rw t166 = sR r
                                have : rho 59 = 0 := rfl; omega
                              · show m_md t166 + sM r ≤ 3 * m_at t166 + 7 * (r.length) + 10
                                have : mu7 59 = 6 := rfl; omega
                              · show sW r + 6 * (4096 - m_at t166) + 4 * (600 - (r.length)) < (wt 59 + sW r) + 6 * (4096 - m_at t0) + 4 * (600 - (r.length + 1))
                                have : wt 59 = 7 := rfl; omega
                            · have q167n := Nat.pos_of_ne_zero (n6_beginsExpr q167)
                              refine Ok_bnc ?_
                              try unfold b_X6_exprs
                              refine Kp_child C_t166 I_m_mdt0_t166.1 I_m_mdt0_t166.2.1 I_m_mdt0_t166.2.2.1 (by omega) (by omega) (by decide) (by decide) (fun t169 C_t169 X_t169 a_t169 b_t169 d_t169 w_t169 u_t169 v_t169 j_t169 l_t169 => ?_)
                              have e_t169 := C_t169.2.2.2.1
                              rw [a_t166] at a_t169
                              rw [b_t166] at b_t169
                              rw [d_t166] at d_t169
                              rw [w_t166] at w_t169
                              rw [u_t166] at u_t169
                              rw [v_t166] at v_t169
                              clear d_t166 w_t166 u_t166 v_t166 e_t166 a_t166
                              have I_n_t169 := I_n_t166.chd X_t169 j_t169
                              have f_n_t169 := f_n_t166.ex I_n_t166 (X_t169 0 (Nat.zero_le _))
                              have u_n_t169 := u_n_t166.ex I_n_t166 (X_t169 0 (Nat.zero_le _))
                              have I_m_mdt0_t169 := I_m_mdt0_t166.chd X_t169 j_t169
                              have u_m_mdt0_t169 := u_m_mdt0_t166.ex I_m_mdt0_t166 (X_t169 0 (Nat.zero_le _))
                              have f_m_mdt0_t169 : Fz t169 (m_md t0) := j_t169.2.2.2.2.1
                              have I_m_mdt166_t169 : Nq t169 (m_md t166) := Nq.chn j_t169 (by omega) I_m_mdt0_t166 (by decide)
                              have u_m_mdt166_t169 : Up t169 (m_md t166) := Or.inl j_t169.2.1
                              refine Kp_push C_t169 (by omega) (fun t170 C_t170 X_t170 a_t170 b_t170 d_t170 w_t170 u_t170 v_t170 j_t170 l_t170 => ?_)
                              have e_t170 := C_t170.2.2.2.1
                              rw [a_t169] at a_t170
                              rw [b_t169] at b_t170
                              rw [d_t169] at d_t170
                              rw [w_t169] at w_t170
                              rw [u_t169] at u_t170
                              rw [v_t169] at v_t170
                              clear d_t169 w_t169 u_t169 v_t169 e_t169 a_t169 b_t169
                              have I_n_t170 := I_n_t169.flat X_t170
                              have f_n_t170 := f_n_t169.ex I_n_t169 (X_t170 0)
                              have u_n_t170 := u_n_t169.ex I_n_t169 (X_t170 0)
                              have I_m_mdt0_t170 := I_m_mdt0_t169.flat X_t170
                              have f_m_mdt0_t170 := f_m_mdt0_t169.ex I_m_mdt0_t169 (X_t170 0)
                              have u_m_mdt0_t170 := u_m_mdt0_t169.ex I_m_mdt0_t169 (X_t170 0)
                              have I_m_mdt166_t170 := I_m_mdt166_t169.flat X_t170
                              have u_m_mdt166_t170 := u_m_mdt166_t169.ex I_m_mdt166_t169 (X_t170 0)
                              refine Ok_bnc ?_
                              try unfold b_X6_expression
                              refine Kp_push C_t170 (by omega) (fun t172 C_t172 X_t172 a_t172 b_t172 d_t172 w_t172 u_t172 v_t172 j_t172 l_t172 => ?_)
                              have e_t172 := C_t172.2.2.2.1
                              rw [a_t170] at a_t172
                              rw [b_t170] at b_t172
                              rw [d_t170] at d_t172
                              rw [w_t170] at w_t172
                              rw [u_t170] at u_t172
                              rw [v_t170] at v_t172
                              clear d_t170 w_t170 u_t170 v_t170 e_t170 a_t170 b_t170
                              have I_n_t172 := I_n_t170.flat X_t172
                              have f_n_t172 := f_n_t170.ex I_n_t170 (X_t172 0)
                              have u_n_t172 := u_n_t170.ex I_n_t170 (X_t172 0)
                              have I_m_mdt0_t172 := I_m_mdt0_t170.flat X_t172
                              have f_m_mdt0_t172 := f_m_mdt0_t170.ex I_m_mdt0_t170 (X_t172 0)
                              have u_m_mdt0_t172 := u_m_mdt0_t170.ex I_m_mdt0_t170 (X_t172 0)
                              have I_m_mdt166_t172 := I_m_mdt166_t170.flat X_t172
                              have u_m_mdt166_t172 := u_m_mdt166_t170.ex I_m_mdt166_t170 (X_t172 0)
                              refine Kp_push C_t172 (by omega) (fun t173 C_t173 X_t173 a_t173 b_t173 d_t173 w_t173 u_t173 v_t173 j_t173 l_t173 => ?_)
                              have e_t173 := C_t173.2.2.2.1
                              rw [a_t172] at a_t173
                              rw [b_t172] at b_t173
                              rw [d_t172] at d_t173
                              rw [w_t172] at w_t173
                              rw [u_t172] at u_t173
                              rw [v_t172] at v_t173
                              clear d_t172 w_t172 u_t172 v_t172 e_t172 a_t172 b_t172
                              have I_n_t173 := I_n_t172.flat X_t173
                              have f_n_t173 := f_n_t172.ex I_n_t172 (X_t173 0)
                              have u_n_t173 := u_n_t172.ex I_n_t172 (X_t173 0)
                              have I_m_mdt0_t173 := I_m_mdt0_t172.flat X_t173
                              have f_m_mdt0_t173 := f_m_mdt0_t172.ex I_m_mdt0_t172 (X_t173 0)
                              have u_m_mdt0_t173 := u_m_mdt0_t172.ex I_m_mdt0_t172 (X_t173 0)
                              have I_m_mdt166_t173 := I_m_mdt166_t172.flat X_t173
                              have u_m_mdt166_t173 := u_m_mdt166_t172.ex I_m_mdt166_t172 (X_t173 0)
                              refine Ok_ret (show Ok _ _ _ from ?_)
                              refine Ok_ret (show Ok _ _ _ from ?_)
                              refine Ok_ret (show Ok _ _ _ from ?_)
                              refine Hv_mk (Kv_c (x := (3, m_md t166, 0 &&& 1)) rfl (Kv_c (x := (2, m_md t166, (0 &&& 1) ||| (1 * 256))) rfl (Kv_c (x := (32, m_md t166, 0 &&& 1)) rfl hK))) (C_t173.1.2.2.2.2.2.2 hTt) C_t173 hT (by omega) (by omega) (by omega) ?_ ?_ ?_ (by omega) ?_ ?_ ?_
                              · exact ⟨(Io_n (by decide) (show 0 &&& 1 < 4096 from by omega) I_m_mdt166_t173.1 I_m_mdt166_t173.2.1 I_m_mdt166_t173.2.2.1 (fun q => absurd q (by decide)) (fun q => absurd q (by decide)) I_m_mdt166_t173.2.2.2), (Nd_0 (by decide) Mo_nil), ⟨(Io_2 (by have := or_256 (b := 1) (show (0 &&& 1) < 256 from by omega); omega) (by have := or_256 (b := 1) (show (0 &&& 1) < 256 from by omega); omega) (by have := or_256 (b := 1) (show (0 &&& 1) < 256 from by omega); omega) I_m_mdt166_t173.1 I_m_mdt166_t173.2.1 I_m_mdt166_t173.2.2.1 I_m_mdt166_t173.2.2.2), (Nd_A (by decide) (Mo_cons (fun q => show m_md t166 ≤ m_md t166 from by omega) Mo_nil) (Or.inr ⟨(3, m_md t166, 0 &&& 1), List.mem_cons_self, rfl, Or.inl rfl⟩)), ⟨(Io_n (by decide) (show 0 &&& 1 < 4096 from by omega) I_m_mdt166_t173.1 I_m_mdt166_t173.2.1 I_m_mdt166_t173.2.2.1 (fun q => absurd q (by decide)) (fun q => absurd q (by decide)) I_m_mdt166_t173.2.2.2), (Nd_0 (by decide) (Mo_cons (fun q => show m_md t166 ≤ m_md t166 from by omega) (Mo_cons (fun q => show m_md t166 ≤ m_md t166 from by omega) Mo_nil))), Stk_step (N := n) (pop := (59, n, t)) (new := [(32, m_md t166, 0 &&& 1), (2, m_md t166, (0 &&& 1) ||| (1 * 256)), (3, m_md t166, 0 &&& 1)]) F0 C_t173.1.to2 (fun (h : nk 59 = false) => absurd h (by decide)) (fun q _ h => h (59, n, t) rfl) (fun _ => rfl) (fun y hy hk => ⟨rfl, (Mo_cons (fun q => show n ≤ m_md t166 from by omega) (Mo_cons (fun q => show n ≤ m_md t166 from by omega) (Mo_cons (fun q => show n ≤ m_md t166 from by omega) Mo_nil))) y hy hk⟩) (fun (h : 59 = 3 ∨ 59 = 18 ∨ 59 = 41) => absurd h (by decide)) (fun (h : 59 = 18) => absurd h (by decide)) (fun (h : 59 = 41 ∨ 59 = 42 ∨ 59 = 43) => absurd h (by decide)) r [] (fun y hy => absurd hy List.not_mem_nil) hS⟩⟩⟩
                              · exact (Aj_up (x := (3, m_md t166, 0 &&& 1)) (Aj_up (x := (2, m_md t166, (0 &&& 1) ||| (1 * 256))) (Aj_sub (y := (32, m_md t166, 0 &&& 1)) hJ (Nat.le_of_ble_eq_true rfl)) (Or.inr (show 9 - ((0 &&& 1) ||| (1 * 256)) / 256 < 9 from by have := or_256 (b := 1) (show (0 &&& 1) < 256 from by omega); omega))) (Or.inr (show 2 < 9 - ((0 &&& 1) ||| (1 * 256)) / 256 from by have := or_256 (b := 1) (show (0 &&& 1) < 256 from by omega); omega)))
                              · show m_dp t173 = (dlt 3 + (dlt 2 + (dlt 32 + sD r)))
                                have : dlt 2 = 0 := rfl; have : dlt 3 = 0 := rfl; have : dlt 32 = 0 := rfl; have : dlt 59 = 0 := rfl; omega
                              · show m_rw t173 = (rho 3 + (rho 2 + (rho 32 + sR r)))
                                have : rho 2 = 0 := rfl; have : rho 3 = 0 := rfl; have : rho 32 = 0 := rfl; have : rho 59 = 0 := rfl; omega
                              · show m_md t173 + (mu7 3 + (mu7 2 + (mu7 32 + sM r))) ≤ 3 * m_at t173 + 7 * (r.length + 1 + 1 + 1) + 10
                                have : mu7 2 = 7 := rfl; have : mu7 3 = 5 := rfl; have : mu7 32 = 7 := rfl; have : mu7 59 = 6 := rfl; omega
                              · show (wt 3 + (wt 2 + (wt 32 + sW r))) + 6 * (4096 - m_at t173) + 4 * (600 - (r.length + 1 + 1 + 1)) < (wt 59 + sW r) + 6 * (4096 - m_at t0) + 4 * (600 - (r.length + 1))
                                have : wt 2 = 5 := rfl; have : wt 3 = 3 := rfl; have : wt 32 = 5 := rfl; have : wt 59 = 7 := rfl; omega
                          · refine Ok_ife (Nat.lt_trans (lo_lt (C_t0.tk hT) _) (by decide)) (by decide) (fun q174 => ?_) (fun q174 => ?_)
                            · refine Ok_bnc ?_
                              try unfold b_X6_leaving
                              refine Ok_ife (Nat.lt_trans (lo_lt (C_t0.tk hT) _) (by decide)) (by decide) (fun q => absurd q q149) (fun q => ?_)
                              refine Ok_ife (Nat.lt_trans (lo_lt (C_t0.tk hT) _) (by decide)) (by decide) (fun q => absurd q q156) (fun q => ?_)
                              refine Ok_ife (Nat.lt_trans (lo_lt (C_t0.tk hT) _) (by decide)) (by decide) (fun q => absurd q q163) (fun q => ?_)
                              refine Ok_ife (Nat.lt_trans (lo_lt (C_t0.tk hT) _) (by decide)) (by decide) (fun q => ?_) (fun q => absurd q174 q)
                              refine Kp_child C_t0 I_n_t0.1 I_n_t0.2.1 I_n_t0.2.2.1 (by omega) (by omega) (by decide) (by decide) (fun t176 C_t176 X_t176 a_t176 b_t176 d_t176 w_t176 u_t176 v_t176 j_t176 l_t176 => ?_)
                              have e_t176 := C_t176.2.2.2.1
                              have I_n_t176 := I_n_t0.chd X_t176 j_t176
                              have u_n_t176 := u_n_t0.ex I_n_t0 (X_t176 0 (Nat.zero_le _))
                              have f_n_t176 : Fz t176 n := j_t176.2.2.2.2.1
                              have I_m_mdt0_t176 : Nq t176 (m_md t0) := Nq.chn j_t176 (by omega) I_n_t0 (by decide)
                              have u_m_mdt0_t176 : Up t176 (m_md t0) := Or.inl j_t176.2.1
                              have z_t177 : m_at t176 < m_ct t176 := lo_ne (Nat.ne_of_gt (show 0 < lo t176 (m_at t176) from by omega))
                              refine Kp_at C_t176 (fun t177 C_t177 X_t177 a_t177 b_t177 d_t177 w_t177 u_t177 v_t177 j_t177 l_t177 => ?_)
                              have e_t177 := C_t177.2.2.2.1
                              rw [a_t176] at a_t177
                              rw [b_t176] at b_t177
                              rw [d_t176] at d_t177
                              rw [w_t176] at w_t177
                              rw [u_t176] at u_t177
                              rw [v_t176] at v_t177
                              rw [a_t176, e_t176] at z_t177
                              clear d_t176 w_t176 u_t176 v_t176 e_t176 a_t176 b_t176
                              have I_n_t177 := I_n_t176.flat X_t177
                              have f_n_t177 := f_n_t176.ex I_n_t176 (X_t177 0)
                              have u_n_t177 := u_n_t176.ex I_n_t176 (X_t177 0)
                              have I_m_mdt0_t177 := I_m_mdt0_t176.flat X_t177
                              have u_m_mdt0_t177 := u_m_mdt0_t176.ex I_m_mdt0_t176 (X_t177 0)
                              refine Ok_ife (Nat.lt_trans (lo_lt (C_t0.tk hT) _) (by decide)) (by decide) (fun q => absurd q q149) (fun q => ?_)
                              refine Ok_ife (Nat.lt_trans (lo_lt (C_t0.tk hT) _) (by decide)) (by decide) (fun q => absurd q q156) (fun q => ?_)
                              refine Ok_ife (Nat.lt_trans (lo_lt (C_t0.tk hT) _) (by decide)) (by decide) (fun q => absurd q q163) (fun q => ?_)
                              refine Ok_ife (Nat.lt_trans (lo_lt (C_t0.tk hT) _) (by decide)) (by decide) (fun q => ?_) (fun q => absurd q174 q)
                              refine Kp_look C_t177 hT (by omega) ?_
                              refine Ok_ife (Nat.lt_trans (lo_lt (C_t177.tk hT) _) (by decide)) (by decide) (fun q178 => ?_) (fun q178 => ?_)
                              · refine Ok_bnc ?_
                                try unfold b_X6_name
                                refine Kp_look C_t177 hT (by omega) ?_
                                refine Ok_ife (Nat.lt_trans (lo_lt (C_t177.tk hT) _) (by decide)) (by decide) (fun q => ?_) (fun q => absurd q178 q)
                                refine Kp_child C_t177 I_m_mdt0_t177.1 I_m_mdt0_t177.2.1 I_m_mdt0_t177.2.2.1 (by omega) (by omega) (by decide) (by decide) (fun t180 C_t180 X_t180 a_t180 b_t180 d_t180 w_t180 u_t180 v_t180 j_t180 l_t180 => ?_)
                                have e_t180 := C_t180.2.2.2.1
                                rw [a_t177] at a_t180
                                rw [b_t177] at b_t180
                                rw [d_t177] at d_t180
                                rw [w_t177] at w_t180
                                rw [u_t177] at u_t180
                                rw [v_t177] at v_t180
                                clear d_t177 w_t177 u_t177 v_t177 e_t177 a_t177
                                have I_n_t180 := I_n_t177.chd X_t180 j_t180
                                have f_n_t180 := f_n_t177.ex I_n_t177 (X_t180 0 (Nat.zero_le _))
                                have u_n_t180 := u_n_t177.ex I_n_t177 (X_t180 0 (Nat.zero_le _))
                                have I_m_mdt0_t180 := I_m_mdt0_t177.chd X_t180 j_t180
                                have u_m_mdt0_t180 := u_m_mdt0_t177.ex I_m_mdt0_t177 (X_t180 0 (Nat.zero_le _))
                                have f_m_mdt0_t180 : Fz t180 (m_md t0) := j_t180.2.2.2.2.1
                                have I_m_mdt177_t180 : Nq t180 (m_md t177) := Nq.chn j_t180 (by omega) I_m_mdt0_t177 (by decide)
                                have u_m_mdt177_t180 : Up t180 (m_md t177) := Or.inl j_t180.2.1
                                have z_t181 : m_at t180 < m_ct t180 := lo_ne (Nat.ne_of_gt (show 0 < lo t180 (m_at t180) from by omega))
                                refine Kp_at C_t180 (fun t181 C_t181 X_t181 a_t181 b_t181 d_t181 w_t181 u_t181 v_t181 j_t181 l_t181 => ?_)
                                have e_t181 := C_t181.2.2.2.1
                                rw [a_t180] at a_t181
                                rw [b_t180] at b_t181
                                rw [d_t180] at d_t181
                                rw [w_t180] at w_t181
                                rw [u_t180] at u_t181
                                rw [v_t180] at v_t181
                                rw [a_t180, e_t180] at z_t181
                                clear z_t177
                                clear d_t180 w_t180 u_t180 v_t180 e_t180 a_t180 b_t180
                                have I_n_t181 := I_n_t180.flat X_t181
                                have f_n_t181 := f_n_t180.ex I_n_t180 (X_t181 0)
                                have u_n_t181 := u_n_t180.ex I_n_t180 (X_t181 0)
                                have I_m_mdt0_t181 := I_m_mdt0_t180.flat X_t181
                                have f_m_mdt0_t181 := f_m_mdt0_t180.ex I_m_mdt0_t180 (X_t181 0)
                                have u_m_mdt0_t181 := u_m_mdt0_t180.ex I_m_mdt0_t180 (X_t181 0)
                                have I_m_mdt177_t181 := I_m_mdt177_t180.flat X_t181
                                have u_m_mdt177_t181 := u_m_mdt177_t180.ex I_m_mdt177_t180 (X_t181 0)
                                refine Ok_ret (show Ok _ _ _ from ?_)
                                refine Ok_ret (show Ok _ _ _ from ?_)
                                refine Hv_mk hK (C_t181.1.2.2.2.2.2.2 hTt) C_t181 hT (by omega) (by omega) (by omega) ?_ ?_ ?_ (by omega) ?_ ?_ ?_
                                · exact Stk_step (N := n) (pop := (59, n, t)) (new := []) F0 C_t181.1.to2 (fun (h : nk 59 = false) => absurd h (by decide)) (fun q _ h => h (59, n, t) rfl) (fun _ => rfl) (fun y hy hk => ⟨rfl, Mo_nil (n := n) y hy hk⟩) (fun (h : 59 = 3 ∨ 59 = 18 ∨ 59 = 41) => absurd h (by decide)) (fun (h : 59 = 18) => absurd h (by decide)) (fun (h : 59 = 41 ∨ 59 = 42 ∨ 59 = 43) => absurd h (by decide)) r [] (fun y hy => absurd hy List.not_mem_nil) hS
                                · exact Aj_tl hJ
                                · show m_dp t181 = sD r
                                  have : dlt 59 = 0 := rfl; omega
                                · show m_rw t181 = sR r
                                  have : rho 59 = 0 := rfl; omega
                                · show m_md t181 + sM r ≤ 3 * m_at t181 + 7 * (r.length) + 10
                                  have : mu7 59 = 6 := rfl; omega
                                · show sW r + 6 * (4096 - m_at t181) + 4 * (600 - (r.length)) < (wt 59 + sW r) + 6 * (4096 - m_at t0) + 4 * (600 - (r.length + 1))
                                  have : wt 59 = 7 := rfl; omega
                              · refine Ok_ret (show Ok _ _ _ from ?_)
                                refine Hv_mk hK (C_t177.1.2.2.2.2.2.2 hTt) C_t177 hT (by omega) (by omega) (by omega) ?_ ?_ ?_ (by omega) ?_ ?_ ?_
                                · exact Stk_step (N := n) (pop := (59, n, t)) (new := []) F0 C_t177.1.to2 (fun (h : nk 59 = false) => absurd h (by decide)) (fun q _ h => h (59, n, t) rfl) (fun _ => rfl) (fun y hy hk => ⟨rfl, Mo_nil (n := n) y hy hk⟩) (fun (h : 59 = 3 ∨ 59 = 18 ∨ 59 = 41) => absurd h (by decide)) (fun (h : 59 = 18) => absurd h (by decide)) (fun (h : 59 = 41 ∨ 59 = 42 ∨ 59 = 43) => absurd h (by decide)) r [] (fun y hy => absurd hy List.not_mem_nil) hS
                                · exact Aj_tl hJ
                                · show m_dp t177 = sD r
                                  have : dlt 59 = 0 := rfl; omega
                                · show m_rw t177 = sR r
                                  have : rho 59 = 0 := rfl; omega
                                · show m_md t177 + sM r ≤ 3 * m_at t177 + 7 * (r.length) + 10
                                  have : mu7 59 = 6 := rfl; omega
                                · show sW r + 6 * (4096 - m_at t177) + 4 * (600 - (r.length)) < (wt 59 + sW r) + 6 * (4096 - m_at t0) + 4 * (600 - (r.length + 1))
                                  have : wt 59 = 7 := rfl; omega
                            · refine Ok_ife (Nat.lt_trans (lo_lt (C_t0.tk hT) _) (by decide)) (by decide) (fun q182 => ?_) (fun q182 => ?_)
                              · refine Ok_bnc ?_
                                try unfold b_X6_leaving
                                refine Ok_ife (Nat.lt_trans (lo_lt (C_t0.tk hT) _) (by decide)) (by decide) (fun q => absurd q q149) (fun q => ?_)
                                refine Ok_ife (Nat.lt_trans (lo_lt (C_t0.tk hT) _) (by decide)) (by decide) (fun q => absurd q q156) (fun q => ?_)
                                refine Ok_ife (Nat.lt_trans (lo_lt (C_t0.tk hT) _) (by decide)) (by decide) (fun q => absurd q q163) (fun q => ?_)
                                refine Ok_ife (Nat.lt_trans (lo_lt (C_t0.tk hT) _) (by decide)) (by decide) (fun q => absurd q q174) (fun q => ?_)
                                refine Ok_ife (Nat.lt_trans (lo_lt (C_t0.tk hT) _) (by decide)) (by decide) (fun q => ?_) (fun q => absurd q182 q)
                                refine Kp_child C_t0 I_n_t0.1 I_n_t0.2.1 I_n_t0.2.2.1 (by omega) (by omega) (by decide) (by decide) (fun t184 C_t184 X_t184 a_t184 b_t184 d_t184 w_t184 u_t184 v_t184 j_t184 l_t184 => ?_)
                                have e_t184 := C_t184.2.2.2.1
                                have I_n_t184 := I_n_t0.chd X_t184 j_t184
                                have u_n_t184 := u_n_t0.ex I_n_t0 (X_t184 0 (Nat.zero_le _))
                                have f_n_t184 : Fz t184 n := j_t184.2.2.2.2.1
                                have I_m_mdt0_t184 : Nq t184 (m_md t0) := Nq.chn j_t184 (by omega) I_n_t0 (by decide)
                                have u_m_mdt0_t184 : Up t184 (m_md t0) := Or.inl j_t184.2.1
                                have z_t185 : m_at t184 < m_ct t184 := lo_ne (Nat.ne_of_gt (show 0 < lo t184 (m_at t184) from by omega))
                                refine Kp_at C_t184 (fun t185 C_t185 X_t185 a_t185 b_t185 d_t185 w_t185 u_t185 v_t185 j_t185 l_t185 => ?_)
                                have e_t185 := C_t185.2.2.2.1
                                rw [a_t184] at a_t185
                                rw [b_t184] at b_t185
                                rw [d_t184] at d_t185
                                rw [w_t184] at w_t185
                                rw [u_t184] at u_t185
                                rw [v_t184] at v_t185
                                rw [a_t184, e_t184] at z_t185
                                clear d_t184 w_t184 u_t184 v_t184 e_t184 a_t184 b_t184
                                have I_n_t185 := I_n_t184.flat X_t185
                                have f_n_t185 := f_n_t184.ex I_n_t184 (X_t185 0)
                                have u_n_t185 := u_n_t184.ex I_n_t184 (X_t185 0)
                                have I_m_mdt0_t185 := I_m_mdt0_t184.flat X_t185
                                have u_m_mdt0_t185 := u_m_mdt0_t184.ex I_m_mdt0_t184 (X_t185 0)
                                refine Ok_ife (Nat.lt_trans (lo_lt (C_t0.tk hT) _) (by decide)) (by decide) (fun q => absurd q q149) (fun q => ?_)
                                refine Ok_ife (Nat.lt_trans (lo_lt (C_t0.tk hT) _) (by decide)) (by decide) (fun q => absurd q q156) (fun q => ?_)
                                refine Ok_ife (Nat.lt_trans (lo_lt (C_t0.tk hT) _) (by decide)) (by decide) (fun q => absurd q q163) (fun q => ?_)
                                refine Ok_ife (Nat.lt_trans (lo_lt (C_t0.tk hT) _) (by decide)) (by decide) (fun q => absurd q q174) (fun q => ?_)
                                refine Ok_ife (Nat.lt_trans (lo_lt (C_t0.tk hT) _) (by decide)) (by decide) (fun q => ?_) (fun q => absurd q182 q)
                                refine Kp_look C_t185 hT (by omega) ?_
                                refine Ok_ife (Nat.lt_trans (lo_lt (C_t185.tk hT) _) (by decide)) (by decide) (fun q186 => ?_) (fun q186 => ?_)
                                · refine Ok_bnc ?_
                                  try unfold b_X6_name
                                  refine Kp_look C_t185 hT (by omega) ?_
                                  refine Ok_ife (Nat.lt_trans (lo_lt (C_t185.tk hT) _) (by decide)) (by decide) (fun q => ?_) (fun q => absurd q186 q)
                                  refine Kp_child C_t185 I_m_mdt0_t185.1 I_m_mdt0_t185.2.1 I_m_mdt0_t185.2.2.1 (by omega) (by omega) (by decide) (by decide) (fun t188 C_t188 X_t188 a_t188 b_t188 d_t188 w_t188 u_t188 v_t188 j_t188 l_t188 => ?_)
                                  have e_t188 := C_t188.2.2.2.1
                                  rw [a_t185] at a_t188
                                  rw [b_t185] at b_t188
                                  rw [d_t185] at d_t188
                                  rw [w_t185] at w_t188
                                  rw [u_t185] at u_t188
                                  rw [v_t185] at v_t188
                                  clear d_t185 w_t185 u_t185 v_t185 e_t185 a_t185
                                  have I_n_t188 := I_n_t185.chd X_t188 j_t188
                                  have f_n_t188 := f_n_t185.ex I_n_t185 (X_t188 0 (Nat.zero_le _))
                                  have u_n_t188 := u_n_t185.ex I_n_t185 (X_t188 0 (Nat.zero_le _))
                                  have I_m_mdt0_t188 := I_m_mdt0_t185.chd X_t188 j_t188
                                  have u_m_mdt0_t188 := u_m_mdt0_t185.ex I_m_mdt0_t185 (X_t188 0 (Nat.zero_le _))
                                  have f_m_mdt0_t188 : Fz t188 (m_md t0) := j_t188.2.2.2.2.1
                                  have I_m_mdt185_t188 : Nq t188 (m_md t185) := Nq.chn j_t188 (by omega) I_m_mdt0_t185 (by decide)
                                  have u_m_mdt185_t188 : Up t188 (m_md t185) := Or.inl j_t188.2.1
                                  have z_t189 : m_at t188 < m_ct t188 := lo_ne (Nat.ne_of_gt (show 0 < lo t188 (m_at t188) from by omega))
                                  refine Kp_at C_t188 (fun t189 C_t189 X_t189 a_t189 b_t189 d_t189 w_t189 u_t189 v_t189 j_t189 l_t189 => ?_)
                                  have e_t189 := C_t189.2.2.2.1
                                  rw [a_t188] at a_t189
                                  rw [b_t188] at b_t189
                                  rw [d_t188] at d_t189
                                  rw [w_t188] at w_t189
                                  rw [u_t188] at u_t189
                                  rw [v_t188] at v_t189
                                  rw [a_t188, e_t188] at z_t189
                                  clear z_t185
                                  clear d_t188 w_t188 u_t188 v_t188 e_t188 a_t188 b_t188
                                  have I_n_t189 := I_n_t188.flat X_t189
                                  have f_n_t189 := f_n_t188.ex I_n_t188 (X_t189 0)
                                  have u_n_t189 := u_n_t188.ex I_n_t188 (X_t189 0)
                                  have I_m_mdt0_t189 := I_m_mdt0_t188.flat X_t189
                                  have f_m_mdt0_t189 := f_m_mdt0_t188.ex I_m_mdt0_t188 (X_t189 0)
                                  have u_m_mdt0_t189 := u_m_mdt0_t188.ex I_m_mdt0_t188 (X_t189 0)
                                  have I_m_mdt185_t189 := I_m_mdt185_t188.flat X_t189
                                  have u_m_mdt185_t189 := u_m_mdt185_t188.ex I_m_mdt185_t188 (X_t189 0)
                                  refine Ok_ret (show Ok _ _ _ from ?_)
                                  refine Ok_ret (show Ok _ _ _ from ?_)
                                  refine Hv_mk hK (C_t189.1.2.2.2.2.2.2 hTt) C_t189 hT (by omega) (by omega) (by omega) ?_ ?_ ?_ (by omega) ?_ ?_ ?_
                                  · exact Stk_step (N := n) (pop := (59, n, t)) (new := []) F0 C_t189.1.to2 (fun (h : nk 59 = false) => absurd h (by decide)) (fun q _ h => h (59, n, t) rfl) (fun _ => rfl) (fun y hy hk => ⟨rfl, Mo_nil (n := n) y hy hk⟩) (fun (h : 59 = 3 ∨ 59 = 18 ∨ 59 = 41) => absurd h (by decide)) (fun (h : 59 = 18) => absurd h (by decide)) (fun (h : 59 = 41 ∨ 59 = 42 ∨ 59 = 43) => absurd h (by decide)) r [] (fun y hy => absurd hy List.not_mem_nil) hS
                                  · exact Aj_tl hJ
                                  · show m_dp t189 = sD r
                                    have : dlt 59 = 0 := rfl; omega
                                  · show m_rw t189 = sR r
                                    have : rho 59 = 0 := rfl; omega
                                  · show m_md t189 + sM r ≤ 3 * m_at t189 + 7 * (r.length) + 10
                                    have : mu7 59 = 6 := rfl; omega
                                  · show sW r + 6 * (4096 - m_at t189) + 4 * (600 - (r.length)) < (wt 59 + sW r) + 6 * (4096 - m_at t0) + 4 * (600 - (r.length + 1))
                                    have : wt 59 = 7 := rfl; omega
                                · refine Ok_ret (show Ok _ _ _ from ?_)
                                  refine Hv_mk hK (C_t185.1.2.2.2.2.2.2 hTt) C_t185 hT (by omega) (by omega) (by omega) ?_ ?_ ?_ (by omega) ?_ ?_ ?_
                                  · exact Stk_step (N := n) (pop := (59, n, t)) (new := []) F0 C_t185.1.to2 (fun (h : nk 59 = false) => absurd h (by decide)) (fun q _ h => h (59, n, t) rfl) (fun _ => rfl) (fun y hy hk => ⟨rfl, Mo_nil (n := n) y hy hk⟩) (fun (h : 59 = 3 ∨ 59 = 18 ∨ 59 = 41) => absurd h (by decide)) (fun (h : 59 = 18) => absurd h (by decide)) (fun (h : 59 = 41 ∨ 59 = 42 ∨ 59 = 43) => absurd h (by decide)) r [] (fun y hy => absurd hy List.not_mem_nil) hS
                                  · exact Aj_tl hJ
                                  · show m_dp t185 = sD r
                                    have : dlt 59 = 0 := rfl; omega
                                  · show m_rw t185 = sR r
                                    have : rho 59 = 0 := rfl; omega
                                  · show m_md t185 + sM r ≤ 3 * m_at t185 + 7 * (r.length) + 10
                                    have : mu7 59 = 6 := rfl; omega
                                  · show sW r + 6 * (4096 - m_at t185) + 4 * (600 - (r.length)) < (wt 59 + sW r) + 6 * (4096 - m_at t0) + 4 * (600 - (r.length + 1))
                                    have : wt 59 = 7 := rfl; omega
                              · refine Ok_ife (Nat.lt_trans (lo_lt (C_t0.tk hT) _) (by decide)) (by decide) (fun q190 => ?_) (fun q190 => ?_)
                                · refine Ok_bnc ?_
                                  try unfold b_X6_leaving
                                  refine Ok_ife (Nat.lt_trans (lo_lt (C_t0.tk hT) _) (by decide)) (by decide) (fun q => absurd q q149) (fun q => ?_)
                                  refine Ok_ife (Nat.lt_trans (lo_lt (C_t0.tk hT) _) (by decide)) (by decide) (fun q => absurd q q156) (fun q => ?_)
                                  refine Ok_ife (Nat.lt_trans (lo_lt (C_t0.tk hT) _) (by decide)) (by decide) (fun q => absurd q q163) (fun q => ?_)
                                  refine Ok_ife (Nat.lt_trans (lo_lt (C_t0.tk hT) _) (by decide)) (by decide) (fun q => absurd q q174) (fun q => ?_)
                                  refine Ok_ife (Nat.lt_trans (lo_lt (C_t0.tk hT) _) (by decide)) (by decide) (fun q => absurd q q182) (fun q => ?_)
                                  refine Kp_child C_t0 I_n_t0.1 I_n_t0.2.1 I_n_t0.2.2.1 (by omega) (by omega) (by decide) (by decide) (fun t192 C_t192 X_t192 a_t192 b_t192 d_t192 w_t192 u_t192 v_t192 j_t192 l_t192 => ?_)
                                  have e_t192 := C_t192.2.2.2.1
                                  have I_n_t192 := I_n_t0.chd X_t192 j_t192
                                  have u_n_t192 := u_n_t0.ex I_n_t0 (X_t192 0 (Nat.zero_le _))
                                  have f_n_t192 : Fz t192 n := j_t192.2.2.2.2.1
                                  have I_m_mdt0_t192 : Nq t192 (m_md t0) := Nq.chn j_t192 (by omega) I_n_t0 (by decide)
                                  have u_m_mdt0_t192 : Up t192 (m_md t0) := Or.inl j_t192.2.1
                                  have z_t193 : m_at t192 < m_ct t192 := lo_ne (Nat.ne_of_gt (show 0 < lo t192 (m_at t192) from by omega))
                                  refine Kp_at C_t192 (fun t193 C_t193 X_t193 a_t193 b_t193 d_t193 w_t193 u_t193 v_t193 j_t193 l_t193 => ?_)
                                  have e_t193 := C_t193.2.2.2.1
                                  rw [a_t192] at a_t193
                                  rw [b_t192] at b_t193
                                  rw [d_t192] at d_t193
                                  rw [w_t192] at w_t193
                                  rw [u_t192] at u_t193
                                  rw [v_t192] at v_t193
                                  rw [a_t192, e_t192] at z_t193
                                  clear d_t192 w_t192 u_t192 v_t192 e_t192 a_t192 b_t192
                                  have I_n_t193 := I_n_t192.flat X_t193
                                  have f_n_t193 := f_n_t192.ex I_n_t192 (X_t193 0)
                                  have u_n_t193 := u_n_t192.ex I_n_t192 (X_t193 0)
                                  have I_m_mdt0_t193 := I_m_mdt0_t192.flat X_t193
                                  have u_m_mdt0_t193 := u_m_mdt0_t192.ex I_m_mdt0_t192 (X_t193 0)
                                  refine Ok_ife (Nat.lt_trans (lo_lt (C_t0.tk hT) _) (by decide)) (by decide) (fun q => absurd q q149) (fun q => ?_)
                                  refine Ok_ife (Nat.lt_trans (lo_lt (C_t0.tk hT) _) (by decide)) (by decide) (fun q => absurd q q156) (fun q => ?_)
                                  refine Ok_ife (Nat.lt_trans (lo_lt (C_t0.tk hT) _) (by decide)) (by decide) (fun q => absurd q q163) (fun q => ?_)
                                  refine Ok_ife (Nat.lt_trans (lo_lt (C_t0.tk hT) _) (by decide)) (by decide) (fun q => absurd q q174) (fun q => ?_)
                                  refine Ok_ife (Nat.lt_trans (lo_lt (C_t0.tk hT) _) (by decide)) (by decide) (fun q => absurd q q182) (fun q => ?_)
                                  refine Ok_ret (show Ok _ _ _ from ?_)
                                  refine Hv_mk hK (C_t193.1.2.2.2.2.2.2 hTt) C_t193 hT (by omega) (by omega) (by omega) ?_ ?_ ?_ (by omega) ?_ ?_ ?_
                                  · exact Stk_step (N := n) (pop := (59, n, t)) (new := []) F0 C_t193.1.to2 (fun (h : nk 59 = false) => absurd h (by decide)) (fun q _ h => h (59, n, t) rfl) (fun _ => rfl) (fun y hy hk => ⟨rfl, Mo_nil (n := n) y hy hk⟩) (fun (h : 59 = 3 ∨ 59 = 18 ∨ 59 = 41) => absurd h (by decide)) (fun (h : 59 = 18) => absurd h (by decide)) (fun (h : 59 = 41 ∨ 59 = 42 ∨ 59 = 43) => absurd h (by decide)) r [] (fun y hy => absurd hy List.not_mem_nil) hS
                                  · exact Aj_tl hJ
                                  · show m_dp t193 = sD r
                                    have : dlt 59 = 0 := rfl; omega
                                  · show m_rw t193 = sR r
                                    have : rho 59 = 0 := rfl; omega
                                  · show m_md t193 + sM r ≤ 3 * m_at t193 + 7 * (r.length) + 10
                                    have : mu7 59 = 6 := rfl; omega
                                  · show sW r + 6 * (4096 - m_at t193) + 4 * (600 - (r.length)) < (wt 59 + sW r) + 6 * (4096 - m_at t0) + 4 * (600 - (r.length + 1))
                                    have : wt 59 = 7 := rfl; omega
                                · refine Kp_push C_t0 (by omega) (fun t194 C_t194 X_t194 a_t194 b_t194 d_t194 w_t194 u_t194 v_t194 j_t194 l_t194 => ?_)
                                  have e_t194 := C_t194.2.2.2.1
                                  have I_n_t194 := I_n_t0.flat X_t194
                                  have u_n_t194 := u_n_t0.ex I_n_t0 (X_t194 0)
                                  refine Hv_mk (Kv_c (x := (41, n, 0)) rfl hK) (C_t194.1.2.2.2.2.2.2 hTt) C_t194 hT (by omega) (by omega) (by omega) ?_ ?_ ?_ (by omega) ?_ ?_ ?_
                                  · exact ⟨(Io_41 (by decide) I_n_t194.1 I_n_t194.2.1 I_n_t194.2.2.1 u_n_t194 I_n_t194.2.2.2), (Nd_0 (by decide) Mo_nil), Stk_step (N := n) (pop := (59, n, t)) (new := [(41, n, 0)]) F0 C_t194.1.to2 (fun (h : nk 59 = false) => absurd h (by decide)) (fun q _ h => h (59, n, t) rfl) (fun _ => rfl) (fun y hy hk => ⟨rfl, (Mo_cons (fun q => show n ≤ n from by omega) Mo_nil) y hy hk⟩) (fun (h : 59 = 3 ∨ 59 = 18 ∨ 59 = 41) => absurd h (by decide)) (fun (h : 59 = 18) => absurd h (by decide)) (fun (h : 59 = 41 ∨ 59 = 42 ∨ 59 = 43) => absurd h (by decide)) r [] (fun y hy => absurd hy List.not_mem_nil) hS⟩
                                  · exact (Aj_sub (y := (41, n, 0)) hJ (Nat.le_of_ble_eq_true rfl))
                                  · show m_dp t194 = (dlt 41 + sD r)
                                    have : dlt 41 = 0 := rfl; have : dlt 59 = 0 := rfl; omega
                                  · show m_rw t194 = (rho 41 + sR r)
                                    have : rho 41 = 0 := rfl; have : rho 59 = 0 := rfl; omega
                                  · show m_md t194 + (mu7 41 + sM r) ≤ 3 * m_at t194 + 7 * (r.length + 1) + 10
                                    have : mu7 41 = 6 := rfl; have : mu7 59 = 6 := rfl; omega
                                  · show (wt 41 + sW r) + 6 * (4096 - m_at t194) + 4 * (600 - (r.length + 1)) < (wt 59 + sW r) + 6 * (4096 - m_at t0) + 4 * (600 - (r.length + 1))
                                    have : wt 41 = 6 := rfl; have : wt 59 = 7 := rfl; omega

