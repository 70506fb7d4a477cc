/-! The steps of the reference, one by one. -/
theorem Q_listRest_18_t76baa {t0 : Mm} {n t : Nat} {r : List It} (H : Hp t0 (43, n, t) r) {E : Mm → Prop} (f y4 : Nat) (h4 : y4 ≤ 1) (hk0 : lo t0 (m_at t0) = 76) (hk1 : f_X6_has t 4 ≠ 0) (hk2 : f_X6_has t 8 = 0) (hk3 : f_X6_has t 16 = 0) : Ok (Qh (mz t0 ((43, n, t) :: r))) E (lp_X6_listRest_18 ((f + 1)) n t ((m_la t0 n - 1)) y4 0 t0) := by
  obtain ⟨hK, hT, hc, hw0, ha, hC, hS, hJ, hdp, hdl, hrw, hmd, htd, hln, hm16, hI, hD, hTt⟩ := Hp_out H
  have C_t0 := hC n
  have F0 := C_t0.2.1
  have I_n_t0 : Nq t0 n := ⟨(hI.2.1 rfl).1, (hI.2.1 rfl).2.1, (hI.2.1 rfl).2.2, hI.2.2.2 rfl⟩
  have m_n_t0 := I_n_t0.1
  have ht : t < 4096 := hI.1.1 (show 43 ≠ 42 by decide) (show 43 ≠ 48 by decide)
  have hdp : m_dp t0 = dlt 43 + sD r := hdp
  have hrw : m_rw t0 = rho 43 + sR r := hrw
  have hmd : m_md t0 + mu7 43 + sM r ≤ 3 * m_at t0 + 7 * r.length + 17 := hmd
  have hand : t &&& 1 ≤ 1 := Nat.and_le_right
  have h01 : (0 &&& 1 : Nat) = 0 := rfl
  have hor0 : (t &&& 1) ||| 0 ≤ 1 := by rw [Nat.or_zero]; exact hand
  have hor2 : (t &&& 1) ||| 2 < 4 := Nat.or_lt_two_pow (n := 2) (by omega) (by decide)
  have h02 : (1 : Nat) * 256 = 256 := rfl
  have hq1 : dlt 43 = 0 := rfl
  have hq2 : rho 43 = 0 := rfl
  have hq3 : mu7 43 = 4 := rfl
  obtain ⟨f5, -, -, g43, w43⟩ := hD.2.2.2.1 rfl
  have f_n_t0 : Fz t0 n := f5
  obtain ⟨hla0, hla2, -, -⟩ := Fo_lp F0 I_n_t0 f_n_t0
  have hla1 : m_la t0 n - 1 < m_md t0 := by omega
  have u_n_t0 : Up t0 n := hI.2.2.1 rfl
  rw [lp_X6_listRest_18]
  refine Ok_ifz0 ?_
  refine Kp_look C_t0 hT (by omega) ?_
  refine Ok_ife (Nat.lt_trans (lo_lt (C_t0.tk hT) _) (by decide)) (by decide) (fun q => absurd (hk0.symm.trans q) (by decide)) (fun _ => ?_)
  refine Kp_look C_t0 hT (by omega) ?_
  refine Ok_ife (Nat.lt_trans (lo_lt (C_t0.tk hT) _) (by decide)) (by decide) (fun q => ?_) (fun q => absurd hk0 q)
  refine Ok_ifz (show y4 < 2147483648 from by omega) (fun q1 => ?_) (fun q1 => ?_)
  · refine Kp_error C_t0 (by omega) (fun t2 C_t2 X_t2 a_t2 b_t2 d_t2 w_t2 u_t2 v_t2 j_t2 l_t2 => ?_)
    have wb_t2 := w_t2.2
    have w_t2 := Nat.pos_of_ne_zero w_t2.1
    have e_t2 := C_t2.2.2.2.1
    have I_n_t2 := I_n_t0.flat X_t2
    have f_n_t2 := f_n_t0.ex I_n_t0 (X_t2 0)
    have u_n_t2 := u_n_t0.ex I_n_t0 (X_t2 0)
    exact Or.inl ⟨Nat.ne_of_gt (show 0 < m_wr t2 from by omega), by omega, by omega, C_t2.2.2.2.2.2, by omega⟩
  · refine Ok_ck (show t < 2147483648 from by omega) ?_
    refine Ok_ifz (f6_has _ _) (fun q3 => ?_) (fun q3 => ?_)
    · refine Ok_ck (show ((m_la t0 n - 1)) < 65536 from by omega) ?_
      refine Kp_wh C_t0 (by decide) (by decide) (by decide) (by decide) (fun t4 C_t4 X_t4 a_t4 b_t4 d_t4 w_t4 u_t4 v_t4 j_t4 l_t4 => ?_)
      have e_t4 := C_t4.2.2.2.1
      have I_n_t4 := I_n_t0.flat X_t4
      have f_n_t4 := f_n_t0.ex I_n_t0 (X_t4 0)
      have u_n_t4 := u_n_t0.ex I_n_t0 (X_t4 0)
      refine Ok_bnc ?_
      try unfold b_X6_define
      refine Ok_bnc ?_
      try unfold b_X6_ranges
      refine Ok_ck (show t < 2147483648 from by omega) ?_
      refine Ok_ifz (f6_has _ _) (fun q => absurd q hk1) (fun q => ?_)
      refine Kp_ahead C_t4 hT (by omega) ?_
      refine Ok_ife (Nat.lt_trans (lo_lt (C_t4.tk hT) _) (by decide)) (by decide) (fun q7 => ?_) (fun q7 => ?_)
      · refine Kp_look C_t4 hT (by omega) ?_
        refine Ok_ife (Nat.lt_trans (lo_lt (C_t4.tk hT) _) (by decide)) (by decide) (fun q8 => ?_) (fun q8 => ?_)
        · refine Kp_wrap C_t4 I_n_t4.1 I_n_t4.2.1 f_n_t4 I_n_t4.2.2.1 (by omega) (by omega) (by decide) (fun t9 C_t9 X_t9 a_t9 b_t9 d_t9 w_t9 u_t9 v_t9 j_t9 l_t9 => ?_)
          have e_t9 := C_t9.2.2.2.1
          rw [a_t4] at a_t9
          rw [b_t4] at b_t9
          rw [d_t4] at d_t9
          rw [w_t4] at w_t9
          rw [u_t4] at u_t9
          rw [v_t4] at v_t9
          clear d_t4 w_t4 u_t4 v_t4 e_t4
          have I_n_t9 := I_n_t4.le X_t9 (by omega)
          have f_n_t9 := f_n_t4.ex I_n_t4 (X_t9 0 (Nat.zero_le _))
          have u_n_t9 := u_n_t4.ex I_n_t4 (X_t9 0 (Nat.zero_le _))
          have I_m_mdt4_t9 : Nq t9 (m_md t4) := Nq.wrn j_t9 (by omega) I_n_t4 (by decide)
          have f_m_mdt4_t9 : Fz t9 (m_md t4) := by unfold Fz; rw [j_t9.2.1]; exact j_t9.2.2.1
          have la_n_t9 : m_la t9 n = (m_md t4) + 1 := j_t9.2.2.2.2.2.2.2.1
          have wl_n_t9 : m_wh t9 (m_md t4) = 67 := j_t9.1
          have y9_t10 : m_at t9 = m_at t4 + 1 → lo t9 (m_at t9) = lo t4 (m_at t4 + 1) := fun h => lo_2 C_t9 C_t4 h
          have z_t10 : m_at t9 < m_ct t9 := lo_ne (Nat.ne_of_gt (show 0 < lo t9 (m_at t9) from by omega))
          refine Kp_at C_t9 (fun t10 C_t10 X_t10 a_t10 b_t10 d_t10 w_t10 u_t10 v_t10 j_t10 l_t10 => ?_)
          have e_t10 := C_t10.2.2.2.1
          rw [a_t9] at a_t10
          rw [b_t9] at b_t10
          rw [d_t9] at d_t10
          rw [w_t9] at w_t10
          rw [u_t9] at u_t10
          rw [v_t9] at v_t10
          rw [a_t9, e_t9] at z_t10
          clear d_t9 w_t9 u_t9 v_t9 e_t9 a_t9 b_t9
          have I_n_t10 := I_n_t9.flat X_t10
          have f_n_t10 := f_n_t9.ex I_n_t9 (X_t10 0)
          have u_n_t10 := u_n_t9.ex I_n_t9 (X_t10 0)
          have I_m_mdt4_t10 := I_m_mdt4_t9.flat X_t10
          have f_m_mdt4_t10 := f_m_mdt4_t9.ex I_m_mdt4_t9 (X_t10 0)
          have la_n_t10 : m_la t10 n = (m_md t4) + 1 := by rw [j_t10.2.2.1]; exact la_n_t9
          have wl_n_t10 : m_wh t10 ((m_md t4)) = 67 := by rw [j_t10.1]; exact wl_n_t9
          clear la_n_t9 wl_n_t9
          refine Kp_wrap C_t10 I_n_t10.1 I_n_t10.2.1 f_n_t10 I_n_t10.2.2.1 (by omega) (by omega) (by decide) (fun t11 C_t11 X_t11 a_t11 b_t11 d_t11 w_t11 u_t11 v_t11 j_t11 l_t11 => ?_)
          have e_t11 := C_t11.2.2.2.1
          rw [a_t10] at a_t11
          rw [b_t10] at b_t11
          rw [d_t10] at d_t11
          rw [w_t10] at w_t11
          rw [u_t10] at u_t11
          rw [v_t10] at v_t11
          clear d_t10 w_t10 u_t10 v_t10 e_t10 a_t10
          have I_n_t11 := I_n_t10.le X_t11 (by omega)
          have f_n_t11 := f_n_t10.ex I_n_t10 (X_t11 0 (Nat.zero_le _))
          have u_n_t11 := u_n_t10.ex I_n_t10 (X_t11 0 (Nat.zero_le _))
          have I_m_mdt10_t11 : Nq t11 (m_md t10) := Nq.wrn j_t11 (by omega) I_n_t10 (by decide)
          have f_m_mdt10_t11 : Fz t11 (m_md t10) := by unfold Fz; rw [j_t11.2.1]; exact j_t11.2.2.1
          have la_n_t11 : m_la t11 n = (m_md t10) + 1 := j_t11.2.2.2.2.2.2.2.1
          have wl_n_t11 : m_wh t11 (m_md t10) = 66 := j_t11.1
          have y9_t12 : m_at t11 = m_at t4 + 1 → lo t11 (m_at t11) = lo t4 (m_at t4 + 1) := fun h => lo_2 C_t11 C_t4 h
          have y8_t12 : lo t11 (m_at t11) = lo t4 (m_at t4 + 1) := y9_t12 (by omega)
          have z_t12 : m_at t11 < m_ct t11 := lo_ne (Nat.ne_of_gt (show 0 < lo t11 (m_at t11) from by omega))
          refine Kp_at C_t11 (fun t12 C_t12 X_t12 a_t12 b_t12 d_t12 w_t12 u_t12 v_t12 j_t12 l_t12 => ?_)
          have e_t12 := C_t12.2.2.2.1
          rw [a_t11] at a_t12
          rw [b_t11] at b_t12
          rw [d_t11] at d_t12
          rw [w_t11] at w_t12
          rw [u_t11] at u_t12
          rw [v_t11] at v_t12
          rw [a_t11, e_t11] at z_t12
          clear z_t10
          clear d_t11 w_t11 u_t11 v_t11 e_t11 a_t11 b_t11
          have I_n_t12 := I_n_t11.flat X_t12
          have f_n_t12 := f_n_t11.ex I_n_t11 (X_t12 0)
          have u_n_t12 := u_n_t11.ex I_n_t11 (X_t12 0)
          have I_m_mdt10_t12 := I_m_mdt10_t11.flat X_t12
          have f_m_mdt10_t12 := f_m_mdt10_t11.ex I_m_mdt10_t11 (X_t12 0)
          have la_n_t12 : m_la t12 n = (m_md t10) + 1 := by rw [j_t12.2.2.1]; exact la_n_t11
          have wl_n_t12 : m_wh t12 ((m_md t10)) = 66 := by rw [j_t12.1]; exact wl_n_t11
          clear la_n_t11 wl_n_t11
          refine Ok_bnc ?_
          try unfold b_X6_expression
          refine Kp_push C_t12 (by omega) (fun t14 C_t14 X_t14 a_t14 b_t14 d_t14 w_t14 u_t14 v_t14 j_t14 l_t14 => ?_)
          have e_t14 := C_t14.2.2.2.1
          rw [a_t12] at a_t14
          rw [b_t12] at b_t14
          rw [d_t12] at d_t14
          rw [w_t12] at w_t14
          rw [u_t12] at u_t14
          rw [v_t12] at v_t14
          clear d_t12 w_t12 u_t12 v_t12 e_t12 a_t12 b_t12
          have I_n_t14 := I_n_t12.flat X_t14
          have f_n_t14 := f_n_t12.ex I_n_t12 (X_t14 0)
          have u_n_t14 := u_n_t12.ex I_n_t12 (X_t14 0)
          have I_m_mdt10_t14 := I_m_mdt10_t12.flat X_t14
          have f_m_mdt10_t14 := f_m_mdt10_t12.ex I_m_mdt10_t12 (X_t14 0)
          have la_n_t14 : m_la t14 n = (m_md t10) + 1 := by rw [j_t14.2.2.1]; exact la_n_t12
          have wl_n_t14 : m_wh t14 ((m_md t10)) = 66 := by rw [j_t14.1]; exact wl_n_t12
          clear la_n_t12 wl_n_t12
          refine Kp_push C_t14 (by omega) (fun t15 C_t15 X_t15 a_t15 b_t15 d_t15 w_t15 u_t15 v_t15 j_t15 l_t15 => ?_)
          have e_t15 := C_t15.2.2.2.1
          rw [a_t14] at a_t15
          rw [b_t14] at b_t15
          rw [d_t14] at d_t15
          rw [w_t14] at w_t15
          rw [u_t14] at u_t15
          rw [v_t14] at v_t15
          clear d_t14 w_t14 u_t14 v_t14 e_t14 a_t14 b_t14
          have I_n_t15 := I_n_t14.flat X_t15
          have f_n_t15 := f_n_t14.ex I_n_t14 (X_t15 0)
          have u_n_t15 := u_n_t14.ex I_n_t14 (X_t15 0)
          have I_m_mdt10_t15 := I_m_mdt10_t14.flat X_t15
          have f_m_mdt10_t15 := f_m_mdt10_t14.ex I_m_mdt10_t14 (X_t15 0)
          have la_n_t15 : m_la t15 n = (m_md t10) + 1 := by rw [j_t15.2.2.1]; exact la_n_t14
          have wl_n_t15 : m_wh t15 ((m_md t10)) = 66 := by rw [j_t15.1]; exact wl_n_t14
          clear la_n_t14 wl_n_t14
          refine Ok_ret (show Ok _ _ _ from ?_)
          refine Ok_ret (show Ok _ _ _ from ?_)
          refine Ok_ifz1 ?_
          refine Ok_ret (show Ok _ _ _ from ?_)
          refine Hv_mk (Kv_c (x := (3, m_md t10, 1)) rfl (Kv_c (x := (2, m_md t10, 1 ||| (1 * 256))) rfl hK)) (C_t15.1.2.2.2.2.2.2 hTt) C_t15 hT (by omega) (by omega) (by omega) ?_ ?_ ?_ (by omega) ?_ ?_ ?_
          · exact ⟨(Io_n (by decide) (by decide) I_m_mdt10_t15.1 I_m_mdt10_t15.2.1 I_m_mdt10_t15.2.2.1 (fun q => absurd q (by decide)) (fun q => absurd q (by decide)) I_m_mdt10_t15.2.2.2), (Nd_0 (by decide) Mo_nil), ⟨(Io_2 (by have := or_256 (b := 1) (show 1 < 256 from by omega); omega) (by have := or_256 (b := 1) (show 1 < 256 from by omega); omega) (by have := or_256 (b := 1) (show 1 < 256 from by omega); omega) I_m_mdt10_t15.1 I_m_mdt10_t15.2.1 I_m_mdt10_t15.2.2.1 I_m_mdt10_t15.2.2.2), (Nd_A (by decide) (Mo_cons (fun q => show m_md t10 ≤ m_md t10 from by omega) Mo_nil) (Or.inr ⟨(3, m_md t10, 1), List.mem_cons_self, rfl, Or.inl rfl⟩)), Stk_step (N := n) (pop := (43, n, t)) (new := [(2, m_md t10, 1 ||| (1 * 256)), (3, m_md t10, 1)]) F0 C_t15.1.to2 (fun (h : nk 43 = false) => absurd h (by decide)) (fun q _ h => h (43, n, t) rfl) (fun _ => rfl) (fun y hy hk => ⟨rfl, (Mo_cons (fun q => show n ≤ m_md t10 from by omega) (Mo_cons (fun q => show n ≤ m_md t10 from by omega) Mo_nil)) y hy hk⟩) (fun (h : 43 = 3 ∨ 43 = 18 ∨ 43 = 41) => absurd h (by decide)) (fun (h : 43 = 18) => absurd h (by decide)) (fun _ h16 => (Or.inr ⟨f_n_t15, (Ab_some (y := (2, m_md t10, 1 ||| (1 * 256))) rfl (show n < m_md t10 from by omega)), H50_no la_n_t15 wl_n_t15 (by decide)⟩)) r [] (fun y hy => absurd hy List.not_mem_nil) hS⟩⟩
          · exact (Aj_up (x := (3, m_md t10, 1)) (Aj_sub (y := (2, m_md t10, 1 ||| (1 * 256))) hJ (show 9 - (1 ||| (1 * 256)) / 256 ≤ 10 from by have := or_256 (b := 1) (show 1 < 256 from by omega); omega)) (Or.inr (show 2 < 9 - (1 ||| (1 * 256)) / 256 from by have := or_256 (b := 1) (show 1 < 256 from by omega); omega)))
          · show m_dp t15 = (dlt 3 + (dlt 2 + sD r))
            have : dlt 2 = 0 := rfl; have : dlt 3 = 0 := rfl; have : dlt 43 = 0 := rfl; omega
          · show m_rw t15 = (rho 3 + (rho 2 + sR r))
            have : rho 2 = 0 := rfl; have : rho 3 = 0 := rfl; have : rho 43 = 0 := rfl; omega
          · show m_md t15 + (mu7 3 + (mu7 2 + sM r)) ≤ 3 * m_at t15 + 7 * (r.length + 1 + 1) + 10
            have : mu7 2 = 7 := rfl; have : mu7 3 = 5 := rfl; have : mu7 43 = 4 := rfl; omega
          · show (wt 3 + (wt 2 + sW r)) + 6 * (4096 - m_at t15) + 4 * (600 - (r.length + 1 + 1)) < (wt 43 + sW r) + 6 * (4096 - m_at t0) + 4 * (600 - (r.length + 1))
            have : wt 2 = 5 := rfl; have : wt 3 = 3 := rfl; have : wt 43 = 0 := rfl; omega
        · have z_t16 : m_at t4 < m_ct t4 := lo_ne (Nat.ne_of_gt (show 0 < lo t4 (m_at t4) from by omega))
          refine Kp_at C_t4 (fun t16 C_t16 X_t16 a_t16 b_t16 d_t16 w_t16 u_t16 v_t16 j_t16 l_t16 => ?_)
          have e_t16 := C_t16.2.2.2.1
          rw [a_t4] at a_t16
          rw [b_t4] at b_t16
          rw [d_t4] at d_t16
          rw [w_t4] at w_t16
          rw [u_t4] at u_t16
          rw [v_t4] at v_t16
          rw [a_t4, e_t4] at z_t16
          clear d_t4 w_t4 u_t4 v_t4 e_t4 b_t4
          have I_n_t16 := I_n_t4.flat X_t16
          have f_n_t16 := f_n_t4.ex I_n_t4 (X_t16 0)
          have u_n_t16 := u_n_t4.ex I_n_t4 (X_t16 0)
          refine Kp_wrap C_t16 I_n_t16.1 I_n_t16.2.1 f_n_t16 I_n_t16.2.2.1 (by omega) (by omega) (by decide) (fun t17 C_t17 X_t17 a_t17 b_t17 d_t17 w_t17 u_t17 v_t17 j_t17 l_t17 => ?_)
          have e_t17 := C_t17.2.2.2.1
          rw [a_t16] at a_t17
          rw [b_t16] at b_t17
          rw [d_t16] at d_t17
          rw [w_t16] at w_t17
          rw [u_t16] at u_t17
          rw [v_t16] at v_t17
          clear d_t16 w_t16 u_t16 v_t16 e_t16 a_t16
          have I_n_t17 := I_n_t16.le X_t17 (by omega)
          have f_n_t17 := f_n_t16.ex I_n_t16 (X_t17 0 (Nat.zero_le _))
          have u_n_t17 := u_n_t16.ex I_n_t16 (X_t17 0 (Nat.zero_le _))
          have I_m_mdt16_t17 : Nq t17 (m_md t16) := Nq.wrn j_t17 (by omega) I_n_t16 (by decide)
          have f_m_mdt16_t17 : Fz t17 (m_md t16) := by unfold Fz; rw [j_t17.2.1]; exact j_t17.2.2.1
          have la_n_t17 : m_la t17 n = (m_md t16) + 1 := j_t17.2.2.2.2.2.2.2.1
          have wl_n_t17 : m_wh t17 (m_md t16) = 66 := j_t17.1
          have y9_t18 : m_at t17 = m_at t4 + 1 → lo t17 (m_at t17) = lo t4 (m_at t4 + 1) := fun h => lo_2 C_t17 C_t4 h
          have y8_t18 : lo t17 (m_at t17) = lo t4 (m_at t4 + 1) := y9_t18 (by omega)
          have z_t18 : m_at t17 < m_ct t17 := lo_ne (Nat.ne_of_gt (show 0 < lo t17 (m_at t17) from by omega))
          refine Kp_at C_t17 (fun t18 C_t18 X_t18 a_t18 b_t18 d_t18 w_t18 u_t18 v_t18 j_t18 l_t18 => ?_)
          have e_t18 := C_t18.2.2.2.1
          rw [a_t17] at a_t18
          rw [b_t17] at b_t18
          rw [d_t17] at d_t18
          rw [w_t17] at w_t18
          rw [u_t17] at u_t18
          rw [v_t17] at v_t18
          rw [a_t17, e_t17] at z_t18
          clear z_t16
          clear d_t17 w_t17 u_t17 v_t17 e_t17 a_t17 b_t17
          have I_n_t18 := I_n_t17.flat X_t18
          have f_n_t18 := f_n_t17.ex I_n_t17 (X_t18 0)
          have u_n_t18 := u_n_t17.ex I_n_t17 (X_t18 0)
          have I_m_mdt16_t18 := I_m_mdt16_t17.flat X_t18
          have f_m_mdt16_t18 := f_m_mdt16_t17.ex I_m_mdt16_t17 (X_t18 0)
          have la_n_t18 : m_la t18 n = (m_md t16) + 1 := by rw [j_t18.2.2.1]; exact la_n_t17
          have wl_n_t18 : m_wh t18 ((m_md t16)) = 66 := by rw [j_t18.1]; exact wl_n_t17
          clear la_n_t17 wl_n_t17
          refine Ok_bnc ?_
          try unfold b_X6_expression
          refine Kp_push C_t18 (by omega) (fun t20 C_t20 X_t20 a_t20 b_t20 d_t20 w_t20 u_t20 v_t20 j_t20 l_t20 => ?_)
          have e_t20 := C_t20.2.2.2.1
          rw [a_t18] at a_t20
          rw [b_t18] at b_t20
          rw [d_t18] at d_t20
          rw [w_t18] at w_t20
          rw [u_t18] at u_t20
          rw [v_t18] at v_t20
          clear d_t18 w_t18 u_t18 v_t18 e_t18 a_t18 b_t18
          have I_n_t20 := I_n_t18.flat X_t20
          have f_n_t20 := f_n_t18.ex I_n_t18 (X_t20 0)
          have u_n_t20 := u_n_t18.ex I_n_t18 (X_t20 0)
          have I_m_mdt16_t20 := I_m_mdt16_t18.flat X_t20
          have f_m_mdt16_t20 := f_m_mdt16_t18.ex I_m_mdt16_t18 (X_t20 0)
          have la_n_t20 : m_la t20 n = (m_md t16) + 1 := by rw [j_t20.2.2.1]; exact la_n_t18
          have wl_n_t20 : m_wh t20 ((m_md t16)) = 66 := by rw [j_t20.1]; exact wl_n_t18
          clear la_n_t18 wl_n_t18
          refine Kp_push C_t20 (by omega) (fun t21 C_t21 X_t21 a_t21 b_t21 d_t21 w_t21 u_t21 v_t21 j_t21 l_t21 => ?_)
          have e_t21 := C_t21.2.2.2.1
          rw [a_t20] at a_t21
          rw [b_t20] at b_t21
          rw [d_t20] at d_t21
          rw [w_t20] at w_t21
          rw [u_t20] at u_t21
          rw [v_t20] at v_t21
          clear d_t20 w_t20 u_t20 v_t20 e_t20 a_t20 b_t20
          have I_n_t21 := I_n_t20.flat X_t21
          have f_n_t21 := f_n_t20.ex I_n_t20 (X_t21 0)
          have u_n_t21 := u_n_t20.ex I_n_t20 (X_t21 0)
          have I_m_mdt16_t21 := I_m_mdt16_t20.flat X_t21
          have f_m_mdt16_t21 := f_m_mdt16_t20.ex I_m_mdt16_t20 (X_t21 0)
          have la_n_t21 : m_la t21 n = (m_md t16) + 1 := by rw [j_t21.2.2.1]; exact la_n_t20
          have wl_n_t21 : m_wh t21 ((m_md t16)) = 66 := by rw [j_t21.1]; exact wl_n_t20
          clear la_n_t20 wl_n_t20
          refine Ok_ret (show Ok _ _ _ from ?_)
          refine Ok_ret (show Ok _ _ _ from ?_)
          refine Ok_ifz1 ?_
          refine Ok_ret (show Ok _ _ _ from ?_)
          refine Hv_mk (Kv_c (x := (3, m_md t16, 1)) rfl (Kv_c (x := (2, m_md t16, 1 ||| (1 * 256))) rfl hK)) (C_t21.1.2.2.2.2.2.2 hTt) C_t21 hT (by omega) (by omega) (by omega) ?_ ?_ ?_ (by omega) ?_ ?_ ?_
          · exact ⟨(Io_n (by decide) (by decide) I_m_mdt16_t21.1 I_m_mdt16_t21.2.1 I_m_mdt16_t21.2.2.1 (fun q => absurd q (by decide)) (fun q => absurd q (by decide)) I_m_mdt16_t21.2.2.2), (Nd_0 (by decide) Mo_nil), ⟨(Io_2 (by have := or_256 (b := 1) (show 1 < 256 from by omega); omega) (by have := or_256 (b := 1) (show 1 < 256 from by omega); omega) (by have := or_256 (b := 1) (show 1 < 256 from by omega); omega) I_m_mdt16_t21.1 I_m_mdt16_t21.2.1 I_m_mdt16_t21.2.2.1 I_m_mdt16_t21.2.2.2), (Nd_A (by decide) (Mo_cons (fun q => show m_md t16 ≤ m_md t16 from by omega) Mo_nil) (Or.inr ⟨(3, m_md t16, 1), List.mem_cons_self, rfl, Or.inl rfl⟩)), Stk_step (N := n) (pop := (43, n, t)) (new := [(2, m_md t16, 1 ||| (1 * 256)), (3, m_md t16, 1)]) F0 C_t21.1.to2 (fun (h : nk 43 = false) => absurd h (by decide)) (fun q _ h => h (43, n, t) rfl) (fun _ => rfl) (fun y hy hk => ⟨rfl, (Mo_cons (fun q => show n ≤ m_md t16 from by omega) (Mo_cons (fun q => show n ≤ m_md t16 from by omega) Mo_nil)) y hy hk⟩) (fun (h : 43 = 3 ∨ 43 = 18 ∨ 43 = 41) => absurd h (by decide)) (fun (h : 43 = 18) => absurd h (by decide)) (fun _ h16 => (Or.inr ⟨f_n_t21, (Ab_some (y := (2, m_md t16, 1 ||| (1 * 256))) rfl (show n < m_md t16 from by omega)), H50_no la_n_t21 wl_n_t21 (by decide)⟩)) r [] (fun y hy => absurd hy List.not_mem_nil) hS⟩⟩
          · exact (Aj_up (x := (3, m_md t16, 1)) (Aj_sub (y := (2, m_md t16, 1 ||| (1 * 256))) hJ (show 9 - (1 ||| (1 * 256)) / 256 ≤ 10 from by have := or_256 (b := 1) (show 1 < 256 from by omega); omega)) (Or.inr (show 2 < 9 - (1 ||| (1 * 256)) / 256 from by have := or_256 (b := 1) (show 1 < 256 from by omega); omega)))
          · show m_dp t21 = (dlt 3 + (dlt 2 + sD r))
            have : dlt 2 = 0 := rfl; have : dlt 3 = 0 := rfl; have : dlt 43 = 0 := rfl; omega
          · show m_rw t21 = (rho 3 + (rho 2 + sR r))
            have : rho 2 = 0 := rfl; have : rho 3 = 0 := rfl; have : rho 43 = 0 := rfl; omega
          · show m_md t21 + (mu7 3 + (mu7 2 + sM r)) ≤ 3 * m_at t21 + 7 * (r.length + 1 + 1) + 10
            have : mu7 2 = 7 := rfl; have : mu7 3 = 5 := rfl; have : mu7 43 = 4 := rfl; omega
          · show (wt 3 + (wt 2 + sW r)) + 6 * (4096 - m_at t21) + 4 * (600 - (r.length + 1 + 1)) < (wt 43 + sW r) + 6 * (4096 - m_at t0) + 4 * (600 - (r.length + 1))
            have : wt 2 = 5 := rfl; have : wt 3 = 3 := rfl; have : wt 43 = 0 := rfl; omega
      · refine Ok_ret (show Ok _ _ _ from ?_)
        refine Ok_ifz0 ?_
        refine Kp_wrap C_t4 I_n_t4.1 I_n_t4.2.1 f_n_t4 I_n_t4.2.2.1 (by omega) (by omega) (by decide) (fun t22 C_t22 X_t22 a_t22 b_t22 d_t22 w_t22 u_t22 v_t22 j_t22 l_t22 => ?_)
        have e_t22 := C_t22.2.2.2.1
        rw [a_t4] at a_t22
        rw [b_t4] at b_t22
        rw [d_t4] at d_t22
        rw [w_t4] at w_t22
        rw [u_t4] at u_t22
        rw [v_t4] at v_t22
        clear d_t4 w_t4 u_t4 v_t4 e_t4
        have I_n_t22 := I_n_t4.le X_t22 (by omega)
        have f_n_t22 := f_n_t4.ex I_n_t4 (X_t22 0 (Nat.zero_le _))
        have u_n_t22 := u_n_t4.ex I_n_t4 (X_t22 0 (Nat.zero_le _))
        have I_m_mdt4_t22 : Nq t22 (m_md t4) := Nq.wrn j_t22 (by omega) I_n_t4 (by decide)
        have f_m_mdt4_t22 : Fz t22 (m_md t4) := by unfold Fz; rw [j_t22.2.1]; exact j_t22.2.2.1
        have la_n_t22 : m_la t22 n = (m_md t4) + 1 := j_t22.2.2.2.2.2.2.2.1
        have wl_n_t22 : m_wh t22 (m_md t4) = 56 := j_t22.1
        have z_t23 : m_at t22 < m_ct t22 := lo_ne (Nat.ne_of_gt (show 0 < lo t22 (m_at t22) from by omega))
        refine Kp_at C_t22 (fun t23 C_t23 X_t23 a_t23 b_t23 d_t23 w_t23 u_t23 v_t23 j_t23 l_t23 => ?_)
        have e_t23 := C_t23.2.2.2.1
        rw [a_t22] at a_t23
        rw [b_t22] at b_t23
        rw [d_t22] at d_t23
        rw [w_t22] at w_t23
        rw [u_t22] at u_t23
        rw [v_t22] at v_t23
        rw [a_t22, e_t22] at z_t23
        clear d_t22 w_t22 u_t22 v_t22 e_t22 a_t22 b_t22
        have I_n_t23 := I_n_t22.flat X_t23
        have f_n_t23 := f_n_t22.ex I_n_t22 (X_t23 0)
        have u_n_t23 := u_n_t22.ex I_n_t22 (X_t23 0)
        have I_m_mdt4_t23 := I_m_mdt4_t22.flat X_t23
        have f_m_mdt4_t23 := f_m_mdt4_t22.ex I_m_mdt4_t22 (X_t23 0)
        have la_n_t23 : m_la t23 n = (m_md t4) + 1 := by rw [j_t23.2.2.1]; exact la_n_t22
        have wl_n_t23 : m_wh t23 ((m_md t4)) = 56 := by rw [j_t23.1]; exact wl_n_t22
        clear la_n_t22 wl_n_t22
        refine Ok_ck (show t < 2147483648 from by omega) ?_
        refine Ok_ifz (f6_has _ _) (fun q => ?_) (fun q => absurd hk2 q)
        refine Ok_ck (show t < 2147483648 from by omega) ?_
        refine Ok_ifz (f6_has _ _) (fun q => ?_) (fun q => absurd hk3 q)
        refine Ok_ck (show t < 2147483648 from by omega) ?_
        refine Ok_ifz (f6_has _ _) (fun q => ?_) (fun q => absurd hk2 q)
        refine Ok_bnc ?_
        try unfold b_X6_right
        refine Kp_child C_t23 I_m_mdt4_t23.1 I_m_mdt4_t23.2.1 I_m_mdt4_t23.2.2.1 (by omega) (by omega) (by decide) (by decide) (fun t25 C_t25 X_t25 a_t25 b_t25 d_t25 w_t25 u_t25 v_t25 j_t25 l_t25 => ?_)
        have e_t25 := C_t25.2.2.2.1
        rw [a_t23] at a_t25
        rw [b_t23] at b_t25
        rw [d_t23] at d_t25
        rw [w_t23] at w_t25
        rw [u_t23] at u_t25
        rw [v_t23] at v_t25
        clear d_t23 w_t23 u_t23 v_t23 e_t23 a_t23
        have I_n_t25 := I_n_t23.chd X_t25 j_t25
        have f_n_t25 := f_n_t23.ex I_n_t23 (X_t25 0 (Nat.zero_le _))
        have u_n_t25 := u_n_t23.ex I_n_t23 (X_t25 0 (Nat.zero_le _))
        have I_m_mdt4_t25 := I_m_mdt4_t23.chd X_t25 j_t25
        have f_m_mdt4_t25 := f_m_mdt4_t23.ex I_m_mdt4_t23 (X_t25 0 (Nat.zero_le _))
        have la_n_t25 : m_la t25 n = (m_md t4) + 1 := by rw [(j_t25.2.2.2.2.2.2.2.1 n I_n_t23.1 (by omega)).1]; exact la_n_t23
        have wl_n_t25 : m_wh t25 ((m_md t4)) = 56 := by rw [(j_t25.2.2.2.2.2.2.1 ((m_md t4)) (by omega)).2]; exact wl_n_t23
        clear la_n_t23 wl_n_t23
        have f_m_mdt4_t25 : Fz t25 (m_md t4) := j_t25.2.2.2.2.1
        have I_m_mdt23_t25 : Nq t25 (m_md t23) := Nq.chn j_t25 (by omega) I_m_mdt4_t23 (by decide)
        have u_m_mdt23_t25 : Up t25 (m_md t23) := Or.inl j_t25.2.1
        have la_m_mdt4_t25 : m_la t25 (m_md t4) = (m_md t23) + 1 := j_t25.2.2.2.2.2.1
        have wl_m_mdt4_t25 : m_wh t25 (m_md t23) = 13 := j_t25.1
        refine Ok_ck (show t < 2147483648 from by omega) ?_
        refine Ok_ifz (f6_has _ _) (fun q26 => ?_) (fun q26 => ?_)
        · refine Kp_push C_t25 (by omega) (fun t27 C_t27 X_t27 a_t27 b_t27 d_t27 w_t27 u_t27 v_t27 j_t27 l_t27 => ?_)
          have e_t27 := C_t27.2.2.2.1
          rw [a_t25] at a_t27
          rw [b_t25] at b_t27
          rw [d_t25] at d_t27
          rw [w_t25] at w_t27
          rw [u_t25] at u_t27
          rw [v_t25] at v_t27
          clear d_t25 w_t25 u_t25 v_t25 e_t25 a_t25 b_t25
          have I_n_t27 := I_n_t25.flat X_t27
          have f_n_t27 := f_n_t25.ex I_n_t25 (X_t27 0)
          have u_n_t27 := u_n_t25.ex I_n_t25 (X_t27 0)
          have I_m_mdt4_t27 := I_m_mdt4_t25.flat X_t27
          have f_m_mdt4_t27 := f_m_mdt4_t25.ex I_m_mdt4_t25 (X_t27 0)
          have I_m_mdt23_t27 := I_m_mdt23_t25.flat X_t27
          have u_m_mdt23_t27 := u_m_mdt23_t25.ex I_m_mdt23_t25 (X_t27 0)
          have la_n_t27 : m_la t27 n = (m_md t4) + 1 := by rw [j_t27.2.2.1]; exact la_n_t25
          have wl_n_t27 : m_wh t27 ((m_md t4)) = 56 := by rw [j_t27.1]; exact wl_n_t25
          clear la_n_t25 wl_n_t25
          have la_m_mdt4_t27 : m_la t27 (m_md t4) = (m_md t23) + 1 := by rw [j_t27.2.2.1]; exact la_m_mdt4_t25
          have wl_m_mdt4_t27 : m_wh t27 ((m_md t23)) = 13 := by rw [j_t27.1]; exact wl_m_mdt4_t25
          clear la_m_mdt4_t25 wl_m_mdt4_t25
          refine Ok_bnc ?_
          try unfold b_X6_expression
          refine Kp_push C_t27 (by omega) (fun t29 C_t29 X_t29 a_t29 b_t29 d_t29 w_t29 u_t29 v_t29 j_t29 l_t29 => ?_)
          have e_t29 := C_t29.2.2.2.1
          rw [a_t27] at a_t29
          rw [b_t27] at b_t29
          rw [d_t27] at d_t29
          rw [w_t27] at w_t29
          rw [u_t27] at u_t29
          rw [v_t27] at v_t29
          clear d_t27 w_t27 u_t27 v_t27 e_t27 a_t27 b_t27
          have I_n_t29 := I_n_t27.flat X_t29
          have f_n_t29 := f_n_t27.ex I_n_t27 (X_t29 0)
          have u_n_t29 := u_n_t27.ex I_n_t27 (X_t29 0)
          have I_m_mdt4_t29 := I_m_mdt4_t27.flat X_t29
          have f_m_mdt4_t29 := f_m_mdt4_t27.ex I_m_mdt4_t27 (X_t29 0)
          have I_m_mdt23_t29 := I_m_mdt23_t27.flat X_t29
          have u_m_mdt23_t29 := u_m_mdt23_t27.ex I_m_mdt23_t27 (X_t29 0)
          have la_n_t29 : m_la t29 n = (m_md t4) + 1 := by rw [j_t29.2.2.1]; exact la_n_t27
          have wl_n_t29 : m_wh t29 ((m_md t4)) = 56 := by rw [j_t29.1]; exact wl_n_t27
          clear la_n_t27 wl_n_t27
          have la_m_mdt4_t29 : m_la t29 (m_md t4) = (m_md t23) + 1 := by rw [j_t29.2.2.1]; exact la_m_mdt4_t27
          have wl_m_mdt4_t29 : m_wh t29 ((m_md t23)) = 13 := by rw [j_t29.1]; exact wl_m_mdt4_t27
          clear la_m_mdt4_t27 wl_m_mdt4_t27
          refine Kp_push C_t29 (by omega) (fun t30 C_t30 X_t30 a_t30 b_t30 d_t30 w_t30 u_t30 v_t30 j_t30 l_t30 => ?_)
          have e_t30 := C_t30.2.2.2.1
          rw [a_t29] at a_t30
          rw [b_t29] at b_t30
          rw [d_t29] at d_t30
          rw [w_t29] at w_t30
          rw [u_t29] at u_t30
          rw [v_t29] at v_t30
          clear d_t29 w_t29 u_t29 v_t29 e_t29 a_t29 b_t29
          have I_n_t30 := I_n_t29.flat X_t30
          have f_n_t30 := f_n_t29.ex I_n_t29 (X_t30 0)
          have u_n_t30 := u_n_t29.ex I_n_t29 (X_t30 0)
          have I_m_mdt4_t30 := I_m_mdt4_t29.flat X_t30
          have f_m_mdt4_t30 := f_m_mdt4_t29.ex I_m_mdt4_t29 (X_t30 0)
          have I_m_mdt23_t30 := I_m_mdt23_t29.flat X_t30
          have u_m_mdt23_t30 := u_m_mdt23_t29.ex I_m_mdt23_t29 (X_t30 0)
          have la_n_t30 : m_la t30 n = (m_md t4) + 1 := by rw [j_t30.2.2.1]; exact la_n_t29
          have wl_n_t30 : m_wh t30 ((m_md t4)) = 56 := by rw [j_t30.1]; exact wl_n_t29
          clear la_n_t29 wl_n_t29
          have la_m_mdt4_t30 : m_la t30 (m_md t4) = (m_md t23) + 1 := by rw [j_t30.2.2.1]; exact la_m_mdt4_t29
          have wl_m_mdt4_t30 : m_wh t30 ((m_md t23)) = 13 := by rw [j_t30.1]; exact wl_m_mdt4_t29
          clear la_m_mdt4_t29 wl_m_mdt4_t29
          refine Ok_ret (show Ok _ _ _ from ?_)
          refine Ok_ret (show Ok _ _ _ from ?_)
          refine Ok_ret (show Ok _ _ _ from ?_)
          refine Hv_mk (Kv_c (x := (3, m_md t23, (t &&& 1) ||| 0)) rfl (Kv_c (x := (2, m_md t23, ((t &&& 1) ||| 0) ||| (1 * 256))) rfl (Kv_c (x := (32, m_md t23, t &&& 1)) rfl hK))) (C_t30.1.2.2.2.2.2.2 hTt) C_t30 hT (by omega) (by omega) (by omega) ?_ ?_ ?_ (by omega) ?_ ?_ ?_
          · exact ⟨(Io_n (by decide) (show (t &&& 1) ||| 0 < 4096 from by omega) I_m_mdt23_t30.1 I_m_mdt23_t30.2.1 I_m_mdt23_t30.2.2.1 (fun q => absurd q (by decide)) (fun q => absurd q (by decide)) I_m_mdt23_t30.2.2.2), (Nd_0 (by decide) Mo_nil), ⟨(Io_2 (by have := or_256 (b := 1) (show ((t &&& 1) ||| 0) < 256 from by omega); omega) (by have := or_256 (b := 1) (show ((t &&& 1) ||| 0) < 256 from by omega); omega) (by have := or_256 (b := 1) (show ((t &&& 1) ||| 0) < 256 from by omega); omega) I_m_mdt23_t30.1 I_m_mdt23_t30.2.1 I_m_mdt23_t30.2.2.1 I_m_mdt23_t30.2.2.2), (Nd_A (by decide) (Mo_cons (fun q => show m_md t23 ≤ m_md t23 from by omega) Mo_nil) (Or.inr ⟨(3, m_md t23, (t &&& 1) ||| 0), List.mem_cons_self, rfl, Or.inl rfl⟩)), ⟨(Io_n (by decide) (show t &&& 1 < 4096 from by omega) I_m_mdt23_t30.1 I_m_mdt23_t30.2.1 I_m_mdt23_t30.2.2.1 (fun q => absurd q (by decide)) (fun q => absurd q (by decide)) I_m_mdt23_t30.2.2.2), (Nd_0 (by decide) (Mo_cons (fun q => show m_md t23 ≤ m_md t23 from by omega) (Mo_cons (fun q => show m_md t23 ≤ m_md t23 from by omega) Mo_nil))), Stk_step (N := n) (pop := (43, n, t)) (new := [(32, m_md t23, t &&& 1), (2, m_md t23, ((t &&& 1) ||| 0) ||| (1 * 256)), (3, m_md t23, (t &&& 1) ||| 0)]) F0 C_t30.1.to2 (fun (h : nk 43 = false) => absurd h (by decide)) (fun q _ h => h (43, n, t) rfl) (fun _ => rfl) (fun y hy hk => ⟨rfl, (Mo_cons (fun q => show n ≤ m_md t23 from by omega) (Mo_cons (fun q => show n ≤ m_md t23 from by omega) (Mo_cons (fun q => show n ≤ m_md t23 from by omega) Mo_nil))) y hy hk⟩) (fun (h : 43 = 3 ∨ 43 = 18 ∨ 43 = 41) => absurd h (by decide)) (fun (h : 43 = 18) => absurd h (by decide)) (fun _ h16 => (Or.inr ⟨f_n_t30, (Ab_some (y := (32, m_md t23, t &&& 1)) rfl (show n < m_md t23 from by omega)), H50_no la_n_t30 wl_n_t30 (by decide)⟩)) r [] (fun y hy => absurd hy List.not_mem_nil) hS⟩⟩⟩
          · exact (Aj_up (x := (3, m_md t23, (t &&& 1) ||| 0)) (Aj_up (x := (2, m_md t23, ((t &&& 1) ||| 0) ||| (1 * 256))) (Aj_sub (y := (32, m_md t23, t &&& 1)) hJ (Nat.le_of_ble_eq_true rfl)) (Or.inr (show 9 - (((t &&& 1) ||| 0) ||| (1 * 256)) / 256 < 9 from by have := or_256 (b := 1) (show ((t &&& 1) ||| 0) < 256 from by omega); omega))) (Or.inr (show 2 < 9 - (((t &&& 1) ||| 0) ||| (1 * 256)) / 256 from by have := or_256 (b := 1) (show ((t &&& 1) ||| 0) < 256 from by omega); omega)))
          · show m_dp t30 = (dlt 3 + (dlt 2 + (dlt 32 + sD r)))
            have : dlt 2 = 0 := rfl; have : dlt 3 = 0 := rfl; have : dlt 32 = 0 := rfl; have : dlt 43 = 0 := rfl; omega
          · show m_rw t30 = (rho 3 + (rho 2 + (rho 32 + sR r)))
            have : rho 2 = 0 := rfl; have : rho 3 = 0 := rfl; have : rho 32 = 0 := rfl; have : rho 43 = 0 := rfl; omega
          · show m_md t30 + (mu7 3 + (mu7 2 + (mu7 32 + sM r))) ≤ 3 * m_at t30 + 7 * (r.length + 1 + 1 + 1) + 10
            have : mu7 2 = 7 := rfl; have : mu7 3 = 5 := rfl; have : mu7 32 = 7 := rfl; have : mu7 43 = 4 := rfl; omega
          · show (wt 3 + (wt 2 + (wt 32 + sW r))) + 6 * (4096 - m_at t30) + 4 * (600 - (r.length + 1 + 1 + 1)) < (wt 43 + sW r) + 6 * (4096 - m_at t0) + 4 * (600 - (r.length + 1))
            have : wt 2 = 5 := rfl; have : wt 3 = 3 := rfl; have : wt 32 = 5 := rfl; have : wt 43 = 0 := rfl; omega
        · refine Ok_bnc ?_
          try unfold b_X6_expression
          refine Kp_push C_t25 (by omega) (fun t32 C_t32 X_t32 a_t32 b_t32 d_t32 w_t32 u_t32 v_t32 j_t32 l_t32 => ?_)
          have e_t32 := C_t32.2.2.2.1
          rw [a_t25] at a_t32
          rw [b_t25] at b_t32
          rw [d_t25] at d_t32
          rw [w_t25] at w_t32
          rw [u_t25] at u_t32
          rw [v_t25] at v_t32
          clear d_t25 w_t25 u_t25 v_t25 e_t25 a_t25 b_t25
          have I_n_t32 := I_n_t25.flat X_t32
          have f_n_t32 := f_n_t25.ex I_n_t25 (X_t32 0)
          have u_n_t32 := u_n_t25.ex I_n_t25 (X_t32 0)
          have I_m_mdt4_t32 := I_m_mdt4_t25.flat X_t32
          have f_m_mdt4_t32 := f_m_mdt4_t25.ex I_m_mdt4_t25 (X_t32 0)
          have I_m_mdt23_t32 := I_m_mdt23_t25.flat X_t32
          have u_m_mdt23_t32 := u_m_mdt23_t25.ex I_m_mdt23_t25 (X_t32 0)
          have la_n_t32 : m_la t32 n = (m_md t4) + 1 := by rw [j_t32.2.2.1]; exact la_n_t25
          have wl_n_t32 : m_wh t32 ((m_md t4)) = 56 := by rw [j_t32.1]; exact wl_n_t25
          clear la_n_t25 wl_n_t25
          have la_m_mdt4_t32 : m_la t32 (m_md t4) = (m_md t23) + 1 := by rw [j_t32.2.2.1]; exact la_m_mdt4_t25
          have wl_m_mdt4_t32 : m_wh t32 ((m_md t23)) = 13 := by rw [j_t32.1]; exact wl_m_mdt4_t25
          clear la_m_mdt4_t25 wl_m_mdt4_t25
          refine Kp_push C_t32 (by omega) (fun t33 C_t33 X_t33 a_t33 b_t33 d_t33 w_t33 u_t33 v_t33 j_t33 l_t33 => ?_)
          have e_t33 := C_t33.2.2.2.1
          rw [a_t32] at a_t33
          rw [b_t32] at b_t33
          rw [d_t32] at d_t33
          rw [w_t32] at w_t33
          rw [u_t32] at u_t33
          rw [v_t32] at v_t33
          clear d_t32 w_t32 u_t32 v_t32 e_t32 a_t32 b_t32
          have I_n_t33 := I_n_t32.flat X_t33
          have f_n_t33 := f_n_t32.ex I_n_t32 (X_t33 0)
          have u_n_t33 := u_n_t32.ex I_n_t32 (X_t33 0)
          have I_m_mdt4_t33 := I_m_mdt4_t32.flat X_t33
          have f_m_mdt4_t33 := f_m_mdt4_t32.ex I_m_mdt4_t32 (X_t33 0)
          have I_m_mdt23_t33 := I_m_mdt23_t32.flat X_t33
          have u_m_mdt23_t33 := u_m_mdt23_t32.ex I_m_mdt23_t32 (X_t33 0)
          have la_n_t33 : m_la t33 n = (m_md t4) + 1 := by rw [j_t33.2.2.1]; exact la_n_t32
          have wl_n_t33 : m_wh t33 ((m_md t4)) = 56 := by rw [j_t33.1]; exact wl_n_t32
          clear la_n_t32 wl_n_t32
          have la_m_mdt4_t33 : m_la t33 (m_md t4) = (m_md t23) + 1 := by rw [j_t33.2.2.1]; exact la_m_mdt4_t32
          have wl_m_mdt4_t33 : m_wh t33 ((m_md t23)) = 13 := by rw [j_t33.1]; exact wl_m_mdt4_t32
          clear la_m_mdt4_t32 wl_m_mdt4_t32
          refine Ok_ret (show Ok _ _ _ from ?_)
          refine Ok_ret (show Ok _ _ _ from ?_)
          refine Ok_ret (show Ok _ _ _ from ?_)
          refine Hv_mk (Kv_c (x := (3, m_md t23, (t &&& 1) ||| 0)) rfl (Kv_c (x := (2, m_md t23, ((t &&& 1) ||| 0) ||| (1 * 256))) rfl hK)) (C_t33.1.2.2.2.2.2.2 hTt) C_t33 hT (by omega) (by omega) (by omega) ?_ ?_ ?_ (by omega) ?_ ?_ ?_
          · exact ⟨(Io_n (by decide) (show (t &&& 1) ||| 0 < 4096 from by omega) I_m_mdt23_t33.1 I_m_mdt23_t33.2.1 I_m_mdt23_t33.2.2.1 (fun q => absurd q (by decide)) (fun q => absurd q (by decide)) I_m_mdt23_t33.2.2.2), (Nd_0 (by decide) Mo_nil), ⟨(Io_2 (by have := or_256 (b := 1) (show ((t &&& 1) ||| 0) < 256 from by omega); omega) (by have := or_256 (b := 1) (show ((t &&& 1) ||| 0) < 256 from by omega); omega) (by have := or_256 (b := 1) (show ((t &&& 1) ||| 0) < 256 from by omega); omega) I_m_mdt23_t33.1 I_m_mdt23_t33.2.1 I_m_mdt23_t33.2.2.1 I_m_mdt23_t33.2.2.2), (Nd_A (by decide) (Mo_cons (fun q => show m_md t23 ≤ m_md t23 from by omega) Mo_nil) (Or.inr ⟨(3, m_md t23, (t &&& 1) ||| 0), List.mem_cons_self, rfl, Or.inl rfl⟩)), Stk_step (N := n) (pop := (43, n, t)) (new := [(2, m_md t23, ((t &&& 1) ||| 0) ||| (1 * 256)), (3, m_md t23, (t &&& 1) ||| 0)]) F0 C_t33.1.to2 (fun (h : nk 43 = false) => absurd h (by decide)) (fun q _ h => h (43, n, t) rfl) (fun _ => rfl) (fun y hy hk => ⟨rfl, (Mo_cons (fun q => show n ≤ m_md t23 from by omega) (Mo_cons (fun q => show n ≤ m_md t23 from by omega) Mo_nil)) y hy hk⟩) (fun (h : 43 = 3 ∨ 43 = 18 ∨ 43 = 41) => absurd h (by decide)) (fun (h : 43 = 18) => absurd h (by decide)) (fun _ h16 => (Or.inr ⟨f_n_t33, (Ab_some (y := (2, m_md t23, ((t &&& 1) ||| 0) ||| (1 * 256))) rfl (show n < m_md t23 from by omega)), H50_no la_n_t33 wl_n_t33 (by decide)⟩)) r [] (fun y hy => absurd hy List.not_mem_nil) hS⟩⟩
          · exact (Aj_up (x := (3, m_md t23, (t &&& 1) ||| 0)) (Aj_sub (y := (2, m_md t23, ((t &&& 1) ||| 0) ||| (1 * 256))) hJ (show 9 - (((t &&& 1) ||| 0) ||| (1 * 256)) / 256 ≤ 10 from by have := or_256 (b := 1) (show ((t &&& 1) ||| 0) < 256 from by omega); omega)) (Or.inr (show 2 < 9 - (((t &&& 1) ||| 0) ||| (1 * 256)) / 256 from by have := or_256 (b := 1) (show ((t &&& 1) ||| 0) < 256 from by omega); omega)))
          · show m_dp t33 = (dlt 3 + (dlt 2 + sD r))
            have : dlt 2 = 0 := rfl; have : dlt 3 = 0 := rfl; have : dlt 43 = 0 := rfl; omega
          · show m_rw t33 = (rho 3 + (rho 2 + sR r))
            have : rho 2 = 0 := rfl; have : rho 3 = 0 := rfl; have : rho 43 = 0 := rfl; omega
          · show m_md t33 + (mu7 3 + (mu7 2 + sM r)) ≤ 3 * m_at t33 + 7 * (r.length + 1 + 1) + 10
            have : mu7 2 = 7 := rfl; have : mu7 3 = 5 := rfl; have : mu7 43 = 4 := rfl; omega
          · show (wt 3 + (wt 2 + sW r)) + 6 * (4096 - m_at t33) + 4 * (600 - (r.length + 1 + 1)) < (wt 43 + sW r) + 6 * (4096 - m_at t0) + 4 * (600 - (r.length + 1))
            have : wt 2 = 5 := rfl; have : wt 3 = 3 := rfl; have : wt 43 = 0 := rfl; omega
    · refine Kp_error C_t0 (by omega) (fun t34 C_t34 X_t34 a_t34 b_t34 d_t34 w_t34 u_t34 v_t34 j_t34 l_t34 => ?_)
      have wb_t34 := w_t34.2
      have w_t34 := Nat.pos_of_ne_zero w_t34.1
      have e_t34 := C_t34.2.2.2.1
      have I_n_t34 := I_n_t0.flat X_t34
      have f_n_t34 := f_n_t0.ex I_n_t0 (X_t34 0)
      have u_n_t34 := u_n_t0.ex I_n_t0 (X_t34 0)
      exact Or.inl ⟨Nat.ne_of_gt (show 0 < m_wr t34 from by omega), by omega, by omega, C_t34.2.2.2.2.2, by omega⟩

theorem Q_listRest_18_t76bab {t0 : Mm} {n t : Nat} {r : List It} (H : Hp t0 (43, n, t) r) {E : Mm → Prop} (f y4 : Nat) (h4 : y4 ≤ 1) (hk0 : lo t0 (m_at t0) = 76) (hk1 : f_X6_has t 4 ≠ 0) (hk2 : f_X6_has t 8 = 0) (hk3 : f_X6_has t 16 ≠ 0) : Ok (Qh (mz t0 ((43, n, t) :: r))) E (lp_X6_listRest_18 ((f + 1)) n t ((m_la t0 n - 1)) y4 0 t0) := by
  obtain ⟨hK, hT, hc, hw0, ha, hC, hS, hJ, hdp, hdl, hrw, hmd, htd, hln, hm16, hI, hD, hTt⟩ := Hp_out H
  have C_t0 := hC n
  have F0 := C_t0.2.1
  have I_n_t0 : Nq t0 n := ⟨(hI.2.1 rfl).1, (hI.2.1 rfl).2.1, (hI.2.1 rfl).2.2, hI.2.2.2 rfl⟩
  have m_n_t0 := I_n_t0.1
  have ht : t < 4096 := hI.1.1 (show 43 ≠ 42 by decide) (show 43 ≠ 48 by decide)
  have hdp : m_dp t0 = dlt 43 + sD r := hdp
  have hrw : m_rw t0 = rho 43 + sR r := hrw
  have hmd : m_md t0 + mu7 43 + sM r ≤ 3 * m_at t0 + 7 * r.length + 17 := hmd
  have hand : t &&& 1 ≤ 1 := Nat.and_le_right
  have h01 : (0 &&& 1 : Nat) = 0 := rfl
  have hor0 : (t &&& 1) ||| 0 ≤ 1 := by rw [Nat.or_zero]; exact hand
  have hor2 : (t &&& 1) ||| 2 < 4 := Nat.or_lt_two_pow (n := 2) (by omega) (by decide)
  have h02 : (1 : Nat) * 256 = 256 := rfl
  have hq1 : dlt 43 = 0 := rfl
  have hq2 : rho 43 = 0 := rfl
  have hq3 : mu7 43 = 4 := rfl
  obtain ⟨f5, -, -, g43, w43⟩ := hD.2.2.2.1 rfl
  have f_n_t0 : Fz t0 n := f5
  obtain ⟨hla0, hla2, -, -⟩ := Fo_lp F0 I_n_t0 f_n_t0
  have hla1 : m_la t0 n - 1 < m_md t0 := by omega
  have u_n_t0 : Up t0 n := hI.2.2.1 rfl
  rw [lp_X6_listRest_18]
  refine Ok_ifz0 ?_
  refine Kp_look C_t0 hT (by omega) ?_
  refine Ok_ife (Nat.lt_trans (lo_lt (C_t0.tk hT) _) (by decide)) (by decide) (fun q => absurd (hk0.symm.trans q) (by decide)) (fun _ => ?_)
  refine Kp_look C_t0 hT (by omega) ?_
  refine Ok_ife (Nat.lt_trans (lo_lt (C_t0.tk hT) _) (by decide)) (by decide) (fun q => ?_) (fun q => absurd hk0 q)
  refine Ok_ifz (show y4 < 2147483648 from by omega) (fun q1 => ?_) (fun q1 => ?_)
  · refine Kp_error C_t0 (by omega) (fun t2 C_t2 X_t2 a_t2 b_t2 d_t2 w_t2 u_t2 v_t2 j_t2 l_t2 => ?_)
    have wb_t2 := w_t2.2
    have w_t2 := Nat.pos_of_ne_zero w_t2.1
    have e_t2 := C_t2.2.2.2.1
    have I_n_t2 := I_n_t0.flat X_t2
    have f_n_t2 := f_n_t0.ex I_n_t0 (X_t2 0)
    have u_n_t2 := u_n_t0.ex I_n_t0 (X_t2 0)
    exact Or.inl ⟨Nat.ne_of_gt (show 0 < m_wr t2 from by omega), by omega, by omega, C_t2.2.2.2.2.2, by omega⟩
  · refine Ok_ck (show t < 2147483648 from by omega) ?_
    refine Ok_ifz (f6_has _ _) (fun q3 => ?_) (fun q3 => ?_)
    · refine Ok_ck (show ((m_la t0 n - 1)) < 65536 from by omega) ?_
      refine Kp_wh C_t0 (by decide) (by decide) (by decide) (by decide) (fun t4 C_t4 X_t4 a_t4 b_t4 d_t4 w_t4 u_t4 v_t4 j_t4 l_t4 => ?_)
      have e_t4 := C_t4.2.2.2.1
      have I_n_t4 := I_n_t0.flat X_t4
      have f_n_t4 := f_n_t0.ex I_n_t0 (X_t4 0)
      have u_n_t4 := u_n_t0.ex I_n_t0 (X_t4 0)
      refine Ok_bnc ?_
      try unfold b_X6_define
      refine Ok_bnc ?_
      try unfold b_X6_ranges
      refine Ok_ck (show t < 2147483648 from by omega) ?_
      refine Ok_ifz (f6_has _ _) (fun q => absurd q hk1) (fun q => ?_)
      refine Kp_ahead C_t4 hT (by omega) ?_
      refine Ok_ife (Nat.lt_trans (lo_lt (C_t4.tk hT) _) (by decide)) (by decide) (fun q7 => ?_) (fun q7 => ?_)
      · refine Kp_look C_t4 hT (by omega) ?_
        refine Ok_ife (Nat.lt_trans (lo_lt (C_t4.tk hT) _) (by decide)) (by decide) (fun q8 => ?_) (fun q8 => ?_)
        · refine Kp_wrap C_t4 I_n_t4.1 I_n_t4.2.1 f_n_t4 I_n_t4.2.2.1 (by omega) (by omega) (by decide) (fun t9 C_t9 X_t9 a_t9 b_t9 d_t9 w_t9 u_t9 v_t9 j_t9 l_t9 => ?_)
          have e_t9 := C_t9.2.2.2.1
          rw [a_t4] at a_t9
          rw [b_t4] at b_t9
          rw [d_t4] at d_t9
          rw [w_t4] at w_t9
          rw [u_t4] at u_t9
          rw [v_t4] at v_t9
          clear d_t4 w_t4 u_t4 v_t4 e_t4
          have I_n_t9 := I_n_t4.le X_t9 (by omega)
          have f_n_t9 := f_n_t4.ex I_n_t4 (X_t9 0 (Nat.zero_le _))
          have u_n_t9 := u_n_t4.ex I_n_t4 (X_t9 0 (Nat.zero_le _))
          have I_m_mdt4_t9 : Nq t9 (m_md t4) := Nq.wrn j_t9 (by omega) I_n_t4 (by decide)
          have f_m_mdt4_t9 : Fz t9 (m_md t4) := by unfold Fz; rw [j_t9.2.1]; exact j_t9.2.2.1
          have la_n_t9 : m_la t9 n = (m_md t4) + 1 := j_t9.2.2.2.2.2.2.2.1
          have wl_n_t9 : m_wh t9 (m_md t4) = 67 := j_t9.1
          have y9_t10 : m_at t9 = m_at t4 + 1 → lo t9 (m_at t9) = lo t4 (m_at t4 + 1) := fun h => lo_2 C_t9 C_t4 h
          have z_t10 : m_at t9 < m_ct t9 := lo_ne (Nat.ne_of_gt (show 0 < lo t9 (m_at t9) from by omega))
          refine Kp_at C_t9 (fun t10 C_t10 X_t10 a_t10 b_t10 d_t10 w_t10 u_t10 v_t10 j_t10 l_t10 => ?_)
          have e_t10 := C_t10.2.2.2.1
          rw [a_t9] at a_t10
          rw [b_t9] at b_t10
          rw [d_t9] at d_t10
          rw [w_t9] at w_t10
          rw [u_t9] at u_t10
          rw [v_t9] at v_t10
          rw [a_t9, e_t9] at z_t10
          clear d_t9 w_t9 u_t9 v_t9 e_t9 a_t9 b_t9
          have I_n_t10 := I_n_t9.flat X_t10
          have f_n_t10 := f_n_t9.ex I_n_t9 (X_t10 0)
          have u_n_t10 := u_n_t9.ex I_n_t9 (X_t10 0)
          have I_m_mdt4_t10 := I_m_mdt4_t9.flat X_t10
          have f_m_mdt4_t10 := f_m_mdt4_t9.ex I_m_mdt4_t9 (X_t10 0)
          have la_n_t10 : m_la t10 n = (m_md t4) + 1 := by rw [j_t10.2.2.1]; exact la_n_t9
          have wl_n_t10 : m_wh t10 ((m_md t4)) = 67 := by rw [j_t10.1]; exact wl_n_t9
          clear la_n_t9 wl_n_t9
          refine Kp_wrap C_t10 I_n_t10.1 I_n_t10.2.1 f_n_t10 I_n_t10.2.2.1 (by omega) (by omega) (by decide) (fun t11 C_t11 X_t11 a_t11 b_t11 d_t11 w_t11 u_t11 v_t11 j_t11 l_t11 => ?_)
          have e_t11 := C_t11.2.2.2.1
          rw [a_t10] at a_t11
          rw [b_t10] at b_t11
          rw [d_t10] at d_t11
          rw [w_t10] at w_t11
          rw [u_t10] at u_t11
          rw [v_t10] at v_t11
          clear d_t10 w_t10 u_t10 v_t10 e_t10 a_t10
          have I_n_t11 := I_n_t10.le X_t11 (by omega)
          have f_n_t11 := f_n_t10.ex I_n_t10 (X_t11 0 (Nat.zero_le _))
          have u_n_t11 := u_n_t10.ex I_n_t10 (X_t11 0 (Nat.zero_le _))
          have I_m_mdt10_t11 : Nq t11 (m_md t10) := Nq.wrn j_t11 (by omega) I_n_t10 (by decide)
          have f_m_mdt10_t11 : Fz t11 (m_md t10) := by unfold Fz; rw [j_t11.2.1]; exact j_t11.2.2.1
          have la_n_t11 : m_la t11 n = (m_md t10) + 1 := j_t11.2.2.2.2.2.2.2.1
          have wl_n_t11 : m_wh t11 (m_md t10) = 66 := j_t11.1
          have y9_t12 : m_at t11 = m_at t4 + 1 → lo t11 (m_at t11) = lo t4 (m_at t4 + 1) := fun h => lo_2 C_t11 C_t4 h
          have y8_t12 : lo t11 (m_at t11) = lo t4 (m_at t4 + 1) := y9_t12 (by omega)
          have z_t12 : m_at t11 < m_ct t11 := lo_ne (Nat.ne_of_gt (show 0 < lo t11 (m_at t11) from by omega))
          refine Kp_at C_t11 (fun t12 C_t12 X_t12 a_t12 b_t12 d_t12 w_t12 u_t12 v_t12 j_t12 l_t12 => ?_)
          have e_t12 := C_t12.2.2.2.1
          rw [a_t11] at a_t12
          rw [b_t11] at b_t12
          rw [d_t11] at d_t12
          rw [w_t11] at w_t12
          rw [u_t11] at u_t12
          rw [v_t11] at v_t12
          rw [a_t11, e_t11] at z_t12
          clear z_t10
          clear d_t11 w_t11 u_t11 v_t11 e_t11 a_t11 b_t11
          have I_n_t12 := I_n_t11.flat X_t12
          have f_n_t12 := f_n_t11.ex I_n_t11 (X_t12 0)
          have u_n_t12 := u_n_t11.ex I_n_t11 (X_t12 0)
          have I_m_mdt10_t12 := I_m_mdt10_t11.flat X_t12
          have f_m_mdt10_t12 := f_m_mdt10_t11.ex I_m_mdt10_t11 (X_t12 0)
          have la_n_t12 : m_la t12 n = (m_md t10) + 1 := by rw [j_t12.2.2.1]; exact la_n_t11
          have wl_n_t12 : m_wh t12 ((m_md t10)) = 66 := by rw [j_t12.1]; exact wl_n_t11
          clear la_n_t11 wl_n_t11
          refine Ok_bnc ?_
          try unfold b_X6_expression
          refine Kp_push C_t12 (by omega) (fun t14 C_t14 X_t14 a_t14 b_t14 d_t14 w_t14 u_t14 v_t14 j_t14 l_t14 => ?_)
          have e_t14 := C_t14.2.2.2.1
          rw [a_t12] at a_t14
          rw [b_t12] at b_t14
          rw [d_t12] at d_t14
          rw [w_t12] at w_t14
          rw [u_t12] at u_t14
          rw [v_t12] at v_t14
          clear d_t12 w_t12 u_t12 v_t12 e_t12 a_t12 b_t12
          have I_n_t14 := I_n_t12.flat X_t14
          have f_n_t14 := f_n_t12.ex I_n_t12 (X_t14 0)
          have u_n_t14 := u_n_t12.ex I_n_t12 (X_t14 0)
          have I_m_mdt10_t14 := I_m_mdt10_t12.flat X_t14
          have f_m_mdt10_t14 := f_m_mdt10_t12.ex I_m_mdt10_t12 (X_t14 0)
          have la_n_t14 : m_la t14 n = (m_md t10) + 1 := by rw [j_t14.2.2.1]; exact la_n_t12
          have wl_n_t14 : m_wh t14 ((m_md t10)) = 66 := by rw [j_t14.1]; exact wl_n_t12
          clear la_n_t12 wl_n_t12
          refine Kp_push C_t14 (by omega) (fun t15 C_t15 X_t15 a_t15 b_t15 d_t15 w_t15 u_t15 v_t15 j_t15 l_t15 => ?_)
          have e_t15 := C_t15.2.2.2.1
          rw [a_t14] at a_t15
          rw [b_t14] at b_t15
          rw [d_t14] at d_t15
          rw [w_t14] at w_t15
          rw [u_t14] at u_t15
          rw [v_t14] at v_t15
          clear d_t14 w_t14 u_t14 v_t14 e_t14 a_t14 b_t14
          have I_n_t15 := I_n_t14.flat X_t15
          have f_n_t15 := f_n_t14.ex I_n_t14 (X_t15 0)
          have u_n_t15 := u_n_t14.ex I_n_t14 (X_t15 0)
          have I_m_mdt10_t15 := I_m_mdt10_t14.flat X_t15
          have f_m_mdt10_t15 := f_m_mdt10_t14.ex I_m_mdt10_t14 (X_t15 0)
          have la_n_t15 : m_la t15 n = (m_md t10) + 1 := by rw [j_t15.2.2.1]; exact la_n_t14
          have wl_n_t15 : m_wh t15 ((m_md t10)) = 66 := by rw [j_t15.1]; exact wl_n_t14
          clear la_n_t14 wl_n_t14
          refine Ok_ret (show Ok _ _ _ from ?_)
          refine Ok_ret (show Ok _ _ _ from ?_)
          refine Ok_ifz1 ?_
          refine Ok_ret (show Ok _ _ _ from ?_)
          refine Hv_mk (Kv_c (x := (3, m_md t10, 1)) rfl (Kv_c (x := (2, m_md t10, 1 ||| (1 * 256))) rfl hK)) (C_t15.1.2.2.2.2.2.2 hTt) C_t15 hT (by omega) (by omega) (by omega) ?_ ?_ ?_ (by omega) ?_ ?_ ?_
          · exact ⟨(Io_n (by decide) (by decide) I_m_mdt10_t15.1 I_m_mdt10_t15.2.1 I_m_mdt10_t15.2.2.1 (fun q => absurd q (by decide)) (fun q => absurd q (by decide)) I_m_mdt10_t15.2.2.2), (Nd_0 (by decide) Mo_nil), ⟨(Io_2 (by have := or_256 (b := 1) (show 1 < 256 from by omega); omega) (by have := or_256 (b := 1) (show 1 < 256 from by omega); omega) (by have := or_256 (b := 1) (show 1 < 256 from by omega); omega) I_m_mdt10_t15.1 I_m_mdt10_t15.2.1 I_m_mdt10_t15.2.2.1 I_m_mdt10_t15.2.2.2), (Nd_A (by decide) (Mo_cons (fun q => show m_md t10 ≤ m_md t10 from by omega) Mo_nil) (Or.inr ⟨(3, m_md t10, 1), List.mem_cons_self, rfl, Or.inl rfl⟩)), Stk_step (N := n) (pop := (43, n, t)) (new := [(2, m_md t10, 1 ||| (1 * 256)), (3, m_md t10, 1)]) F0 C_t15.1.to2 (fun (h : nk 43 = false) => absurd h (by decide)) (fun q _ h => h (43, n, t) rfl) (fun _ => rfl) (fun y hy hk => ⟨rfl, (Mo_cons (fun q => show n ≤ m_md t10 from by omega) (Mo_cons (fun q => show n ≤ m_md t10 from by omega) Mo_nil)) y hy hk⟩) (fun (h : 43 = 3 ∨ 43 = 18 ∨ 43 = 41) => absurd h (by decide)) (fun (h : 43 = 18) => absurd h (by decide)) (fun _ h16 => (Or.inr ⟨f_n_t15, (Ab_some (y := (2, m_md t10, 1 ||| (1 * 256))) rfl (show n < m_md t10 from by omega)), H50_no la_n_t15 wl_n_t15 (by decide)⟩)) r [] (fun y hy => absurd hy List.not_mem_nil) hS⟩⟩
          · exact (Aj_up (x := (3, m_md t10, 1)) (Aj_sub (y := (2, m_md t10, 1 ||| (1 * 256))) hJ (show 9 - (1 ||| (1 * 256)) / 256 ≤ 10 from by have := or_256 (b := 1) (show 1 < 256 from by omega); omega)) (Or.inr (show 2 < 9 - (1 ||| (1 * 256)) / 256 from by have := or_256 (b := 1) (show 1 < 256 from by omega); omega)))
          · show m_dp t15 = (dlt 3 + (dlt 2 + sD r))
            have : dlt 2 = 0 := rfl; have : dlt 3 = 0 := rfl; have : dlt 43 = 0 := rfl; omega
          · show m_rw t15 = (rho 3 + (rho 2 + sR r))
            have : rho 2 = 0 := rfl; have : rho 3 = 0 := rfl; have : rho 43 = 0 := rfl; omega
          · show m_md t15 + (mu7 3 + (mu7 2 + sM r)) ≤ 3 * m_at t15 + 7 * (r.length + 1 + 1) + 10
            have : mu7 2 = 7 := rfl; have : mu7 3 = 5 := rfl; have : mu7 43 = 4 := rfl; omega
          · show (wt 3 + (wt 2 + sW r)) + 6 * (4096 - m_at t15) + 4 * (600 - (r.length + 1 + 1)) < (wt 43 + sW r) + 6 * (4096 - m_at t0) + 4 * (600 - (r.length + 1))
            have : wt 2 = 5 := rfl; have : wt 3 = 3 := rfl; have : wt 43 = 0 := rfl; omega
        · have z_t16 : m_at t4 < m_ct t4 := lo_ne (Nat.ne_of_gt (show 0 < lo t4 (m_at t4) from by omega))
          refine Kp_at C_t4 (fun t16 C_t16 X_t16 a_t16 b_t16 d_t16 w_t16 u_t16 v_t16 j_t16 l_t16 => ?_)
          have e_t16 := C_t16.2.2.2.1
          rw [a_t4] at a_t16
          rw [b_t4] at b_t16
          rw [d_t4] at d_t16
          rw [w_t4] at w_t16
          rw [u_t4] at u_t16
          rw [v_t4] at v_t16
          rw [a_t4, e_t4] at z_t16
          clear d_t4 w_t4 u_t4 v_t4 e_t4 b_t4
          have I_n_t16 := I_n_t4.flat X_t16
          have f_n_t16 := f_n_t4.ex I_n_t4 (X_t16 0)
          have u_n_t16 := u_n_t4.ex I_n_t4 (X_t16 0)
          refine Kp_wrap C_t16 I_n_t16.1 I_n_t16.2.1 f_n_t16 I_n_t16.2.2.1 (by omega) (by omega) (by decide) (fun t17 C_t17 X_t17 a_t17 b_t17 d_t17 w_t17 u_t17 v_t17 j_t17 l_t17 => ?_)
          have e_t17 := C_t17.2.2.2.1
          rw [a_t16] at a_t17
          rw [b_t16] at b_t17
          rw [d_t16] at d_t17
          rw [w_t16] at w_t17
          rw [u_t16] at u_t17
          rw [v_t16] at v_t17
          clear d_t16 w_t16 u_t16 v_t16 e_t16 a_t16
          have I_n_t17 := I_n_t16.le X_t17 (by omega)
          have f_n_t17 := f_n_t16.ex I_n_t16 (X_t17 0 (Nat.zero_le _))
          have u_n_t17 := u_n_t16.ex I_n_t16 (X_t17 0 (Nat.zero_le _))
          have I_m_mdt16_t17 : Nq t17 (m_md t16) := Nq.wrn j_t17 (by omega) I_n_t16 (by decide)
          have f_m_mdt16_t17 : Fz t17 (m_md t16) := by unfold Fz; rw [j_t17.2.1]; exact j_t17.2.2.1
          have la_n_t17 : m_la t17 n = (m_md t16) + 1 := j_t17.2.2.2.2.2.2.2.1
          have wl_n_t17 : m_wh t17 (m_md t16) = 66 := j_t17.1
          have y9_t18 : m_at t17 = m_at t4 + 1 → lo t17 (m_at t17) = lo t4 (m_at t4 + 1) := fun h => lo_2 C_t17 C_t4 h
          have y8_t18 : lo t17 (m_at t17) = lo t4 (m_at t4 + 1) := y9_t18 (by omega)
          have z_t18 : m_at t17 < m_ct t17 := lo_ne (Nat.ne_of_gt (show 0 < lo t17 (m_at t17) from by omega))
          refine Kp_at C_t17 (fun t18 C_t18 X_t18 a_t18 b_t18 d_t18 w_t18 u_t18 v_t18 j_t18 l_t18 => ?_)
          have e_t18 := C_t18.2.2.2.1
          rw [a_t17] at a_t18
          rw [b_t17] at b_t18
          rw [d_t17] at d_t18
          rw [w_t17] at w_t18
          rw [u_t17] at u_t18
          rw [v_t17] at v_t18
          rw [a_t17, e_t17] at z_t18
          clear z_t16
          clear d_t17 w_t17 u_t17 v_t17 e_t17 a_t17 b_t17
          have I_n_t18 := I_n_t17.flat X_t18
          have f_n_t18 := f_n_t17.ex I_n_t17 (X_t18 0)
          have u_n_t18 := u_n_t17.ex I_n_t17 (X_t18 0)
          have I_m_mdt16_t18 := I_m_mdt16_t17.flat X_t18
          have f_m_mdt16_t18 := f_m_mdt16_t17.ex I_m_mdt16_t17 (X_t18 0)
          have la_n_t18 : m_la t18 n = (m_md t16) + 1 := by rw [j_t18.2.2.1]; exact la_n_t17
          have wl_n_t18 : m_wh t18 ((m_md t16)) = 66 := by rw [j_t18.1]; exact wl_n_t17
          clear la_n_t17 wl_n_t17
          refine Ok_bnc ?_
          try unfold b_X6_expression
          refine Kp_push C_t18 (by omega) (fun t20 C_t20 X_t20 a_t20 b_t20 d_t20 w_t20 u_t20 v_t20 j_t20 l_t20 => ?_)
          have e_t20 := C_t20.2.2.2.1
          rw [a_t18] at a_t20
          rw [b_t18] at b_t20
          rw [d_t18] at d_t20
          rw [w_t18] at w_t20
          rw [u_t18] at u_t20
          rw [v_t18] at v_t20
          clear d_t18 w_t18 u_t18 v_t18 e_t18 a_t18 b_t18
          have I_n_t20 := I_n_t18.flat X_t20
          have f_n_t20 := f_n_t18.ex I_n_t18 (X_t20 0)
          have u_n_t20 := u_n_t18.ex I_n_t18 (X_t20 0)
          have I_m_mdt16_t20 := I_m_mdt16_t18.flat X_t20
          have f_m_mdt16_t20 := f_m_mdt16_t18.ex I_m_mdt16_t18 (X_t20 0)
          have la_n_t20 : m_la t20 n = (m_md t16) + 1 := by rw [j_t20.2.2.1]; exact la_n_t18
          have wl_n_t20 : m_wh t20 ((m_md t16)) = 66 := by rw [j_t20.1]; exact wl_n_t18
          clear la_n_t18 wl_n_t18
          refine Kp_push C_t20 (by omega) (fun t21 C_t21 X_t21 a_t21 b_t21 d_t21 w_t21 u_t21 v_t21 j_t21 l_t21 => ?_)
          have e_t21 := C_t21.2.2.2.1
          rw [a_t20] at a_t21
          rw [b_t20] at b_t21
          rw [d_t20] at d_t21
          rw [w_t20] at w_t21
          rw [u_t20] at u_t21
          rw [v_t20] at v_t21
          clear d_t20 w_t20 u_t20 v_t20 e_t20 a_t20 b_t20
          have I_n_t21 := I_n_t20.flat X_t21
          have f_n_t21 := f_n_t20.ex I_n_t20 (X_t21 0)
          have u_n_t21 := u_n_t20.ex I_n_t20 (X_t21 0)
          have I_m_mdt16_t21 := I_m_mdt16_t20.flat X_t21
          have f_m_mdt16_t21 := f_m_mdt16_t20.ex I_m_mdt16_t20 (X_t21 0)
          have la_n_t21 : m_la t21 n = (m_md t16) + 1 := by rw [j_t21.2.2.1]; exact la_n_t20
          have wl_n_t21 : m_wh t21 ((m_md t16)) = 66 := by rw [j_t21.1]; exact wl_n_t20
          clear la_n_t20 wl_n_t20
          refine Ok_ret (show Ok _ _ _ from ?_)
          refine Ok_ret (show Ok _ _ _ from ?_)
          refine Ok_ifz1 ?_
          refine Ok_ret (show Ok _ _ _ from ?_)
          refine Hv_mk (Kv_c (x := (3, m_md t16, 1)) rfl (Kv_c (x := (2, m_md t16, 1 ||| (1 * 256))) rfl hK)) (C_t21.1.2.2.2.2.2.2 hTt) C_t21 hT (by omega) (by omega) (by omega) ?_ ?_ ?_ (by omega) ?_ ?_ ?_
          · exact ⟨(Io_n (by decide) (by decide) I_m_mdt16_t21.1 I_m_mdt16_t21.2.1 I_m_mdt16_t21.2.2.1 (fun q => absurd q (by decide)) (fun q => absurd q (by decide)) I_m_mdt16_t21.2.2.2), (Nd_0 (by decide) Mo_nil), ⟨(Io_2 (by have := or_256 (b := 1) (show 1 < 256 from by omega); omega) (by have := or_256 (b := 1) (show 1 < 256 from by omega); omega) (by have := or_256 (b := 1) (show 1 < 256 from by omega); omega) I_m_mdt16_t21.1 I_m_mdt16_t21.2.1 I_m_mdt16_t21.2.2.1 I_m_mdt16_t21.2.2.2), (Nd_A (by decide) (Mo_cons (fun q => show m_md t16 ≤ m_md t16 from by omega) Mo_nil) (Or.inr ⟨(3, m_md t16, 1), List.mem_cons_self, rfl, Or.inl rfl⟩)), Stk_step (N := n) (pop := (43, n, t)) (new := [(2, m_md t16, 1 ||| (1 * 256)), (3, m_md t16, 1)]) F0 C_t21.1.to2 (fun (h : nk 43 = false) => absurd h (by decide)) (fun q _ h => h (43, n, t) rfl) (fun _ => rfl) (fun y hy hk => ⟨rfl, (Mo_cons (fun q => show n ≤ m_md t16 from by omega) (Mo_cons (fun q => show n ≤ m_md t16 from by omega) Mo_nil)) y hy hk⟩) (fun (h : 43 = 3 ∨ 43 = 18 ∨ 43 = 41) => absurd h (by decide)) (fun (h : 43 = 18) => absurd h (by decide)) (fun _ h16 => (Or.inr ⟨f_n_t21, (Ab_some (y := (2, m_md t16, 1 ||| (1 * 256))) rfl (show n < m_md t16 from by omega)), H50_no la_n_t21 wl_n_t21 (by decide)⟩)) r [] (fun y hy => absurd hy List.not_mem_nil) hS⟩⟩
          · exact (Aj_up (x := (3, m_md t16, 1)) (Aj_sub (y := (2, m_md t16, 1 ||| (1 * 256))) hJ (show 9 - (1 ||| (1 * 256)) / 256 ≤ 10 from by have := or_256 (b := 1) (show 1 < 256 from by omega); omega)) (Or.inr (show 2 < 9 - (1 ||| (1 * 256)) / 256 from by have := or_256 (b := 1) (show 1 < 256 from by omega); omega)))
          · show m_dp t21 = (dlt 3 + (dlt 2 + sD r))
            have : dlt 2 = 0 := rfl; have : dlt 3 = 0 := rfl; have : dlt 43 = 0 := rfl; omega
          · show m_rw t21 = (rho 3 + (rho 2 + sR r))
            have : rho 2 = 0 := rfl; have : rho 3 = 0 := rfl; have : rho 43 = 0 := rfl; omega
          · show m_md t21 + (mu7 3 + (mu7 2 + sM r)) ≤ 3 * m_at t21 + 7 * (r.length + 1 + 1) + 10
            have : mu7 2 = 7 := rfl; have : mu7 3 = 5 := rfl; have : mu7 43 = 4 := rfl; omega
          · show (wt 3 + (wt 2 + sW r)) + 6 * (4096 - m_at t21) + 4 * (600 - (r.length + 1 + 1)) < (wt 43 + sW r) + 6 * (4096 - m_at t0) + 4 * (600 - (r.length + 1))
            have : wt 2 = 5 := rfl; have : wt 3 = 3 := rfl; have : wt 43 = 0 := rfl; omega
      · refine Ok_ret (show Ok _ _ _ from ?_)
        refine Ok_ifz0 ?_
        refine Kp_wrap C_t4 I_n_t4.1 I_n_t4.2.1 f_n_t4 I_n_t4.2.2.1 (by omega) (by omega) (by decide) (fun t22 C_t22 X_t22 a_t22 b_t22 d_t22 w_t22 u_t22 v_t22 j_t22 l_t22 => ?_)
        have e_t22 := C_t22.2.2.2.1
        rw [a_t4] at a_t22
        rw [b_t4] at b_t22
        rw [d_t4] at d_t22
        rw [w_t4] at w_t22
        rw [u_t4] at u_t22
        rw [v_t4] at v_t22
        clear d_t4 w_t4 u_t4 v_t4 e_t4
        have I_n_t22 := I_n_t4.le X_t22 (by omega)
        have f_n_t22 := f_n_t4.ex I_n_t4 (X_t22 0 (Nat.zero_le _))
        have u_n_t22 := u_n_t4.ex I_n_t4 (X_t22 0 (Nat.zero_le _))
        have I_m_mdt4_t22 : Nq t22 (m_md t4) := Nq.wrn j_t22 (by omega) I_n_t4 (by decide)
        have f_m_mdt4_t22 : Fz t22 (m_md t4) := by unfold Fz; rw [j_t22.2.1]; exact j_t22.2.2.1
        have la_n_t22 : m_la t22 n = (m_md t4) + 1 := j_t22.2.2.2.2.2.2.2.1
        have wl_n_t22 : m_wh t22 (m_md t4) = 56 := j_t22.1
        have z_t23 : m_at t22 < m_ct t22 := lo_ne (Nat.ne_of_gt (show 0 < lo t22 (m_at t22) from by omega))
        refine Kp_at C_t22 (fun t23 C_t23 X_t23 a_t23 b_t23 d_t23 w_t23 u_t23 v_t23 j_t23 l_t23 => ?_)
        have e_t23 := C_t23.2.2.2.1
        rw [a_t22] at a_t23
        rw [b_t22] at b_t23
        rw [d_t22] at d_t23
        rw [w_t22] at w_t23
        rw [u_t22] at u_t23
        rw [v_t22] at v_t23
        rw [a_t22, e_t22] at z_t23
        clear d_t22 w_t22 u_t22 v_t22 e_t22 a_t22 b_t22
        have I_n_t23 := I_n_t22.flat X_t23
        have f_n_t23 := f_n_t22.ex I_n_t22 (X_t23 0)
        have u_n_t23 := u_n_t22.ex I_n_t22 (X_t23 0)
        have I_m_mdt4_t23 := I_m_mdt4_t22.flat X_t23
        have f_m_mdt4_t23 := f_m_mdt4_t22.ex I_m_mdt4_t22 (X_t23 0)
        have la_n_t23 : m_la t23 n = (m_md t4) + 1 := by rw [j_t23.2.2.1]; exact la_n_t22
        have wl_n_t23 : m_wh t23 ((m_md t4)) = 56 := by rw [j_t23.1]; exact wl_n_t22
        clear la_n_t22 wl_n_t22
        refine Ok_ck (show t < 2147483648 from by omega) ?_
        refine Ok_ifz (f6_has _ _) (fun q => ?_) (fun q => absurd hk2 q)
        refine Ok_ck (show t < 2147483648 from by omega) ?_
        refine Ok_ifz (f6_has _ _) (fun q => absurd q hk3) (fun q => ?_)
        refine Kp_child C_t23 I_m_mdt4_t23.1 I_m_mdt4_t23.2.1 I_m_mdt4_t23.2.2.1 (by omega) (by omega) (by decide) (by decide) (fun t24 C_t24 X_t24 a_t24 b_t24 d_t24 w_t24 u_t24 v_t24 j_t24 l_t24 => ?_)
        have e_t24 := C_t24.2.2.2.1
        rw [a_t23] at a_t24
        rw [b_t23] at b_t24
        rw [d_t23] at d_t24
        rw [w_t23] at w_t24
        rw [u_t23] at u_t24
        rw [v_t23] at v_t24
        clear d_t23 w_t23 u_t23 v_t23 e_t23 a_t23
        have I_n_t24 := I_n_t23.chd X_t24 j_t24
        have f_n_t24 := f_n_t23.ex I_n_t23 (X_t24 0 (Nat.zero_le _))
        have u_n_t24 := u_n_t23.ex I_n_t23 (X_t24 0 (Nat.zero_le _))
        have I_m_mdt4_t24 := I_m_mdt4_t23.chd X_t24 j_t24
        have f_m_mdt4_t24 := f_m_mdt4_t23.ex I_m_mdt4_t23 (X_t24 0 (Nat.zero_le _))
        have la_n_t24 : m_la t24 n = (m_md t4) + 1 := by rw [(j_t24.2.2.2.2.2.2.2.1 n I_n_t23.1 (by omega)).1]; exact la_n_t23
        have wl_n_t24 : m_wh t24 ((m_md t4)) = 56 := by rw [(j_t24.2.2.2.2.2.2.1 ((m_md t4)) (by omega)).2]; exact wl_n_t23
        clear la_n_t23 wl_n_t23
        have f_m_mdt4_t24 : Fz t24 (m_md t4) := j_t24.2.2.2.2.1
        have I_m_mdt23_t24 : Nq t24 (m_md t23) := Nq.chn j_t24 (by omega) I_m_mdt4_t23 (by decide)
        have u_m_mdt23_t24 : Up t24 (m_md t23) := Or.inl j_t24.2.1
        have la_m_mdt4_t24 : m_la t24 (m_md t4) = (m_md t23) + 1 := j_t24.2.2.2.2.2.1
        have wl_m_mdt4_t24 : m_wh t24 (m_md t23) = 13 := j_t24.1
        refine Kp_push C_t24 (by omega) (fun t25 C_t25 X_t25 a_t25 b_t25 d_t25 w_t25 u_t25 v_t25 j_t25 l_t25 => ?_)
        have e_t25 := C_t25.2.2.2.1
        rw [a_t24] at a_t25
        rw [b_t24] at b_t25
        rw [d_t24] at d_t25
        rw [w_t24] at w_t25
        rw [u_t24] at u_t25
        rw [v_t24] at v_t25
        clear d_t24 w_t24 u_t24 v_t24 e_t24 a_t24 b_t24
        have I_n_t25 := I_n_t24.flat X_t25
        have f_n_t25 := f_n_t24.ex I_n_t24 (X_t25 0)
        have u_n_t25 := u_n_t24.ex I_n_t24 (X_t25 0)
        have I_m_mdt4_t25 := I_m_mdt4_t24.flat X_t25
        have f_m_mdt4_t25 := f_m_mdt4_t24.ex I_m_mdt4_t24 (X_t25 0)
        have I_m_mdt23_t25 := I_m_mdt23_t24.flat X_t25
        have u_m_mdt23_t25 := u_m_mdt23_t24.ex I_m_mdt23_t24 (X_t25 0)
        have la_n_t25 : m_la t25 n = (m_md t4) + 1 := by rw [j_t25.2.2.1]; exact la_n_t24
        have wl_n_t25 : m_wh t25 ((m_md t4)) = 56 := by rw [j_t25.1]; exact wl_n_t24
        clear la_n_t24 wl_n_t24
        have la_m_mdt4_t25 : m_la t25 (m_md t4) = (m_md t23) + 1 := by rw [j_t25.2.2.1]; exact la_m_mdt4_t24
        have wl_m_mdt4_t25 : m_wh t25 ((m_md t23)) = 13 := by rw [j_t25.1]; exact wl_m_mdt4_t24
        clear la_m_mdt4_t24 wl_m_mdt4_t24
        refine Ok_bnc ?_
        try unfold b_X6_operand
        refine Kp_look C_t25 hT (by omega) ?_
        refine Ok_ifl (by decide) (Nat.lt_trans (lo_lt (C_t25.tk hT) _) (by decide)) (fun q27 => ?_) (fun q27 => ?_)
        · refine Ok_ifl (by decide) (Nat.lt_trans (lo_lt (C_t25.tk hT) _) (by decide)) (fun q28 => ?_) (fun q28 => ?_)
          · refine Ok_ife (Nat.lt_trans (lo_lt (C_t25.tk hT) _) (by decide)) (by decide) (fun q29 => ?_) (fun q29 => ?_)
            · refine Ok_bnc ?_
              try unfold b_X6_name
              refine Kp_look C_t25 hT (by omega) ?_
              refine Ok_ife (Nat.lt_trans (lo_lt (C_t25.tk hT) _) (by decide)) (by decide) (fun q => ?_) (fun q => absurd q29 q)
              refine Kp_child C_t25 I_m_mdt23_t25.1 I_m_mdt23_t25.2.1 I_m_mdt23_t25.2.2.1 (by omega) (by omega) (by decide) (by decide) (fun t31 C_t31 X_t31 a_t31 b_t31 d_t31 w_t31 u_t31 v_t31 j_t31 l_t31 => ?_)
              have e_t31 := C_t31.2.2.2.1
              rw [a_t25] at a_t31
              rw [b_t25] at b_t31
              rw [d_t25] at d_t31
              rw [w_t25] at w_t31
              rw [u_t25] at u_t31
              rw [v_t25] at v_t31
              clear d_t25 w_t25 u_t25 v_t25 e_t25 a_t25
              have I_n_t31 := I_n_t25.chd X_t31 j_t31
              have f_n_t31 := f_n_t25.ex I_n_t25 (X_t31 0 (Nat.zero_le _))
              have u_n_t31 := u_n_t25.ex I_n_t25 (X_t31 0 (Nat.zero_le _))
              have I_m_mdt4_t31 := I_m_mdt4_t25.chd X_t31 j_t31
              have f_m_mdt4_t31 := f_m_mdt4_t25.ex I_m_mdt4_t25 (X_t31 0 (Nat.zero_le _))
              have I_m_mdt23_t31 := I_m_mdt23_t25.chd X_t31 j_t31
              have u_m_mdt23_t31 := u_m_mdt23_t25.ex I_m_mdt23_t25 (X_t31 0 (Nat.zero_le _))
              have la_n_t31 : m_la t31 n = (m_md t4) + 1 := by rw [(j_t31.2.2.2.2.2.2.2.1 n I_n_t25.1 (by omega)).1]; exact la_n_t25
              have wl_n_t31 : m_wh t31 ((m_md t4)) = 56 := by rw [(j_t31.2.2.2.2.2.2.1 ((m_md t4)) (by omega)).2]; exact wl_n_t25
              clear la_n_t25 wl_n_t25
              have la_m_mdt4_t31 : m_la t31 (m_md t4) = (m_md t23) + 1 := by rw [(j_t31.2.2.2.2.2.2.2.1 (m_md t4) I_m_mdt4_t25.1 (by omega)).1]; exact la_m_mdt4_t25
              have wl_m_mdt4_t31 : m_wh t31 ((m_md t23)) = 13 := by rw [(j_t31.2.2.2.2.2.2.1 ((m_md t23)) (by omega)).2]; exact wl_m_mdt4_t25
              clear la_m_mdt4_t25 wl_m_mdt4_t25
              have f_m_mdt23_t31 : Fz t31 (m_md t23) := j_t31.2.2.2.2.1
              have I_m_mdt25_t31 : Nq t31 (m_md t25) := Nq.chn j_t31 (by omega) I_m_mdt23_t25 (by decide)
              have u_m_mdt25_t31 : Up t31 (m_md t25) := Or.inl j_t31.2.1
              have la_m_mdt23_t31 : m_la t31 (m_md t23) = (m_md t25) + 1 := j_t31.2.2.2.2.2.1
              have wl_m_mdt23_t31 : m_wh t31 (m_md t25) = 5 := j_t31.1
              have z_t32 : m_at t31 < m_ct t31 := lo_ne (Nat.ne_of_gt (show 0 < lo t31 (m_at t31) from by omega))
              refine Kp_at C_t31 (fun t32 C_t32 X_t32 a_t32 b_t32 d_t32 w_t32 u_t32 v_t32 j_t32 l_t32 => ?_)
              have e_t32 := C_t32.2.2.2.1
              rw [a_t31] at a_t32
              rw [b_t31] at b_t32
              rw [d_t31] at d_t32
              rw [w_t31] at w_t32
              rw [u_t31] at u_t32
              rw [v_t31] at v_t32
              rw [a_t31, e_t31] at z_t32
              clear z_t23
              clear d_t31 w_t31 u_t31 v_t31 e_t31 a_t31 b_t31
              have I_n_t32 := I_n_t31.flat X_t32
              have f_n_t32 := f_n_t31.ex I_n_t31 (X_t32 0)
              have u_n_t32 := u_n_t31.ex I_n_t31 (X_t32 0)
              have I_m_mdt4_t32 := I_m_mdt4_t31.flat X_t32
              have f_m_mdt4_t32 := f_m_mdt4_t31.ex I_m_mdt4_t31 (X_t32 0)
              have I_m_mdt23_t32 := I_m_mdt23_t31.flat X_t32
              have f_m_mdt23_t32 := f_m_mdt23_t31.ex I_m_mdt23_t31 (X_t32 0)
              have u_m_mdt23_t32 := u_m_mdt23_t31.ex I_m_mdt23_t31 (X_t32 0)
              have I_m_mdt25_t32 := I_m_mdt25_t31.flat X_t32
              have u_m_mdt25_t32 := u_m_mdt25_t31.ex I_m_mdt25_t31 (X_t32 0)
              have la_n_t32 : m_la t32 n = (m_md t4) + 1 := by rw [j_t32.2.2.1]; exact la_n_t31
              have wl_n_t32 : m_wh t32 ((m_md t4)) = 56 := by rw [j_t32.1]; exact wl_n_t31
              clear la_n_t31 wl_n_t31
              have la_m_mdt4_t32 : m_la t32 (m_md t4) = (m_md t23) + 1 := by rw [j_t32.2.2.1]; exact la_m_mdt4_t31
              have wl_m_mdt4_t32 : m_wh t32 ((m_md t23)) = 13 := by rw [j_t32.1]; exact wl_m_mdt4_t31
              clear la_m_mdt4_t31 wl_m_mdt4_t31
              have la_m_mdt23_t32 : m_la t32 (m_md t23) = (m_md t25) + 1 := by rw [j_t32.2.2.1]; exact la_m_mdt23_t31
              have wl_m_mdt23_t32 : m_wh t32 ((m_md t25)) = 5 := by rw [j_t32.1]; exact wl_m_mdt23_t31
              clear la_m_mdt23_t31 wl_m_mdt23_t31
              refine Ok_ret (show Ok _ _ _ from ?_)
              refine Kp_push C_t32 (by omega) (fun t33 C_t33 X_t33 a_t33 b_t33 d_t33 w_t33 u_t33 v_t33 j_t33 l_t33 => ?_)
              have e_t33 := C_t33.2.2.2.1
              rw [a_t32] at a_t33
              rw [b_t32] at b_t33
              rw [d_t32] at d_t33
              rw [w_t32] at w_t33
              rw [u_t32] at u_t33
              rw [v_t32] at v_t33
              clear d_t32 w_t32 u_t32 v_t32 e_t32 a_t32 b_t32
              have I_n_t33 := I_n_t32.flat X_t33
              have f_n_t33 := f_n_t32.ex I_n_t32 (X_t33 0)
              have u_n_t33 := u_n_t32.ex I_n_t32 (X_t33 0)
              have I_m_mdt4_t33 := I_m_mdt4_t32.flat X_t33
              have f_m_mdt4_t33 := f_m_mdt4_t32.ex I_m_mdt4_t32 (X_t33 0)
              have I_m_mdt23_t33 := I_m_mdt23_t32.flat X_t33
              have f_m_mdt23_t33 := f_m_mdt23_t32.ex I_m_mdt23_t32 (X_t33 0)
              have u_m_mdt23_t33 := u_m_mdt23_t32.ex I_m_mdt23_t32 (X_t33 0)
              have I_m_mdt25_t33 := I_m_mdt25_t32.flat X_t33
              have u_m_mdt25_t33 := u_m_mdt25_t32.ex I_m_mdt25_t32 (X_t33 0)
              have la_n_t33 : m_la t33 n = (m_md t4) + 1 := by rw [j_t33.2.2.1]; exact la_n_t32
              have wl_n_t33 : m_wh t33 ((m_md t4)) = 56 := by rw [j_t33.1]; exact wl_n_t32
              clear la_n_t32 wl_n_t32
              have la_m_mdt4_t33 : m_la t33 (m_md t4) = (m_md t23) + 1 := by rw [j_t33.2.2.1]; exact la_m_mdt4_t32
              have wl_m_mdt4_t33 : m_wh t33 ((m_md t23)) = 13 := by rw [j_t33.1]; exact wl_m_mdt4_t32
              clear la_m_mdt4_t32 wl_m_mdt4_t32
              have la_m_mdt23_t33 : m_la t33 (m_md t23) = (m_md t25) + 1 := by rw [j_t33.2.2.1]; exact la_m_mdt23_t32
              have wl_m_mdt23_t33 : m_wh t33 ((m_md t25)) = 5 := by rw [j_t33.1]; exact wl_m_mdt23_t32
              clear la_m_mdt23_t32 wl_m_mdt23_t32
              refine Ok_ret (show Ok _ _ _ from ?_)
              refine Ok_ret (show Ok _ _ _ from ?_)
              refine Hv_mk (Kv_c (x := (5, m_md t23, 3)) rfl (Kv_c (x := (4, m_md t23, 3)) rfl hK)) (C_t33.1.2.2.2.2.2.2 hTt) C_t33 hT (by omega) (by omega) (by omega) ?_ ?_ ?_ (by omega) ?_ ?_ ?_
              · exact ⟨(Io_n (by decide) (by decide) I_m_mdt23_t33.1 I_m_mdt23_t33.2.1 I_m_mdt23_t33.2.2.1 (fun q => absurd q (by decide)) (fun q => absurd q (by decide)) I_m_mdt23_t33.2.2.2), (Nd_5 Mo_nil (Or.inr (N5_mk f_m_mdt23_t33 (Ab_none rfl) la_m_mdt23_t33 wl_m_mdt23_t33 (Or.inl (by decide))))), ⟨(Io_n (by decide) (by decide) I_m_mdt23_t33.1 I_m_mdt23_t33.2.1 I_m_mdt23_t33.2.2.1 (fun q => absurd q (by decide)) (fun q => absurd q (by decide)) I_m_mdt23_t33.2.2.2), (Nd_A (by decide) (Mo_cons (fun q => show m_md t23 ≤ m_md t23 from by omega) Mo_nil) (Or.inl f_m_mdt23_t33)), Stk_step (N := n) (pop := (43, n, t)) (new := [(4, m_md t23, 3), (5, m_md t23, 3)]) F0 C_t33.1.to2 (fun (h : nk 43 = false) => absurd h (by decide)) (fun q _ h => h (43, n, t) rfl) (fun _ => rfl) (fun y hy hk => ⟨rfl, (Mo_cons (fun q => show n ≤ m_md t23 from by omega) (Mo_cons (fun q => show n ≤ m_md t23 from by omega) Mo_nil)) y hy hk⟩) (fun (h : 43 = 3 ∨ 43 = 18 ∨ 43 = 41) => absurd h (by decide)) (fun (h : 43 = 18) => absurd h (by decide)) (fun _ h16 => (Or.inr ⟨f_n_t33, (Ab_some (y := (4, m_md t23, 3)) rfl (show n < m_md t23 from by omega)), H50_no la_n_t33 wl_n_t33 (by decide)⟩)) r [] (fun y hy => absurd hy List.not_mem_nil) hS⟩⟩
              · exact (Aj_up (x := (5, m_md t23, 3)) (Aj_sub (y := (4, m_md t23, 3)) hJ (Nat.le_of_ble_eq_true rfl)) (Or.inr (Nat.le_of_ble_eq_true rfl)))
              · show m_dp t33 = (dlt 5 + (dlt 4 + sD r))
                have : dlt 4 = 0 := rfl; have : dlt 43 = 0 := rfl; have : dlt 5 = 0 := rfl; omega
              · show m_rw t33 = (rho 5 + (rho 4 + sR r))
                have : rho 4 = 0 := rfl; have : rho 43 = 0 := rfl; have : rho 5 = 0 := rfl; omega
              · show m_md t33 + (mu7 5 + (mu7 4 + sM r)) ≤ 3 * m_at t33 + 7 * (r.length + 1 + 1) + 10
                have : mu7 4 = 7 := rfl; have : mu7 43 = 4 := rfl; have : mu7 5 = 7 := rfl; omega
              · show (wt 5 + (wt 4 + sW r)) + 6 * (4096 - m_at t33) + 4 * (600 - (r.length + 1 + 1)) < (wt 43 + sW r) + 6 * (4096 - m_at t0) + 4 * (600 - (r.length + 1))
                have : wt 4 = 5 := rfl; have : wt 43 = 0 := rfl; have : wt 5 = 5 := rfl; omega
            · refine Ok_ife (Nat.lt_trans (lo_lt (C_t25.tk hT) _) (by decide)) (by decide) (fun q34 => ?_) (fun q34 => ?_)
              · refine Kp_child C_t25 I_m_mdt23_t25.1 I_m_mdt23_t25.2.1 I_m_mdt23_t25.2.2.1 (by omega) (by omega) (by decide) (by decide) (fun t35 C_t35 X_t35 a_t35 b_t35 d_t35 w_t35 u_t35 v_t35 j_t35 l_t35 => ?_)
                have e_t35 := C_t35.2.2.2.1
                rw [a_t25] at a_t35
                rw [b_t25] at b_t35
                rw [d_t25] at d_t35
                rw [w_t25] at w_t35
                rw [u_t25] at u_t35
                rw [v_t25] at v_t35
                clear d_t25 w_t25 u_t25 v_t25 e_t25 a_t25
                have I_n_t35 := I_n_t25.chd X_t35 j_t35
                have f_n_t35 := f_n_t25.ex I_n_t25 (X_t35 0 (Nat.zero_le _))
                have u_n_t35 := u_n_t25.ex I_n_t25 (X_t35 0 (Nat.zero_le _))
                have I_m_mdt4_t35 := I_m_mdt4_t25.chd X_t35 j_t35
                have f_m_mdt4_t35 := f_m_mdt4_t25.ex I_m_mdt4_t25 (X_t35 0 (Nat.zero_le _))
                have I_m_mdt23_t35 := I_m_mdt23_t25.chd X_t35 j_t35
                have u_m_mdt23_t35 := u_m_mdt23_t25.ex I_m_mdt23_t25 (X_t35 0 (Nat.zero_le _))
                have la_n_t35 : m_la t35 n = (m_md t4) + 1 := by rw [(j_t35.2.2.2.2.2.2.2.1 n I_n_t25.1 (by omega)).1]; exact la_n_t25
                have wl_n_t35 : m_wh t35 ((m_md t4)) = 56 := by rw [(j_t35.2.2.2.2.2.2.1 ((m_md t4)) (by omega)).2]; exact wl_n_t25
                clear la_n_t25 wl_n_t25
                have la_m_mdt4_t35 : m_la t35 (m_md t4) = (m_md t23) + 1 := by rw [(j_t35.2.2.2.2.2.2.2.1 (m_md t4) I_m_mdt4_t25.1 (by omega)).1]; exact la_m_mdt4_t25
                have wl_m_mdt4_t35 : m_wh t35 ((m_md t23)) = 13 := by rw [(j_t35.2.2.2.2.2.2.1 ((m_md t23)) (by omega)).2]; exact wl_m_mdt4_t25
                clear la_m_mdt4_t25 wl_m_mdt4_t25
                have f_m_mdt23_t35 : Fz t35 (m_md t23) := j_t35.2.2.2.2.1
                have I_m_mdt25_t35 : Nq t35 (m_md t25) := Nq.chn j_t35 (by omega) I_m_mdt23_t25 (by decide)
                have u_m_mdt25_t35 : Up t35 (m_md t25) := Or.inl j_t35.2.1
                have la_m_mdt23_t35 : m_la t35 (m_md t23) = (m_md t25) + 1 := j_t35.2.2.2.2.2.1
                have wl_m_mdt23_t35 : m_wh t35 (m_md t25) = 89 := j_t35.1
                refine Kp_more C_t35 (by omega) (by omega) (fun t36 C_t36 X_t36 a_t36 b_t36 d_t36 w_t36 u_t36 v_t36 j_t36 l_t36 => ?_)
                have e_t36 := C_t36.2.2.2.1
                rcases w_t36 with ⟨w_t36, y_t36⟩ | ⟨w_t36, wb_t36⟩
                · rw [a_t35] at a_t36
                  rw [b_t35] at b_t36
                  rw [d_t35] at d_t36
                  rw [w_t35] at w_t36
                  rw [u_t35] at u_t36
                  rw [v_t35] at v_t36
                  rw [d_t36] at y_t36
                  clear d_t35 w_t35 u_t35 v_t35 e_t35 a_t35 b_t35
                  have I_n_t36 := I_n_t35.flat X_t36
                  have f_n_t36 := f_n_t35.ex I_n_t35 (X_t36 0)
                  have u_n_t36 := u_n_t35.ex I_n_t35 (X_t36 0)
                  have I_m_mdt4_t36 := I_m_mdt4_t35.flat X_t36
                  have f_m_mdt4_t36 := f_m_mdt4_t35.ex I_m_mdt4_t35 (X_t36 0)
                  have I_m_mdt23_t36 := I_m_mdt23_t35.flat X_t36
                  have f_m_mdt23_t36 := f_m_mdt23_t35.ex I_m_mdt23_t35 (X_t36 0)
                  have u_m_mdt23_t36 := u_m_mdt23_t35.ex I_m_mdt23_t35 (X_t36 0)
                  have I_m_mdt25_t36 := I_m_mdt25_t35.flat X_t36
                  have u_m_mdt25_t36 := u_m_mdt25_t35.ex I_m_mdt25_t35 (X_t36 0)
                  have la_n_t36 : m_la t36 n = (m_md t4) + 1 := by rw [j_t36.2.2.1]; exact la_n_t35
                  have wl_n_t36 : m_wh t36 ((m_md t4)) = 56 := by rw [j_t36.1]; exact wl_n_t35
                  clear la_n_t35 wl_n_t35
                  have la_m_mdt4_t36 : m_la t36 (m_md t4) = (m_md t23) + 1 := by rw [j_t36.2.2.1]; exact la_m_mdt4_t35
                  have wl_m_mdt4_t36 : m_wh t36 ((m_md t23)) = 13 := by rw [j_t36.1]; exact wl_m_mdt4_t35
                  clear la_m_mdt4_t35 wl_m_mdt4_t35
                  have la_m_mdt23_t36 : m_la t36 (m_md t23) = (m_md t25) + 1 := by rw [j_t36.2.2.1]; exact la_m_mdt23_t35
                  have wl_m_mdt23_t36 : m_wh t36 ((m_md t25)) = 89 := by rw [j_t36.1]; exact wl_m_mdt23_t35
                  clear la_m_mdt23_t35 wl_m_mdt23_t35
                  have z_t37 : m_at t36 < m_ct t36 := lo_ne (Nat.ne_of_gt (show 0 < lo t36 (m_at t36) from by omega))
                  refine Kp_at C_t36 (fun t37 C_t37 X_t37 a_t37 b_t37 d_t37 w_t37 u_t37 v_t37 j_t37 l_t37 => ?_)
                  have e_t37 := C_t37.2.2.2.1
                  rw [a_t36] at a_t37
                  rw [b_t36] at b_t37
                  rw [d_t36] at d_t37
                  rw [w_t36] at w_t37
                  rw [u_t36] at u_t37
                  rw [v_t36] at v_t37
                  rw [a_t36, e_t36] at z_t37
                  clear z_t23
                  clear d_t36 w_t36 u_t36 v_t36 e_t36 a_t36 b_t36
                  have I_n_t37 := I_n_t36.flat X_t37
                  have f_n_t37 := f_n_t36.ex I_n_t36 (X_t37 0)
                  have u_n_t37 := u_n_t36.ex I_n_t36 (X_t37 0)
                  have I_m_mdt4_t37 := I_m_mdt4_t36.flat X_t37
                  have f_m_mdt4_t37 := f_m_mdt4_t36.ex I_m_mdt4_t36 (X_t37 0)
                  have I_m_mdt23_t37 := I_m_mdt23_t36.flat X_t37
                  have f_m_mdt23_t37 := f_m_mdt23_t36.ex I_m_mdt23_t36 (X_t37 0)
                  have u_m_mdt23_t37 := u_m_mdt23_t36.ex I_m_mdt23_t36 (X_t37 0)
                  have I_m_mdt25_t37 := I_m_mdt25_t36.flat X_t37
                  have u_m_mdt25_t37 := u_m_mdt25_t36.ex I_m_mdt25_t36 (X_t37 0)
                  have la_n_t37 : m_la t37 n = (m_md t4) + 1 := by rw [j_t37.2.2.1]; exact la_n_t36
                  have wl_n_t37 : m_wh t37 ((m_md t4)) = 56 := by rw [j_t37.1]; exact wl_n_t36
                  clear la_n_t36 wl_n_t36
                  have la_m_mdt4_t37 : m_la t37 (m_md t4) = (m_md t23) + 1 := by rw [j_t37.2.2.1]; exact la_m_mdt4_t36
                  have wl_m_mdt4_t37 : m_wh t37 ((m_md t23)) = 13 := by rw [j_t37.1]; exact wl_m_mdt4_t36
                  clear la_m_mdt4_t36 wl_m_mdt4_t36
                  have la_m_mdt23_t37 : m_la t37 (m_md t23) = (m_md t25) + 1 := by rw [j_t37.2.2.1]; exact la_m_mdt23_t36
                  have wl_m_mdt23_t37 : m_wh t37 ((m_md t25)) = 89 := by rw [j_t37.1]; exact wl_m_mdt23_t36
                  clear la_m_mdt23_t36 wl_m_mdt23_t36
                  refine Kp_push C_t37 (by omega) (fun t38 C_t38 X_t38 a_t38 b_t38 d_t38 w_t38 u_t38 v_t38 j_t38 l_t38 => ?_)
                  have e_t38 := C_t38.2.2.2.1
                  rw [a_t37] at a_t38
                  rw [b_t37] at b_t38
                  rw [d_t37] at d_t38
                  rw [w_t37] at w_t38
                  rw [u_t37] at u_t38
                  rw [v_t37] at v_t38
                  clear d_t37 w_t37 u_t37 v_t37 e_t37 a_t37 b_t37
                  have I_n_t38 := I_n_t37.flat X_t38
                  have f_n_t38 := f_n_t37.ex I_n_t37 (X_t38 0)
                  have u_n_t38 := u_n_t37.ex I_n_t37 (X_t38 0)
                  have I_m_mdt4_t38 := I_m_mdt4_t37.flat X_t38
                  have f_m_mdt4_t38 := f_m_mdt4_t37.ex I_m_mdt4_t37 (X_t38 0)
                  have I_m_mdt23_t38 := I_m_mdt23_t37.flat X_t38
                  have f_m_mdt23_t38 := f_m_mdt23_t37.ex I_m_mdt23_t37 (X_t38 0)
                  have u_m_mdt23_t38 := u_m_mdt23_t37.ex I_m_mdt23_t37 (X_t38 0)
                  have I_m_mdt25_t38 := I_m_mdt25_t37.flat X_t38
                  have u_m_mdt25_t38 := u_m_mdt25_t37.ex I_m_mdt25_t37 (X_t38 0)
                  have la_n_t38 : m_la t38 n = (m_md t4) + 1 := by rw [j_t38.2.2.1]; exact la_n_t37
                  have wl_n_t38 : m_wh t38 ((m_md t4)) = 56 := by rw [j_t38.1]; exact wl_n_t37
                  clear la_n_t37 wl_n_t37
                  have la_m_mdt4_t38 : m_la t38 (m_md t4) = (m_md t23) + 1 := by rw [j_t38.2.2.1]; exact la_m_mdt4_t37
                  have wl_m_mdt4_t38 : m_wh t38 ((m_md t23)) = 13 := by rw [j_t38.1]; exact wl_m_mdt4_t37
                  clear la_m_mdt4_t37 wl_m_mdt4_t37
                  have la_m_mdt23_t38 : m_la t38 (m_md t23) = (m_md t25) + 1 := by rw [j_t38.2.2.1]; exact la_m_mdt23_t37
                  have wl_m_mdt23_t38 : m_wh t38 ((m_md t25)) = 89 := by rw [j_t38.1]; exact wl_m_mdt23_t37
                  clear la_m_mdt23_t37 wl_m_mdt23_t37
                  refine Ok_bnc ?_
                  try unfold b_X6_expression
                  refine Kp_push C_t38 (by omega) (fun t40 C_t40 X_t40 a_t40 b_t40 d_t40 w_t40 u_t40 v_t40 j_t40 l_t40 => ?_)
                  have e_t40 := C_t40.2.2.2.1
                  rw [a_t38] at a_t40
                  rw [b_t38] at b_t40
                  rw [d_t38] at d_t40
                  rw [w_t38] at w_t40
                  rw [u_t38] at u_t40
                  rw [v_t38] at v_t40
                  clear d_t38 w_t38 u_t38 v_t38 e_t38 a_t38 b_t38
                  have I_n_t40 := I_n_t38.flat X_t40
                  have f_n_t40 := f_n_t38.ex I_n_t38 (X_t40 0)
                  have u_n_t40 := u_n_t38.ex I_n_t38 (X_t40 0)
                  have I_m_mdt4_t40 := I_m_mdt4_t38.flat X_t40
                  have f_m_mdt4_t40 := f_m_mdt4_t38.ex I_m_mdt4_t38 (X_t40 0)
                  have I_m_mdt23_t40 := I_m_mdt23_t38.flat X_t40
                  have f_m_mdt23_t40 := f_m_mdt23_t38.ex I_m_mdt23_t38 (X_t40 0)
                  have u_m_mdt23_t40 := u_m_mdt23_t38.ex I_m_mdt23_t38 (X_t40 0)
                  have I_m_mdt25_t40 := I_m_mdt25_t38.flat X_t40
                  have u_m_mdt25_t40 := u_m_mdt25_t38.ex I_m_mdt25_t38 (X_t40 0)
                  have la_n_t40 : m_la t40 n = (m_md t4) + 1 := by rw [j_t40.2.2.1]; exact la_n_t38
                  have wl_n_t40 : m_wh t40 ((m_md t4)) = 56 := by rw [j_t40.1]; exact wl_n_t38
                  clear la_n_t38 wl_n_t38
                  have la_m_mdt4_t40 : m_la t40 (m_md t4) = (m_md t23) + 1 := by rw [j_t40.2.2.1]; exact la_m_mdt4_t38
                  have wl_m_mdt4_t40 : m_wh t40 ((m_md t23)) = 13 := by rw [j_t40.1]; exact wl_m_mdt4_t38
                  clear la_m_mdt4_t38 wl_m_mdt4_t38
                  have la_m_mdt23_t40 : m_la t40 (m_md t23) = (m_md t25) + 1 := by rw [j_t40.2.2.1]; exact la_m_mdt23_t38
                  have wl_m_mdt23_t40 : m_wh t40 ((m_md t25)) = 89 := by rw [j_t40.1]; exact wl_m_mdt23_t38
                  clear la_m_mdt23_t38 wl_m_mdt23_t38
                  refine Kp_push C_t40 (by omega) (fun t41 C_t41 X_t41 a_t41 b_t41 d_t41 w_t41 u_t41 v_t41 j_t41 l_t41 => ?_)
                  have e_t41 := C_t41.2.2.2.1
                  rw [a_t40] at a_t41
                  rw [b_t40] at b_t41
                  rw [d_t40] at d_t41
                  rw [w_t40] at w_t41
                  rw [u_t40] at u_t41
                  rw [v_t40] at v_t41
                  clear d_t40 w_t40 u_t40 v_t40 e_t40 a_t40 b_t40
                  have I_n_t41 := I_n_t40.flat X_t41
                  have f_n_t41 := f_n_t40.ex I_n_t40 (X_t41 0)
                  have u_n_t41 := u_n_t40.ex I_n_t40 (X_t41 0)
                  have I_m_mdt4_t41 := I_m_mdt4_t40.flat X_t41
                  have f_m_mdt4_t41 := f_m_mdt4_t40.ex I_m_mdt4_t40 (X_t41 0)
                  have I_m_mdt23_t41 := I_m_mdt23_t40.flat X_t41
                  have f_m_mdt23_t41 := f_m_mdt23_t40.ex I_m_mdt23_t40 (X_t41 0)
                  have u_m_mdt23_t41 := u_m_mdt23_t40.ex I_m_mdt23_t40 (X_t41 0)
                  have I_m_mdt25_t41 := I_m_mdt25_t40.flat X_t41
                  have u_m_mdt25_t41 := u_m_mdt25_t40.ex I_m_mdt25_t40 (X_t41 0)
                  have la_n_t41 : m_la t41 n = (m_md t4) + 1 := by rw [j_t41.2.2.1]; exact la_n_t40
                  have wl_n_t41 : m_wh t41 ((m_md t4)) = 56 := by rw [j_t41.1]; exact wl_n_t40
                  clear la_n_t40 wl_n_t40
                  have la_m_mdt4_t41 : m_la t41 (m_md t4) = (m_md t23) + 1 := by rw [j_t41.2.2.1]; exact la_m_mdt4_t40
                  have wl_m_mdt4_t41 : m_wh t41 ((m_md t23)) = 13 := by rw [j_t41.1]; exact wl_m_mdt4_t40
                  clear la_m_mdt4_t40 wl_m_mdt4_t40
                  have la_m_mdt23_t41 : m_la t41 (m_md t23) = (m_md t25) + 1 := by rw [j_t41.2.2.1]; exact la_m_mdt23_t40
                  have wl_m_mdt23_t41 : m_wh t41 ((m_md t25)) = 89 := by rw [j_t41.1]; exact wl_m_mdt23_t40
                  clear la_m_mdt23_t40 wl_m_mdt23_t40
                  refine Ok_ret (show Ok _ _ _ from ?_)
                  refine Ok_ret (show Ok _ _ _ from ?_)
                  refine Ok_ret (show Ok _ _ _ from ?_)
                  refine Hv_mk (Kv_c (x := (3, m_md t25, 0)) rfl (Kv_c (x := (2, m_md t25, 0 ||| (1 * 256))) rfl (Kv_c (x := (8, 79, 0)) rfl (Kv_c (x := (4, m_md t23, 3)) rfl hK)))) (C_t41.1.2.2.2.2.2.2 hTt) C_t41 hT (by omega) (by omega) (by omega) ?_ ?_ ?_ (by omega) ?_ ?_ ?_
                  · exact ⟨(Io_n (by decide) (by decide) I_m_mdt25_t41.1 I_m_mdt25_t41.2.1 I_m_mdt25_t41.2.2.1 (fun q => absurd q (by decide)) (fun q => absurd q (by decide)) I_m_mdt25_t41.2.2.2), (Nd_0 (by decide) Mo_nil), ⟨(Io_2 (by have := or_256 (b := 1) (show 0 < 256 from by omega); omega) (by have := or_256 (b := 1) (show 0 < 256 from by omega); omega) (by have := or_256 (b := 1) (show 0 < 256 from by omega); omega) I_m_mdt25_t41.1 I_m_mdt25_t41.2.1 I_m_mdt25_t41.2.2.1 I_m_mdt25_t41.2.2.2), (Nd_A (by decide) (Mo_cons (fun q => show m_md t25 ≤ m_md t25 from by omega) Mo_nil) (Or.inr ⟨(3, m_md t25, 0), List.mem_cons_self, rfl, Or.inl rfl⟩)), ⟨(Io_78 (by decide) (by decide) (by decide)), (Nd_x (by decide)), ⟨(Io_n (by decide) (by decide) I_m_mdt23_t41.1 I_m_mdt23_t41.2.1 I_m_mdt23_t41.2.2.1 (fun q => absurd q (by decide)) (fun q => absurd q (by decide)) I_m_mdt23_t41.2.2.2), (Nd_A (by decide) (Mo_cons (fun q => absurd (show nk 8 = true from q) (by decide)) (Mo_cons (fun q => show m_md t23 ≤ m_md t25 from by omega) (Mo_cons (fun q => show m_md t23 ≤ m_md t25 from by omega) Mo_nil))) (Or.inl f_m_mdt23_t41)), Stk_step (N := n) (pop := (43, n, t)) (new := [(4, m_md t23, 3), (8, 79, 0), (2, m_md t25, 0 ||| (1 * 256)), (3, m_md t25, 0)]) F0 C_t41.1.to2 (fun (h : nk 43 = false) => absurd h (by decide)) (fun q _ h => h (43, n, t) rfl) (fun _ => rfl) (fun y hy hk => ⟨rfl, (Mo_cons (fun q => show n ≤ m_md t23 from by omega) (Mo_cons (fun q => absurd (show nk 8 = true from q) (by decide)) (Mo_cons (fun q => show n ≤ m_md t25 from by omega) (Mo_cons (fun q => show n ≤ m_md t25 from by omega) Mo_nil)))) y hy hk⟩) (fun (h : 43 = 3 ∨ 43 = 18 ∨ 43 = 41) => absurd h (by decide)) (fun (h : 43 = 18) => absurd h (by decide)) (fun _ h16 => (Or.inr ⟨f_n_t41, (Ab_some (y := (4, m_md t23, 3)) rfl (show n < m_md t23 from by omega)), H50_no la_n_t41 wl_n_t41 (by decide)⟩)) r [] (fun y hy => absurd hy List.not_mem_nil) hS⟩⟩⟩⟩
                  · exact (Aj_up (x := (3, m_md t25, 0)) (Aj_up (x := (2, m_md t25, 0 ||| (1 * 256))) (Aj_up (x := (8, 79, 0)) (Aj_sub (y := (4, m_md t23, 3)) hJ (Nat.le_of_ble_eq_true rfl)) (Or.inr (Nat.le_of_ble_eq_true rfl))) (Or.inl (Nat.le_of_ble_eq_true rfl))) (Or.inr (show 2 < 9 - (0 ||| (1 * 256)) / 256 from by have := or_256 (b := 1) (show 0 < 256 from by omega); omega)))
                  · show m_dp t41 = (dlt 3 + (dlt 2 + (dlt 8 + (dlt 4 + sD r))))
                    have : dlt 2 = 0 := rfl; have : dlt 3 = 0 := rfl; have : dlt 4 = 0 := rfl; have : dlt 43 = 0 := rfl; have : dlt 8 = 1 := rfl; omega
                  · show m_rw t41 = (rho 3 + (rho 2 + (rho 8 + (rho 4 + sR r))))
                    have : rho 2 = 0 := rfl; have : rho 3 = 0 := rfl; have : rho 4 = 0 := rfl; have : rho 43 = 0 := rfl; have : rho 8 = 0 := rfl; omega
                  · show m_md t41 + (mu7 3 + (mu7 2 + (mu7 8 + (mu7 4 + sM r)))) ≤ 3 * m_at t41 + 7 * (r.length + 1 + 1 + 1 + 1) + 10
                    have : mu7 2 = 7 := rfl; have : mu7 3 = 5 := rfl; have : mu7 4 = 7 := rfl; have : mu7 43 = 4 := rfl; have : mu7 8 = 4 := rfl; omega
                  · show (wt 3 + (wt 2 + (wt 8 + (wt 4 + sW r)))) + 6 * (4096 - m_at t41) + 4 * (600 - (r.length + 1 + 1 + 1 + 1)) < (wt 43 + sW r) + 6 * (4096 - m_at t0) + 4 * (600 - (r.length + 1))
                    have : wt 2 = 5 := rfl; have : wt 3 = 3 := rfl; have : wt 4 = 5 := rfl; have : wt 43 = 0 := rfl; have : wt 8 = 0 := rfl; omega
                · have w_t36 := Nat.pos_of_ne_zero w_t36
                  have I_n_t36 := I_n_t35.flat X_t36
                  have f_n_t36 := f_n_t35.ex I_n_t35 (X_t36 0)
                  have u_n_t36 := u_n_t35.ex I_n_t35 (X_t36 0)
                  have I_m_mdt4_t36 := I_m_mdt4_t35.flat X_t36
                  have f_m_mdt4_t36 := f_m_mdt4_t35.ex I_m_mdt4_t35 (X_t36 0)
                  have I_m_mdt23_t36 := I_m_mdt23_t35.flat X_t36
                  have f_m_mdt23_t36 := f_m_mdt23_t35.ex I_m_mdt23_t35 (X_t36 0)
                  have u_m_mdt23_t36 := u_m_mdt23_t35.ex I_m_mdt23_t35 (X_t36 0)
                  have I_m_mdt25_t36 := I_m_mdt25_t35.flat X_t36
                  have u_m_mdt25_t36 := u_m_mdt25_t35.ex I_m_mdt25_t35 (X_t36 0)
                  have la_n_t36 : m_la t36 n = (m_md t4) + 1 := by rw [j_t36.2.2.1]; exact la_n_t35
                  have wl_n_t36 : m_wh t36 ((m_md t4)) = 56 := by rw [j_t36.1]; exact wl_n_t35
                  clear la_n_t35 wl_n_t35
                  have la_m_mdt4_t36 : m_la t36 (m_md t4) = (m_md t23) + 1 := by rw [j_t36.2.2.1]; exact la_m_mdt4_t35
                  have wl_m_mdt4_t36 : m_wh t36 ((m_md t23)) = 13 := by rw [j_t36.1]; exact wl_m_mdt4_t35
                  clear la_m_mdt4_t35 wl_m_mdt4_t35
                  have la_m_mdt23_t36 : m_la t36 (m_md t23) = (m_md t25) + 1 := by rw [j_t36.2.2.1]; exact la_m_mdt23_t35
                  have wl_m_mdt23_t36 : m_wh t36 ((m_md t25)) = 89 := by rw [j_t36.1]; exact wl_m_mdt23_t35
                  clear la_m_mdt23_t35 wl_m_mdt23_t35
                  refine Kp_at C_t36 (fun t42 C_t42 X_t42 a_t42 b_t42 d_t42 w_t42 u_t42 v_t42 j_t42 l_t42 => ?_)
                  have e_t42 := C_t42.2.2.2.1
                  have I_n_t42 := I_n_t36.flat X_t42
                  have f_n_t42 := f_n_t36.ex I_n_t36 (X_t42 0)
                  have u_n_t42 := u_n_t36.ex I_n_t36 (X_t42 0)
                  have I_m_mdt4_t42 := I_m_mdt4_t36.flat X_t42
                  have f_m_mdt4_t42 := f_m_mdt4_t36.ex I_m_mdt4_t36 (X_t42 0)
                  have I_m_mdt23_t42 := I_m_mdt23_t36.flat X_t42
                  have f_m_mdt23_t42 := f_m_mdt23_t36.ex I_m_mdt23_t36 (X_t42 0)
                  have u_m_mdt23_t42 := u_m_mdt23_t36.ex I_m_mdt23_t36 (X_t42 0)
                  have I_m_mdt25_t42 := I_m_mdt25_t36.flat X_t42
                  have u_m_mdt25_t42 := u_m_mdt25_t36.ex I_m_mdt25_t36 (X_t42 0)
                  have la_n_t42 : m_la t42 n = (m_md t4) + 1 := by rw [j_t42.2.2.1]; exact la_n_t36
                  have wl_n_t42 : m_wh t42 ((m_md t4)) = 56 := by rw [j_t42.1]; exact wl_n_t36
                  clear la_n_t36 wl_n_t36
                  have la_m_mdt4_t42 : m_la t42 (m_md t4) = (m_md t23) + 1 := by rw [j_t42.2.2.1]; exact la_m_mdt4_t36
                  have wl_m_mdt4_t42 : m_wh t42 ((m_md t23)) = 13 := by rw [j_t42.1]; exact wl_m_mdt4_t36
                  clear la_m_mdt4_t36 wl_m_mdt4_t36
                  have la_m_mdt23_t42 : m_la t42 (m_md t23) = (m_md t25) + 1 := by rw [j_t42.2.2.1]; exact la_m_mdt23_t36
                  have wl_m_mdt23_t42 : m_wh t42 ((m_md t25)) = 89 := by rw [j_t42.1]; exact wl_m_mdt23_t36
                  clear la_m_mdt23_t36 wl_m_mdt23_t36
                  refine Kp_push C_t42 (by omega) (fun t43 C_t43 X_t43 a_t43 b_t43 d_t43 w_t43 u_t43 v_t43 j_t43 l_t43 => ?_)
                  have e_t43 := C_t43.2.2.2.1
                  have I_n_t43 := I_n_t42.flat X_t43
                  have f_n_t43 := f_n_t42.ex I_n_t42 (X_t43 0)
                  have u_n_t43 := u_n_t42.ex I_n_t42 (X_t43 0)
                  have I_m_mdt4_t43 := I_m_mdt4_t42.flat X_t43
                  have f_m_mdt4_t43 := f_m_mdt4_t42.ex I_m_mdt4_t42 (X_t43 0)
                  have I_m_mdt23_t43 := I_m_mdt23_t42.flat X_t43
                  have f_m_mdt23_t43 := f_m_mdt23_t42.ex I_m_mdt23_t42 (X_t43 0)
                  have u_m_mdt23_t43 := u_m_mdt23_t42.ex I_m_mdt23_t42 (X_t43 0)
                  have I_m_mdt25_t43 := I_m_mdt25_t42.flat X_t43
                  have u_m_mdt25_t43 := u_m_mdt25_t42.ex I_m_mdt25_t42 (X_t43 0)
                  have la_n_t43 : m_la t43 n = (m_md t4) + 1 := by rw [j_t43.2.2.1]; exact la_n_t42
                  have wl_n_t43 : m_wh t43 ((m_md t4)) = 56 := by rw [j_t43.1]; exact wl_n_t42
                  clear la_n_t42 wl_n_t42
                  have la_m_mdt4_t43 : m_la t43 (m_md t4) = (m_md t23) + 1 := by rw [j_t43.2.2.1]; exact la_m_mdt4_t42
                  have wl_m_mdt4_t43 : m_wh t43 ((m_md t23)) = 13 := by rw [j_t43.1]; exact wl_m_mdt4_t42
                  clear la_m_mdt4_t42 wl_m_mdt4_t42
                  have la_m_mdt23_t43 : m_la t43 (m_md t23) = (m_md t25) + 1 := by rw [j_t43.2.2.1]; exact la_m_mdt23_t42
                  have wl_m_mdt23_t43 : m_wh t43 ((m_md t25)) = 89 := by rw [j_t43.1]; exact wl_m_mdt23_t42
                  clear la_m_mdt23_t42 wl_m_mdt23_t42
                  refine Ok_bnc ?_
                  try unfold b_X6_expression
                  refine Kp_push C_t43 (by omega) (fun t45 C_t45 X_t45 a_t45 b_t45 d_t45 w_t45 u_t45 v_t45 j_t45 l_t45 => ?_)
                  have e_t45 := C_t45.2.2.2.1
                  have I_n_t45 := I_n_t43.flat X_t45
                  have f_n_t45 := f_n_t43.ex I_n_t43 (X_t45 0)
                  have u_n_t45 := u_n_t43.ex I_n_t43 (X_t45 0)
                  have I_m_mdt4_t45 := I_m_mdt4_t43.flat X_t45
                  have f_m_mdt4_t45 := f_m_mdt4_t43.ex I_m_mdt4_t43 (X_t45 0)
                  have I_m_mdt23_t45 := I_m_mdt23_t43.flat X_t45
                  have f_m_mdt23_t45 := f_m_mdt23_t43.ex I_m_mdt23_t43 (X_t45 0)
                  have u_m_mdt23_t45 := u_m_mdt23_t43.ex I_m_mdt23_t43 (X_t45 0)
                  have I_m_mdt25_t45 := I_m_mdt25_t43.flat X_t45
                  have u_m_mdt25_t45 := u_m_mdt25_t43.ex I_m_mdt25_t43 (X_t45 0)
                  have la_n_t45 : m_la t45 n = (m_md t4) + 1 := by rw [j_t45.2.2.1]; exact la_n_t43
                  have wl_n_t45 : m_wh t45 ((m_md t4)) = 56 := by rw [j_t45.1]; exact wl_n_t43
                  clear la_n_t43 wl_n_t43
                  have la_m_mdt4_t45 : m_la t45 (m_md t4) = (m_md t23) + 1 := by rw [j_t45.2.2.1]; exact la_m_mdt4_t43
                  have wl_m_mdt4_t45 : m_wh t45 ((m_md t23)) = 13 := by rw [j_t45.1]; exact wl_m_mdt4_t43
                  clear la_m_mdt4_t43 wl_m_mdt4_t43
                  have la_m_mdt23_t45 : m_la t45 (m_md t23) = (m_md t25) + 1 := by rw [j_t45.2.2.1]; exact la_m_mdt23_t43
                  have wl_m_mdt23_t45 : m_wh t45 ((m_md t25)) = 89 := by rw [j_t45.1]; exact wl_m_mdt23_t43
                  clear la_m_mdt23_t43 wl_m_mdt23_t43
                  refine Kp_push C_t45 (by omega) (fun t46 C_t46 X_t46 a_t46 b_t46 d_t46 w_t46 u_t46 v_t46 j_t46 l_t46 => ?_)
                  have e_t46 := C_t46.2.2.2.1
                  have I_n_t46 := I_n_t45.flat X_t46
                  have f_n_t46 := f_n_t45.ex I_n_t45 (X_t46 0)
                  have u_n_t46 := u_n_t45.ex I_n_t45 (X_t46 0)
                  have I_m_mdt4_t46 := I_m_mdt4_t45.flat X_t46
                  have f_m_mdt4_t46 := f_m_mdt4_t45.ex I_m_mdt4_t45 (X_t46 0)
                  have I_m_mdt23_t46 := I_m_mdt23_t45.flat X_t46
                  have f_m_mdt23_t46 := f_m_mdt23_t45.ex I_m_mdt23_t45 (X_t46 0)
                  have u_m_mdt23_t46 := u_m_mdt23_t45.ex I_m_mdt23_t45 (X_t46 0)
                  have I_m_mdt25_t46 := I_m_mdt25_t45.flat X_t46
                  have u_m_mdt25_t46 := u_m_mdt25_t45.ex I_m_mdt25_t45 (X_t46 0)
                  have la_n_t46 : m_la t46 n = (m_md t4) + 1 := by rw [j_t46.2.2.1]; exact la_n_t45
                  have wl_n_t46 : m_wh t46 ((m_md t4)) = 56 := by rw [j_t46.1]; exact wl_n_t45
                  clear la_n_t45 wl_n_t45
                  have la_m_mdt4_t46 : m_la t46 (m_md t4) = (m_md t23) + 1 := by rw [j_t46.2.2.1]; exact la_m_mdt4_t45
                  have wl_m_mdt4_t46 : m_wh t46 ((m_md t23)) = 13 := by rw [j_t46.1]; exact wl_m_mdt4_t45
                  clear la_m_mdt4_t45 wl_m_mdt4_t45
                  have la_m_mdt23_t46 : m_la t46 (m_md t23) = (m_md t25) + 1 := by rw [j_t46.2.2.1]; exact la_m_mdt23_t45
                  have wl_m_mdt23_t46 : m_wh t46 ((m_md t25)) = 89 := by rw [j_t46.1]; exact wl_m_mdt23_t45
                  clear la_m_mdt23_t45 wl_m_mdt23_t45
                  refine Ok_ret (show Ok _ _ _ from ?_)
                  refine Ok_ret (show Ok _ _ _ from ?_)
                  refine Ok_ret (show Ok _ _ _ from ?_)
                  exact Or.inl ⟨Nat.ne_of_gt (show 0 < m_wr t46 from by omega), by omega, by omega, C_t46.2.2.2.2.2, by omega⟩
              · refine Ok_ife (Nat.lt_trans (lo_lt (C_t25.tk hT) _) (by decide)) (by decide) (fun q47 => ?_) (fun q47 => ?_)
                · refine Kp_child C_t25 I_m_mdt23_t25.1 I_m_mdt23_t25.2.1 I_m_mdt23_t25.2.2.1 (by omega) (by omega) (by decide) (by decide) (fun t48 C_t48 X_t48 a_t48 b_t48 d_t48 w_t48 u_t48 v_t48 j_t48 l_t48 => ?_)
                  have e_t48 := C_t48.2.2.2.1
                  rw [a_t25] at a_t48
                  rw [b_t25] at b_t48
                  rw [d_t25] at d_t48
                  rw [w_t25] at w_t48
                  rw [u_t25] at u_t48
                  rw [v_t25] at v_t48
                  clear d_t25 w_t25 u_t25 v_t25 e_t25 a_t25
                  have I_n_t48 := I_n_t25.chd X_t48 j_t48
                  have f_n_t48 := f_n_t25.ex I_n_t25 (X_t48 0 (Nat.zero_le _))
                  have u_n_t48 := u_n_t25.ex I_n_t25 (X_t48 0 (Nat.zero_le _))
                  have I_m_mdt4_t48 := I_m_mdt4_t25.chd X_t48 j_t48
                  have f_m_mdt4_t48 := f_m_mdt4_t25.ex I_m_mdt4_t25 (X_t48 0 (Nat.zero_le _))
                  have I_m_mdt23_t48 := I_m_mdt23_t25.chd X_t48 j_t48
                  have u_m_mdt23_t48 := u_m_mdt23_t25.ex I_m_mdt23_t25 (X_t48 0 (Nat.zero_le _))
                  have la_n_t48 : m_la t48 n = (m_md t4) + 1 := by rw [(j_t48.2.2.2.2.2.2.2.1 n I_n_t25.1 (by omega)).1]; exact la_n_t25
                  have wl_n_t48 : m_wh t48 ((m_md t4)) = 56 := by rw [(j_t48.2.2.2.2.2.2.1 ((m_md t4)) (by omega)).2]; exact wl_n_t25
                  clear la_n_t25 wl_n_t25
                  have la_m_mdt4_t48 : m_la t48 (m_md t4) = (m_md t23) + 1 := by rw [(j_t48.2.2.2.2.2.2.2.1 (m_md t4) I_m_mdt4_t25.1 (by omega)).1]; exact la_m_mdt4_t25
                  have wl_m_mdt4_t48 : m_wh t48 ((m_md t23)) = 13 := by rw [(j_t48.2.2.2.2.2.2.1 ((m_md t23)) (by omega)).2]; exact wl_m_mdt4_t25
                  clear la_m_mdt4_t25 wl_m_mdt4_t25
                  have f_m_mdt23_t48 : Fz t48 (m_md t23) := j_t48.2.2.2.2.1
                  have I_m_mdt25_t48 : Nq t48 (m_md t25) := Nq.chn j_t48 (by omega) I_m_mdt23_t25 (by decide)
                  have u_m_mdt25_t48 : Up t48 (m_md t25) := Or.inl j_t48.2.1
                  have la_m_mdt23_t48 : m_la t48 (m_md t23) = (m_md t25) + 1 := j_t48.2.2.2.2.2.1
                  have wl_m_mdt23_t48 : m_wh t48 (m_md t25) = 29 := j_t48.1
                  refine Kp_more C_t48 (by omega) (by omega) (fun t49 C_t49 X_t49 a_t49 b_t49 d_t49 w_t49 u_t49 v_t49 j_t49 l_t49 => ?_)
                  have e_t49 := C_t49.2.2.2.1
                  rcases w_t49 with ⟨w_t49, y_t49⟩ | ⟨w_t49, wb_t49⟩
                  · rw [a_t48] at a_t49
                    rw [b_t48] at b_t49
                    rw [d_t48] at d_t49
                    rw [w_t48] at w_t49
                    rw [u_t48] at u_t49
                    rw [v_t48] at v_t49
                    rw [d_t49] at y_t49
                    clear d_t48 w_t48 u_t48 v_t48 e_t48 a_t48 b_t48
                    have I_n_t49 := I_n_t48.flat X_t49
                    have f_n_t49 := f_n_t48.ex I_n_t48 (X_t49 0)
                    have u_n_t49 := u_n_t48.ex I_n_t48 (X_t49 0)
                    have I_m_mdt4_t49 := I_m_mdt4_t48.flat X_t49
                    have f_m_mdt4_t49 := f_m_mdt4_t48.ex I_m_mdt4_t48 (X_t49 0)
                    have I_m_mdt23_t49 := I_m_mdt23_t48.flat X_t49
                    have f_m_mdt23_t49 := f_m_mdt23_t48.ex I_m_mdt23_t48 (X_t49 0)
                    have u_m_mdt23_t49 := u_m_mdt23_t48.ex I_m_mdt23_t48 (X_t49 0)
                    have I_m_mdt25_t49 := I_m_mdt25_t48.flat X_t49
                    have u_m_mdt25_t49 := u_m_mdt25_t48.ex I_m_mdt25_t48 (X_t49 0)
                    have la_n_t49 : m_la t49 n = (m_md t4) + 1 := by rw [j_t49.2.2.1]; exact la_n_t48
                    have wl_n_t49 : m_wh t49 ((m_md t4)) = 56 := by rw [j_t49.1]; exact wl_n_t48
                    clear la_n_t48 wl_n_t48
                    have la_m_mdt4_t49 : m_la t49 (m_md t4) = (m_md t23) + 1 := by rw [j_t49.2.2.1]; exact la_m_mdt4_t48
                    have wl_m_mdt4_t49 : m_wh t49 ((m_md t23)) = 13 := by rw [j_t49.1]; exact wl_m_mdt4_t48
                    clear la_m_mdt4_t48 wl_m_mdt4_t48
                    have la_m_mdt23_t49 : m_la t49 (m_md t23) = (m_md t25) + 1 := by rw [j_t49.2.2.1]; exact la_m_mdt23_t48
                    have wl_m_mdt23_t49 : m_wh t49 ((m_md t25)) = 29 := by rw [j_t49.1]; exact wl_m_mdt23_t48
                    clear la_m_mdt23_t48 wl_m_mdt23_t48
                    have z_t50 : m_at t49 < m_ct t49 := lo_ne (Nat.ne_of_gt (show 0 < lo t49 (m_at t49) from by omega))
                    refine Kp_at C_t49 (fun t50 C_t50 X_t50 a_t50 b_t50 d_t50 w_t50 u_t50 v_t50 j_t50 l_t50 => ?_)
                    have e_t50 := C_t50.2.2.2.1
                    rw [a_t49] at a_t50
                    rw [b_t49] at b_t50
                    rw [d_t49] at d_t50
                    rw [w_t49] at w_t50
                    rw [u_t49] at u_t50
                    rw [v_t49] at v_t50
                    rw [a_t49, e_t49] at z_t50
                    clear z_t23
                    clear d_t49 w_t49 u_t49 v_t49 e_t49 a_t49 b_t49
                    have I_n_t50 := I_n_t49.flat X_t50
                    have f_n_t50 := f_n_t49.ex I_n_t49 (X_t50 0)
                    have u_n_t50 := u_n_t49.ex I_n_t49 (X_t50 0)
                    have I_m_mdt4_t50 := I_m_mdt4_t49.flat X_t50
                    have f_m_mdt4_t50 := f_m_mdt4_t49.ex I_m_mdt4_t49 (X_t50 0)
                    have I_m_mdt23_t50 := I_m_mdt23_t49.flat X_t50
                    have f_m_mdt23_t50 := f_m_mdt23_t49.ex I_m_mdt23_t49 (X_t50 0)
                    have u_m_mdt23_t50 := u_m_mdt23_t49.ex I_m_mdt23_t49 (X_t50 0)
                    have I_m_mdt25_t50 := I_m_mdt25_t49.flat X_t50
                    have u_m_mdt25_t50 := u_m_mdt25_t49.ex I_m_mdt25_t49 (X_t50 0)
                    have la_n_t50 : m_la t50 n = (m_md t4) + 1 := by rw [j_t50.2.2.1]; exact la_n_t49
                    have wl_n_t50 : m_wh t50 ((m_md t4)) = 56 := by rw [j_t50.1]; exact wl_n_t49
                    clear la_n_t49 wl_n_t49
                    have la_m_mdt4_t50 : m_la t50 (m_md t4) = (m_md t23) + 1 := by rw [j_t50.2.2.1]; exact la_m_mdt4_t49
                    have wl_m_mdt4_t50 : m_wh t50 ((m_md t23)) = 13 := by rw [j_t50.1]; exact wl_m_mdt4_t49
                    clear la_m_mdt4_t49 wl_m_mdt4_t49
                    have la_m_mdt23_t50 : m_la t50 (m_md t23) = (m_md t25) + 1 := by rw [j_t50.2.2.1]; exact la_m_mdt23_t49
                    have wl_m_mdt23_t50 : m_wh t50 ((m_md t25)) = 29 := by rw [j_t50.1]; exact wl_m_mdt23_t49
                    clear la_m_mdt23_t49 wl_m_mdt23_t49
                    refine Kp_push C_t50 (by omega) (fun t51 C_t51 X_t51 a_t51 b_t51 d_t51 w_t51 u_t51 v_t51 j_t51 l_t51 => ?_)
                    have e_t51 := C_t51.2.2.2.1
                    rw [a_t50] at a_t51
                    rw [b_t50] at b_t51
                    rw [d_t50] at d_t51
                    rw [w_t50] at w_t51
                    rw [u_t50] at u_t51
                    rw [v_t50] at v_t51
                    clear d_t50 w_t50 u_t50 v_t50 e_t50 a_t50 b_t50
                    have I_n_t51 := I_n_t50.flat X_t51
                    have f_n_t51 := f_n_t50.ex I_n_t50 (X_t51 0)
                    have u_n_t51 := u_n_t50.ex I_n_t50 (X_t51 0)
                    have I_m_mdt4_t51 := I_m_mdt4_t50.flat X_t51
                    have f_m_mdt4_t51 := f_m_mdt4_t50.ex I_m_mdt4_t50 (X_t51 0)
                    have I_m_mdt23_t51 := I_m_mdt23_t50.flat X_t51
                    have f_m_mdt23_t51 := f_m_mdt23_t50.ex I_m_mdt23_t50 (X_t51 0)
                    have u_m_mdt23_t51 := u_m_mdt23_t50.ex I_m_mdt23_t50 (X_t51 0)
                    have I_m_mdt25_t51 := I_m_mdt25_t50.flat X_t51
                    have u_m_mdt25_t51 := u_m_mdt25_t50.ex I_m_mdt25_t50 (X_t51 0)
                    have la_n_t51 : m_la t51 n = (m_md t4) + 1 := by rw [j_t51.2.2.1]; exact la_n_t50
                    have wl_n_t51 : m_wh t51 ((m_md t4)) = 56 := by rw [j_t51.1]; exact wl_n_t50
                    clear la_n_t50 wl_n_t50
                    have la_m_mdt4_t51 : m_la t51 (m_md t4) = (m_md t23) + 1 := by rw [j_t51.2.2.1]; exact la_m_mdt4_t50
                    have wl_m_mdt4_t51 : m_wh t51 ((m_md t23)) = 13 := by rw [j_t51.1]; exact wl_m_mdt4_t50
                    clear la_m_mdt4_t50 wl_m_mdt4_t50
                    have la_m_mdt23_t51 : m_la t51 (m_md t23) = (m_md t25) + 1 := by rw [j_t51.2.2.1]; exact la_m_mdt23_t50
                    have wl_m_mdt23_t51 : m_wh t51 ((m_md t25)) = 29 := by rw [j_t51.1]; exact wl_m_mdt23_t50
                    clear la_m_mdt23_t50 wl_m_mdt23_t50
                    refine Kp_push C_t51 (by omega) (fun t52 C_t52 X_t52 a_t52 b_t52 d_t52 w_t52 u_t52 v_t52 j_t52 l_t52 => ?_)
                    have e_t52 := C_t52.2.2.2.1
                    rw [a_t51] at a_t52
                    rw [b_t51] at b_t52
                    rw [d_t51] at d_t52
                    rw [w_t51] at w_t52
                    rw [u_t51] at u_t52
                    rw [v_t51] at v_t52
                    clear d_t51 w_t51 u_t51 v_t51 e_t51 a_t51 b_t51
                    have I_n_t52 := I_n_t51.flat X_t52
                    have f_n_t52 := f_n_t51.ex I_n_t51 (X_t52 0)
                    have u_n_t52 := u_n_t51.ex I_n_t51 (X_t52 0)
                    have I_m_mdt4_t52 := I_m_mdt4_t51.flat X_t52
                    have f_m_mdt4_t52 := f_m_mdt4_t51.ex I_m_mdt4_t51 (X_t52 0)
                    have I_m_mdt23_t52 := I_m_mdt23_t51.flat X_t52
                    have f_m_mdt23_t52 := f_m_mdt23_t51.ex I_m_mdt23_t51 (X_t52 0)
                    have u_m_mdt23_t52 := u_m_mdt23_t51.ex I_m_mdt23_t51 (X_t52 0)
                    have I_m_mdt25_t52 := I_m_mdt25_t51.flat X_t52
                    have u_m_mdt25_t52 := u_m_mdt25_t51.ex I_m_mdt25_t51 (X_t52 0)
                    have la_n_t52 : m_la t52 n = (m_md t4) + 1 := by rw [j_t52.2.2.1]; exact la_n_t51
                    have wl_n_t52 : m_wh t52 ((m_md t4)) = 56 := by rw [j_t52.1]; exact wl_n_t51
                    clear la_n_t51 wl_n_t51
                    have la_m_mdt4_t52 : m_la t52 (m_md t4) = (m_md t23) + 1 := by rw [j_t52.2.2.1]; exact la_m_mdt4_t51
                    have wl_m_mdt4_t52 : m_wh t52 ((m_md t23)) = 13 := by rw [j_t52.1]; exact wl_m_mdt4_t51
                    clear la_m_mdt4_t51 wl_m_mdt4_t51
                    have la_m_mdt23_t52 : m_la t52 (m_md t23) = (m_md t25) + 1 := by rw [j_t52.2.2.1]; exact la_m_mdt23_t51
                    have wl_m_mdt23_t52 : m_wh t52 ((m_md t25)) = 29 := by rw [j_t52.1]; exact wl_m_mdt23_t51
                    clear la_m_mdt23_t51 wl_m_mdt23_t51
                    refine Ok_ret (show Ok _ _ _ from ?_)
                    refine Ok_ret (show Ok _ _ _ from ?_)
                    refine Hv_mk (Kv_c (x := (21, m_md t25, 0)) rfl (Kv_c (x := (20, m_md t25, 0)) rfl (Kv_c (x := (4, m_md t23, 3)) rfl hK))) (C_t52.1.2.2.2.2.2.2 hTt) C_t52 hT (by omega) (by omega) (by omega) ?_ ?_ ?_ (by omega) ?_ ?_ ?_
                    · exact ⟨(Io_n (by decide) (by decide) I_m_mdt25_t52.1 I_m_mdt25_t52.2.1 I_m_mdt25_t52.2.2.1 (fun q => absurd q (by decide)) (fun q => absurd q (by decide)) I_m_mdt25_t52.2.2.2), (Nd_0 (by decide) Mo_nil), ⟨(Io_n (by decide) (by decide) I_m_mdt25_t52.1 I_m_mdt25_t52.2.1 I_m_mdt25_t52.2.2.1 (fun q => absurd q (by decide)) (fun q => absurd q (by decide)) I_m_mdt25_t52.2.2.2), (Nd_0 (by decide) (Mo_cons (fun q => show m_md t25 ≤ m_md t25 from by omega) Mo_nil)), ⟨(Io_n (by decide) (by decide) I_m_mdt23_t52.1 I_m_mdt23_t52.2.1 I_m_mdt23_t52.2.2.1 (fun q => absurd q (by decide)) (fun q => absurd q (by decide)) I_m_mdt23_t52.2.2.2), (Nd_A (by decide) (Mo_cons (fun q => show m_md t23 ≤ m_md t25 from by omega) (Mo_cons (fun q => show m_md t23 ≤ m_md t25 from by omega) Mo_nil)) (Or.inl f_m_mdt23_t52)), Stk_step (N := n) (pop := (43, n, t)) (new := [(4, m_md t23, 3), (20, m_md t25, 0), (21, m_md t25, 0)]) F0 C_t52.1.to2 (fun (h : nk 43 = false) => absurd h (by decide)) (fun q _ h => h (43, n, t) rfl) (fun _ => rfl) (fun y hy hk => ⟨rfl, (Mo_cons (fun q => show n ≤ m_md t23 from by omega) (Mo_cons (fun q => show n ≤ m_md t25 from by omega) (Mo_cons (fun q => show n ≤ m_md t25 from by omega) Mo_nil))) y hy hk⟩) (fun (h : 43 = 3 ∨ 43 = 18 ∨ 43 = 41) => absurd h (by decide)) (fun (h : 43 = 18) => absurd h (by decide)) (fun _ h16 => (Or.inr ⟨f_n_t52, (Ab_some (y := (4, m_md t23, 3)) rfl (show n < m_md t23 from by omega)), H50_no la_n_t52 wl_n_t52 (by decide)⟩)) r [] (fun y hy => absurd hy List.not_mem_nil) hS⟩⟩⟩
                    · exact (Aj_up (x := (21, m_md t25, 0)) (Aj_up (x := (20, m_md t25, 0)) (Aj_sub (y := (4, m_md t23, 3)) hJ (Nat.le_of_ble_eq_true rfl)) (Or.inr (Nat.le_of_ble_eq_true rfl))) (Or.inl (Nat.le_of_ble_eq_true rfl)))
                    · show m_dp t52 = (dlt 21 + (dlt 20 + (dlt 4 + sD r)))
                      have : dlt 20 = 1 := rfl; have : dlt 21 = 0 := rfl; have : dlt 4 = 0 := rfl; have : dlt 43 = 0 := rfl; omega
                    · show m_rw t52 = (rho 21 + (rho 20 + (rho 4 + sR r)))
                      have : rho 20 = 0 := rfl; have : rho 21 = 0 := rfl; have : rho 4 = 0 := rfl; have : rho 43 = 0 := rfl; omega
                    · show m_md t52 + (mu7 21 + (mu7 20 + (mu7 4 + sM r))) ≤ 3 * m_at t52 + 7 * (r.length + 1 + 1 + 1) + 10
                      have : mu7 20 = 7 := rfl; have : mu7 21 = 3 := rfl; have : mu7 4 = 7 := rfl; have : mu7 43 = 4 := rfl; omega
                    · show (wt 21 + (wt 20 + (wt 4 + sW r))) + 6 * (4096 - m_at t52) + 4 * (600 - (r.length + 1 + 1 + 1)) < (wt 43 + sW r) + 6 * (4096 - m_at t0) + 4 * (600 - (r.length + 1))
                      have : wt 20 = 5 := rfl; have : wt 21 = 2 := rfl; have : wt 4 = 5 := rfl; have : wt 43 = 0 := rfl; omega
                  · have w_t49 := Nat.pos_of_ne_zero w_t49
                    have I_n_t49 := I_n_t48.flat X_t49
                    have f_n_t49 := f_n_t48.ex I_n_t48 (X_t49 0)
                    have u_n_t49 := u_n_t48.ex I_n_t48 (X_t49 0)
                    have I_m_mdt4_t49 := I_m_mdt4_t48.flat X_t49
                    have f_m_mdt4_t49 := f_m_mdt4_t48.ex I_m_mdt4_t48 (X_t49 0)
                    have I_m_mdt23_t49 := I_m_mdt23_t48.flat X_t49
                    have f_m_mdt23_t49 := f_m_mdt23_t48.ex I_m_mdt23_t48 (X_t49 0)
                    have u_m_mdt23_t49 := u_m_mdt23_t48.ex I_m_mdt23_t48 (X_t49 0)
                    have I_m_mdt25_t49 := I_m_mdt25_t48.flat X_t49
                    have u_m_mdt25_t49 := u_m_mdt25_t48.ex I_m_mdt25_t48 (X_t49 0)
                    have la_n_t49 : m_la t49 n = (m_md t4) + 1 := by rw [j_t49.2.2.1]; exact la_n_t48
                    have wl_n_t49 : m_wh t49 ((m_md t4)) = 56 := by rw [j_t49.1]; exact wl_n_t48
                    clear la_n_t48 wl_n_t48
                    have la_m_mdt4_t49 : m_la t49 (m_md t4) = (m_md t23) + 1 := by rw [j_t49.2.2.1]; exact la_m_mdt4_t48
                    have wl_m_mdt4_t49 : m_wh t49 ((m_md t23)) = 13 := by rw [j_t49.1]; exact wl_m_mdt4_t48
                    clear la_m_mdt4_t48 wl_m_mdt4_t48
                    have la_m_mdt23_t49 : m_la t49 (m_md t23) = (m_md t25) + 1 := by rw [j_t49.2.2.1]; exact la_m_mdt23_t48
                    have wl_m_mdt23_t49 : m_wh t49 ((m_md t25)) = 29 := by rw [j_t49.1]; exact wl_m_mdt23_t48
                    clear la_m_mdt23_t48 wl_m_mdt23_t48
                    refine Kp_at C_t49 (fun t53 C_t53 X_t53 a_t53 b_t53 d_t53 w_t53 u_t53 v_t53 j_t53 l_t53 => ?_)
                    have e_t53 := C_t53.2.2.2.1
                    have I_n_t53 := I_n_t49.flat X_t53
                    have f_n_t53 := f_n_t49.ex I_n_t49 (X_t53 0)
                    have u_n_t53 := u_n_t49.ex I_n_t49 (X_t53 0)
                    have I_m_mdt4_t53 := I_m_mdt4_t49.flat X_t53
                    have f_m_mdt4_t53 := f_m_mdt4_t49.ex I_m_mdt4_t49 (X_t53 0)
                    have I_m_mdt23_t53 := I_m_mdt23_t49.flat X_t53
                    have f_m_mdt23_t53 := f_m_mdt23_t49.ex I_m_mdt23_t49 (X_t53 0)
                    have u_m_mdt23_t53 := u_m_mdt23_t49.ex I_m_mdt23_t49 (X_t53 0)
                    have I_m_mdt25_t53 := I_m_mdt25_t49.flat X_t53
                    have u_m_mdt25_t53 := u_m_mdt25_t49.ex I_m_mdt25_t49 (X_t53 0)
                    have la_n_t53 : m_la t53 n = (m_md t4) + 1 := by rw [j_t53.2.2.1]; exact la_n_t49
                    have wl_n_t53 : m_wh t53 ((m_md t4)) = 56 := by rw [j_t53.1]; exact wl_n_t49
                    clear la_n_t49 wl_n_t49
                    have la_m_mdt4_t53 : m_la t53 (m_md t4) = (m_md t23) + 1 := by rw [j_t53.2.2.1]; exact la_m_mdt4_t49
                    have wl_m_mdt4_t53 : m_wh t53 ((m_md t23)) = 13 := by rw [j_t53.1]; exact wl_m_mdt4_t49
                    clear la_m_mdt4_t49 wl_m_mdt4_t49
                    have la_m_mdt23_t53 : m_la t53 (m_md t23) = (m_md t25) + 1 := by rw [j_t53.2.2.1]; exact la_m_mdt23_t49
                    have wl_m_mdt23_t53 : m_wh t53 ((m_md t25)) = 29 := by rw [j_t53.1]; exact wl_m_mdt23_t49
                    clear la_m_mdt23_t49 wl_m_mdt23_t49
                    refine Kp_push C_t53 (by omega) (fun t54 C_t54 X_t54 a_t54 b_t54 d_t54 w_t54 u_t54 v_t54 j_t54 l_t54 => ?_)
                    have e_t54 := C_t54.2.2.2.1
                    have I_n_t54 := I_n_t53.flat X_t54
                    have f_n_t54 := f_n_t53.ex I_n_t53 (X_t54 0)
                    have u_n_t54 := u_n_t53.ex I_n_t53 (X_t54 0)
                    have I_m_mdt4_t54 := I_m_mdt4_t53.flat X_t54
                    have f_m_mdt4_t54 := f_m_mdt4_t53.ex I_m_mdt4_t53 (X_t54 0)
                    have I_m_mdt23_t54 := I_m_mdt23_t53.flat X_t54
                    have f_m_mdt23_t54 := f_m_mdt23_t53.ex I_m_mdt23_t53 (X_t54 0)
                    have u_m_mdt23_t54 := u_m_mdt23_t53.ex I_m_mdt23_t53 (X_t54 0)
                    have I_m_mdt25_t54 := I_m_mdt25_t53.flat X_t54
                    have u_m_mdt25_t54 := u_m_mdt25_t53.ex I_m_mdt25_t53 (X_t54 0)
                    have la_n_t54 : m_la t54 n = (m_md t4) + 1 := by rw [j_t54.2.2.1]; exact la_n_t53
                    have wl_n_t54 : m_wh t54 ((m_md t4)) = 56 := by rw [j_t54.1]; exact wl_n_t53
                    clear la_n_t53 wl_n_t53
                    have la_m_mdt4_t54 : m_la t54 (m_md t4) = (m_md t23) + 1 := by rw [j_t54.2.2.1]; exact la_m_mdt4_t53
                    have wl_m_mdt4_t54 : m_wh t54 ((m_md t23)) = 13 := by rw [j_t54.1]; exact wl_m_mdt4_t53
                    clear la_m_mdt4_t53 wl_m_mdt4_t53
                    have la_m_mdt23_t54 : m_la t54 (m_md t23) = (m_md t25) + 1 := by rw [j_t54.2.2.1]; exact la_m_mdt23_t53
                    have wl_m_mdt23_t54 : m_wh t54 ((m_md t25)) = 29 := by rw [j_t54.1]; exact wl_m_mdt23_t53
                    clear la_m_mdt23_t53 wl_m_mdt23_t53
                    refine Kp_push C_t54 (by omega) (fun t55 C_t55 X_t55 a_t55 b_t55 d_t55 w_t55 u_t55 v_t55 j_t55 l_t55 => ?_)
                    have e_t55 := C_t55.2.2.2.1
                    have I_n_t55 := I_n_t54.flat X_t55
                    have f_n_t55 := f_n_t54.ex I_n_t54 (X_t55 0)
                    have u_n_t55 := u_n_t54.ex I_n_t54 (X_t55 0)
                    have I_m_mdt4_t55 := I_m_mdt4_t54.flat X_t55
                    have f_m_mdt4_t55 := f_m_mdt4_t54.ex I_m_mdt4_t54 (X_t55 0)
                    have I_m_mdt23_t55 := I_m_mdt23_t54.flat X_t55
                    have f_m_mdt23_t55 := f_m_mdt23_t54.ex I_m_mdt23_t54 (X_t55 0)
                    have u_m_mdt23_t55 := u_m_mdt23_t54.ex I_m_mdt23_t54 (X_t55 0)
                    have I_m_mdt25_t55 := I_m_mdt25_t54.flat X_t55
                    have u_m_mdt25_t55 := u_m_mdt25_t54.ex I_m_mdt25_t54 (X_t55 0)
                    have la_n_t55 : m_la t55 n = (m_md t4) + 1 := by rw [j_t55.2.2.1]; exact la_n_t54
                    have wl_n_t55 : m_wh t55 ((m_md t4)) = 56 := by rw [j_t55.1]; exact wl_n_t54
                    clear la_n_t54 wl_n_t54
                    have la_m_mdt4_t55 : m_la t55 (m_md t4) = (m_md t23) + 1 := by rw [j_t55.2.2.1]; exact la_m_mdt4_t54
                    have wl_m_mdt4_t55 : m_wh t55 ((m_md t23)) = 13 := by rw [j_t55.1]; exact wl_m_mdt4_t54
                    clear la_m_mdt4_t54 wl_m_mdt4_t54
                    have la_m_mdt23_t55 : m_la t55 (m_md t23) = (m_md t25) + 1 := by rw [j_t55.2.2.1]; exact la_m_mdt23_t54
                    have wl_m_mdt23_t55 : m_wh t55 ((m_md t25)) = 29 := by rw [j_t55.1]; exact wl_m_mdt23_t54
                    clear la_m_mdt23_t54 wl_m_mdt23_t54
                    refine Ok_ret (show Ok _ _ _ from ?_)
                    refine Ok_ret (show Ok _ _ _ from ?_)
                    exact Or.inl ⟨Nat.ne_of_gt (show 0 < m_wr t55 from by omega), by omega, by omega, C_t55.2.2.2.2.2, by omega⟩
                · refine Ok_ife (Nat.lt_trans (lo_lt (C_t25.tk hT) _) (by decide)) (by decide) (fun q56 => ?_) (fun q56 => ?_)
                  · refine Kp_push C_t25 (by omega) (fun t57 C_t57 X_t57 a_t57 b_t57 d_t57 w_t57 u_t57 v_t57 j_t57 l_t57 => ?_)
                    have e_t57 := C_t57.2.2.2.1
                    rw [a_t25] at a_t57
                    rw [b_t25] at b_t57
                    rw [d_t25] at d_t57
                    rw [w_t25] at w_t57
                    rw [u_t25] at u_t57
                    rw [v_t25] at v_t57
                    clear d_t25 w_t25 u_t25 v_t25 e_t25 a_t25 b_t25
                    have I_n_t57 := I_n_t25.flat X_t57
                    have f_n_t57 := f_n_t25.ex I_n_t25 (X_t57 0)
                    have u_n_t57 := u_n_t25.ex I_n_t25 (X_t57 0)
                    have I_m_mdt4_t57 := I_m_mdt4_t25.flat X_t57
                    have f_m_mdt4_t57 := f_m_mdt4_t25.ex I_m_mdt4_t25 (X_t57 0)
                    have I_m_mdt23_t57 := I_m_mdt23_t25.flat X_t57
                    have u_m_mdt23_t57 := u_m_mdt23_t25.ex I_m_mdt23_t25 (X_t57 0)
                    have la_n_t57 : m_la t57 n = (m_md t4) + 1 := by rw [j_t57.2.2.1]; exact la_n_t25
                    have wl_n_t57 : m_wh t57 ((m_md t4)) = 56 := by rw [j_t57.1]; exact wl_n_t25
                    clear la_n_t25 wl_n_t25
                    have la_m_mdt4_t57 : m_la t57 (m_md t4) = (m_md t23) + 1 := by rw [j_t57.2.2.1]; exact la_m_mdt4_t25
                    have wl_m_mdt4_t57 : m_wh t57 ((m_md t23)) = 13 := by rw [j_t57.1]; exact wl_m_mdt4_t25
                    clear la_m_mdt4_t25 wl_m_mdt4_t25
                    refine Kp_push C_t57 (by omega) (fun t58 C_t58 X_t58 a_t58 b_t58 d_t58 w_t58 u_t58 v_t58 j_t58 l_t58 => ?_)
                    have e_t58 := C_t58.2.2.2.1
                    rw [a_t57] at a_t58
                    rw [b_t57] at b_t58
                    rw [d_t57] at d_t58
                    rw [w_t57] at w_t58
                    rw [u_t57] at u_t58
                    rw [v_t57] at v_t58
                    clear d_t57 w_t57 u_t57 v_t57 e_t57 a_t57 b_t57
                    have I_n_t58 := I_n_t57.flat X_t58
                    have f_n_t58 := f_n_t57.ex I_n_t57 (X_t58 0)
                    have u_n_t58 := u_n_t57.ex I_n_t57 (X_t58 0)
                    have I_m_mdt4_t58 := I_m_mdt4_t57.flat X_t58
                    have f_m_mdt4_t58 := f_m_mdt4_t57.ex I_m_mdt4_t57 (X_t58 0)
                    have I_m_mdt23_t58 := I_m_mdt23_t57.flat X_t58
                    have u_m_mdt23_t58 := u_m_mdt23_t57.ex I_m_mdt23_t57 (X_t58 0)
                    have la_n_t58 : m_la t58 n = (m_md t4) + 1 := by rw [j_t58.2.2.1]; exact la_n_t57
                    have wl_n_t58 : m_wh t58 ((m_md t4)) = 56 := by rw [j_t58.1]; exact wl_n_t57
                    clear la_n_t57 wl_n_t57
                    have la_m_mdt4_t58 : m_la t58 (m_md t4) = (m_md t23) + 1 := by rw [j_t58.2.2.1]; exact la_m_mdt4_t57
                    have wl_m_mdt4_t58 : m_wh t58 ((m_md t23)) = 13 := by rw [j_t58.1]; exact wl_m_mdt4_t57
                    clear la_m_mdt4_t57 wl_m_mdt4_t57
                    refine Ok_ret (show Ok _ _ _ from ?_)
                    refine Ok_ret (show Ok _ _ _ from ?_)
                    refine Hv_mk (Kv_c (x := (18, m_md t23, 1)) rfl (Kv_c (x := (5, m_md t23, 3)) rfl (Kv_c (x := (4, m_md t23, 3)) rfl hK))) (C_t58.1.2.2.2.2.2.2 hTt) C_t58 hT (by omega) (by omega) (by omega) ?_ ?_ ?_ (by omega) ?_ ?_ ?_
                    · exact ⟨(Io_n (by decide) (by decide) I_m_mdt23_t58.1 I_m_mdt23_t58.2.1 I_m_mdt23_t58.2.2.1 (fun q => absurd q (by decide)) (fun q => absurd q (by decide)) I_m_mdt23_t58.2.2.2), (Nd_0 (by decide) Mo_nil), ⟨(Io_n (by decide) (by decide) I_m_mdt23_t58.1 I_m_mdt23_t58.2.1 I_m_mdt23_t58.2.2.1 (fun q => absurd q (by decide)) (fun q => absurd q (by decide)) I_m_mdt23_t58.2.2.2), (Nd_5 (Mo_cons (fun q => show m_md t23 ≤ m_md t23 from by omega) Mo_nil) (Or.inl ⟨1, rfl⟩)), ⟨(Io_n (by decide) (by decide) I_m_mdt23_t58.1 I_m_mdt23_t58.2.1 I_m_mdt23_t58.2.2.1 (fun q => absurd q (by decide)) (fun q => absurd q (by decide)) I_m_mdt23_t58.2.2.2), (Nd_A (by decide) (Mo_cons (fun q => show m_md t23 ≤ m_md t23 from by omega) (Mo_cons (fun q => show m_md t23 ≤ m_md t23 from by omega) Mo_nil)) (Or.inr ⟨(18, m_md t23, 1), (List.mem_cons_of_mem _ List.mem_cons_self), rfl, Or.inr (Or.inl rfl)⟩)), Stk_step (N := n) (pop := (43, n, t)) (new := [(4, m_md t23, 3), (5, m_md t23, 3), (18, m_md t23, 1)]) F0 C_t58.1.to2 (fun (h : nk 43 = false) => absurd h (by decide)) (fun q _ h => h (43, n, t) rfl) (fun _ => rfl) (fun y hy hk => ⟨rfl, (Mo_cons (fun q => show n ≤ m_md t23 from by omega) (Mo_cons (fun q => show n ≤ m_md t23 from by omega) (Mo_cons (fun q => show n ≤ m_md t23 from by omega) Mo_nil))) y hy hk⟩) (fun (h : 43 = 3 ∨ 43 = 18 ∨ 43 = 41) => absurd h (by decide)) (fun (h : 43 = 18) => absurd h (by decide)) (fun _ h16 => (Or.inr ⟨f_n_t58, (Ab_some (y := (4, m_md t23, 3)) rfl (show n < m_md t23 from by omega)), H50_no la_n_t58 wl_n_t58 (by decide)⟩)) r [] (fun y hy => absurd hy List.not_mem_nil) hS⟩⟩⟩
                    · exact (Aj_up (x := (18, m_md t23, 1)) (Aj_up (x := (5, m_md t23, 3)) (Aj_sub (y := (4, m_md t23, 3)) hJ (Nat.le_of_ble_eq_true rfl)) (Or.inr (Nat.le_of_ble_eq_true rfl))) (Or.inr (Nat.le_of_ble_eq_true rfl)))
                    · show m_dp t58 = (dlt 18 + (dlt 5 + (dlt 4 + sD r)))
                      have : dlt 18 = 0 := rfl; have : dlt 4 = 0 := rfl; have : dlt 43 = 0 := rfl; have : dlt 5 = 0 := rfl; omega
                    · show m_rw t58 = (rho 18 + (rho 5 + (rho 4 + sR r)))
                      have : rho 18 = 0 := rfl; have : rho 4 = 0 := rfl; have : rho 43 = 0 := rfl; have : rho 5 = 0 := rfl; omega
                    · show m_md t58 + (mu7 18 + (mu7 5 + (mu7 4 + sM r))) ≤ 3 * m_at t58 + 7 * (r.length + 1 + 1 + 1) + 10
                      have : mu7 18 = 5 := rfl; have : mu7 4 = 7 := rfl; have : mu7 43 = 4 := rfl; have : mu7 5 = 7 := rfl; omega
                    · show (wt 18 + (wt 5 + (wt 4 + sW r))) + 6 * (4096 - m_at t58) + 4 * (600 - (r.length + 1 + 1 + 1)) < (wt 43 + sW r) + 6 * (4096 - m_at t0) + 4 * (600 - (r.length + 1))
                      have : wt 18 = 0 := rfl; have : wt 4 = 5 := rfl; have : wt 43 = 0 := rfl; have : wt 5 = 5 := rfl; omega
                  · refine Ok_ife (Nat.lt_trans (lo_lt (C_t25.tk hT) _) (by decide)) (by decide) (fun q59 => ?_) (fun q59 => ?_)
                    · refine Kp_push C_t25 (by omega) (fun t60 C_t60 X_t60 a_t60 b_t60 d_t60 w_t60 u_t60 v_t60 j_t60 l_t60 => ?_)
                      have e_t60 := C_t60.2.2.2.1
                      rw [a_t25] at a_t60
                      rw [b_t25] at b_t60
                      rw [d_t25] at d_t60
                      rw [w_t25] at w_t60
                      rw [u_t25] at u_t60
                      rw [v_t25] at v_t60
                      clear d_t25 w_t25 u_t25 v_t25 e_t25 a_t25 b_t25
                      have I_n_t60 := I_n_t25.flat X_t60
                      have f_n_t60 := f_n_t25.ex I_n_t25 (X_t60 0)
                      have u_n_t60 := u_n_t25.ex I_n_t25 (X_t60 0)
                      have I_m_mdt4_t60 := I_m_mdt4_t25.flat X_t60
                      have f_m_mdt4_t60 := f_m_mdt4_t25.ex I_m_mdt4_t25 (X_t60 0)
                      have I_m_mdt23_t60 := I_m_mdt23_t25.flat X_t60
                      have u_m_mdt23_t60 := u_m_mdt23_t25.ex I_m_mdt23_t25 (X_t60 0)
                      have la_n_t60 : m_la t60 n = (m_md t4) + 1 := by rw [j_t60.2.2.1]; exact la_n_t25
                      have wl_n_t60 : m_wh t60 ((m_md t4)) = 56 := by rw [j_t60.1]; exact wl_n_t25
                      clear la_n_t25 wl_n_t25
                      have la_m_mdt4_t60 : m_la t60 (m_md t4) = (m_md t23) + 1 := by rw [j_t60.2.2.1]; exact la_m_mdt4_t25
                      have wl_m_mdt4_t60 : m_wh t60 ((m_md t23)) = 13 := by rw [j_t60.1]; exact wl_m_mdt4_t25
                      clear la_m_mdt4_t25 wl_m_mdt4_t25
                      refine Kp_push C_t60 (by omega) (fun t61 C_t61 X_t61 a_t61 b_t61 d_t61 w_t61 u_t61 v_t61 j_t61 l_t61 => ?_)
                      have e_t61 := C_t61.2.2.2.1
                      rw [a_t60] at a_t61
                      rw [b_t60] at b_t61
                      rw [d_t60] at d_t61
                      rw [w_t60] at w_t61
                      rw [u_t60] at u_t61
                      rw [v_t60] at v_t61
                      clear d_t60 w_t60 u_t60 v_t60 e_t60 a_t60 b_t60
                      have I_n_t61 := I_n_t60.flat X_t61
                      have f_n_t61 := f_n_t60.ex I_n_t60 (X_t61 0)
                      have u_n_t61 := u_n_t60.ex I_n_t60 (X_t61 0)
                      have I_m_mdt4_t61 := I_m_mdt4_t60.flat X_t61
                      have f_m_mdt4_t61 := f_m_mdt4_t60.ex I_m_mdt4_t60 (X_t61 0)
                      have I_m_mdt23_t61 := I_m_mdt23_t60.flat X_t61
                      have u_m_mdt23_t61 := u_m_mdt23_t60.ex I_m_mdt23_t60 (X_t61 0)
                      have la_n_t61 : m_la t61 n = (m_md t4) + 1 := by rw [j_t61.2.2.1]; exact la_n_t60
                      have wl_n_t61 : m_wh t61 ((m_md t4)) = 56 := by rw [j_t61.1]; exact wl_n_t60
                      clear la_n_t60 wl_n_t60
                      have la_m_mdt4_t61 : m_la t61 (m_md t4) = (m_md t23) + 1 := by rw [j_t61.2.2.1]; exact la_m_mdt4_t60
                      have wl_m_mdt4_t61 : m_wh t61 ((m_md t23)) = 13 := by rw [j_t61.1]; exact wl_m_mdt4_t60
                      clear la_m_mdt4_t60 wl_m_mdt4_t60
                      refine Ok_ret (show Ok _ _ _ from ?_)
                      refine Ok_ret (show Ok _ _ _ from ?_)
                      refine Hv_mk (Kv_c (x := (18, m_md t23, 1)) rfl (Kv_c (x := (5, m_md t23, 3)) rfl (Kv_c (x := (4, m_md t23, 3)) rfl hK))) (C_t61.1.2.2.2.2.2.2 hTt) C_t61 hT (by omega) (by omega) (by omega) ?_ ?_ ?_ (by omega) ?_ ?_ ?_
                      · exact ⟨(Io_n (by decide) (by decide) I_m_mdt23_t61.1 I_m_mdt23_t61.2.1 I_m_mdt23_t61.2.2.1 (fun q => absurd q (by decide)) (fun q => absurd q (by decide)) I_m_mdt23_t61.2.2.2), (Nd_0 (by decide) Mo_nil), ⟨(Io_n (by decide) (by decide) I_m_mdt23_t61.1 I_m_mdt23_t61.2.1 I_m_mdt23_t61.2.2.1 (fun q => absurd q (by decide)) (fun q => absurd q (by decide)) I_m_mdt23_t61.2.2.2), (Nd_5 (Mo_cons (fun q => show m_md t23 ≤ m_md t23 from by omega) Mo_nil) (Or.inl ⟨1, rfl⟩)), ⟨(Io_n (by decide) (by decide) I_m_mdt23_t61.1 I_m_mdt23_t61.2.1 I_m_mdt23_t61.2.2.1 (fun q => absurd q (by decide)) (fun q => absurd q (by decide)) I_m_mdt23_t61.2.2.2), (Nd_A (by decide) (Mo_cons (fun q => show m_md t23 ≤ m_md t23 from by omega) (Mo_cons (fun q => show m_md t23 ≤ m_md t23 from by omega) Mo_nil)) (Or.inr ⟨(18, m_md t23, 1), (List.mem_cons_of_mem _ List.mem_cons_self), rfl, Or.inr (Or.inl rfl)⟩)), Stk_step (N := n) (pop := (43, n, t)) (new := [(4, m_md t23, 3), (5, m_md t23, 3), (18, m_md t23, 1)]) F0 C_t61.1.to2 (fun (h : nk 43 = false) => absurd h (by decide)) (fun q _ h => h (43, n, t) rfl) (fun _ => rfl) (fun y hy hk => ⟨rfl, (Mo_cons (fun q => show n ≤ m_md t23 from by omega) (Mo_cons (fun q => show n ≤ m_md t23 from by omega) (Mo_cons (fun q => show n ≤ m_md t23 from by omega) Mo_nil))) y hy hk⟩) (fun (h : 43 = 3 ∨ 43 = 18 ∨ 43 = 41) => absurd h (by decide)) (fun (h : 43 = 18) => absurd h (by decide)) (fun _ h16 => (Or.inr ⟨f_n_t61, (Ab_some (y := (4, m_md t23, 3)) rfl (show n < m_md t23 from by omega)), H50_no la_n_t61 wl_n_t61 (by decide)⟩)) r [] (fun y hy => absurd hy List.not_mem_nil) hS⟩⟩⟩
                      · exact (Aj_up (x := (18, m_md t23, 1)) (Aj_up (x := (5, m_md t23, 3)) (Aj_sub (y := (4, m_md t23, 3)) hJ (Nat.le_of_ble_eq_true rfl)) (Or.inr (Nat.le_of_ble_eq_true rfl))) (Or.inr (Nat.le_of_ble_eq_true rfl)))
                      · show m_dp t61 = (dlt 18 + (dlt 5 + (dlt 4 + sD r)))
                        have : dlt 18 = 0 := rfl; have : dlt 4 = 0 := rfl; have : dlt 43 = 0 := rfl; have : dlt 5 = 0 := rfl; omega
                      · show m_rw t61 = (rho 18 + (rho 5 + (rho 4 + sR r)))
                        have : rho 18 = 0 := rfl; have : rho 4 = 0 := rfl; have : rho 43 = 0 := rfl; have : rho 5 = 0 := rfl; omega
                      · show m_md t61 + (mu7 18 + (mu7 5 + (mu7 4 + sM r))) ≤ 3 * m_at t61 + 7 * (r.length + 1 + 1 + 1) + 10
                        have : mu7 18 = 5 := rfl; have : mu7 4 = 7 := rfl; have : mu7 43 = 4 := rfl; have : mu7 5 = 7 := rfl; omega
                      · show (wt 18 + (wt 5 + (wt 4 + sW r))) + 6 * (4096 - m_at t61) + 4 * (600 - (r.length + 1 + 1 + 1)) < (wt 43 + sW r) + 6 * (4096 - m_at t0) + 4 * (600 - (r.length + 1))
                        have : wt 18 = 0 := rfl; have : wt 4 = 5 := rfl; have : wt 43 = 0 := rfl; have : wt 5 = 5 := rfl; omega
                    · refine Ok_ife (Nat.lt_trans (lo_lt (C_t25.tk hT) _) (by decide)) (by decide) (fun q62 => ?_) (fun q62 => ?_)
                      · refine Kp_push C_t25 (by omega) (fun t63 C_t63 X_t63 a_t63 b_t63 d_t63 w_t63 u_t63 v_t63 j_t63 l_t63 => ?_)
                        have e_t63 := C_t63.2.2.2.1
                        rw [a_t25] at a_t63
                        rw [b_t25] at b_t63
                        rw [d_t25] at d_t63
                        rw [w_t25] at w_t63
                        rw [u_t25] at u_t63
                        rw [v_t25] at v_t63
                        clear d_t25 w_t25 u_t25 v_t25 e_t25 a_t25 b_t25
                        have I_n_t63 := I_n_t25.flat X_t63
                        have f_n_t63 := f_n_t25.ex I_n_t25 (X_t63 0)
                        have u_n_t63 := u_n_t25.ex I_n_t25 (X_t63 0)
                        have I_m_mdt4_t63 := I_m_mdt4_t25.flat X_t63
                        have f_m_mdt4_t63 := f_m_mdt4_t25.ex I_m_mdt4_t25 (X_t63 0)
                        have I_m_mdt23_t63 := I_m_mdt23_t25.flat X_t63
                        have u_m_mdt23_t63 := u_m_mdt23_t25.ex I_m_mdt23_t25 (X_t63 0)
                        have la_n_t63 : m_la t63 n = (m_md t4) + 1 := by rw [j_t63.2.2.1]; exact la_n_t25
                        have wl_n_t63 : m_wh t63 ((m_md t4)) = 56 := by rw [j_t63.1]; exact wl_n_t25
                        clear la_n_t25 wl_n_t25
                        have la_m_mdt4_t63 : m_la t63 (m_md t4) = (m_md t23) + 1 := by rw [j_t63.2.2.1]; exact la_m_mdt4_t25
                        have wl_m_mdt4_t63 : m_wh t63 ((m_md t23)) = 13 := by rw [j_t63.1]; exact wl_m_mdt4_t25
                        clear la_m_mdt4_t25 wl_m_mdt4_t25
                        refine Kp_push C_t63 (by omega) (fun t64 C_t64 X_t64 a_t64 b_t64 d_t64 w_t64 u_t64 v_t64 j_t64 l_t64 => ?_)
                        have e_t64 := C_t64.2.2.2.1
                        rw [a_t63] at a_t64
                        rw [b_t63] at b_t64
                        rw [d_t63] at d_t64
                        rw [w_t63] at w_t64
                        rw [u_t63] at u_t64
                        rw [v_t63] at v_t64
                        clear d_t63 w_t63 u_t63 v_t63 e_t63 a_t63 b_t63
                        have I_n_t64 := I_n_t63.flat X_t64
                        have f_n_t64 := f_n_t63.ex I_n_t63 (X_t64 0)
                        have u_n_t64 := u_n_t63.ex I_n_t63 (X_t64 0)
                        have I_m_mdt4_t64 := I_m_mdt4_t63.flat X_t64
                        have f_m_mdt4_t64 := f_m_mdt4_t63.ex I_m_mdt4_t63 (X_t64 0)
                        have I_m_mdt23_t64 := I_m_mdt23_t63.flat X_t64
                        have u_m_mdt23_t64 := u_m_mdt23_t63.ex I_m_mdt23_t63 (X_t64 0)
                        have la_n_t64 : m_la t64 n = (m_md t4) + 1 := by rw [j_t64.2.2.1]; exact la_n_t63
                        have wl_n_t64 : m_wh t64 ((m_md t4)) = 56 := by rw [j_t64.1]; exact wl_n_t63
                        clear la_n_t63 wl_n_t63
                        have la_m_mdt4_t64 : m_la t64 (m_md t4) = (m_md t23) + 1 := by rw [j_t64.2.2.1]; exact la_m_mdt4_t63
                        have wl_m_mdt4_t64 : m_wh t64 ((m_md t23)) = 13 := by rw [j_t64.1]; exact wl_m_mdt4_t63
                        clear la_m_mdt4_t63 wl_m_mdt4_t63
                        refine Ok_ret (show Ok _ _ _ from ?_)
                        refine Ok_ret (show Ok _ _ _ from ?_)
                        refine Hv_mk (Kv_c (x := (18, m_md t23, 1)) rfl (Kv_c (x := (5, m_md t23, 3)) rfl (Kv_c (x := (4, m_md t23, 3)) rfl hK))) (C_t64.1.2.2.2.2.2.2 hTt) C_t64 hT (by omega) (by omega) (by omega) ?_ ?_ ?_ (by omega) ?_ ?_ ?_
                        · exact ⟨(Io_n (by decide) (by decide) I_m_mdt23_t64.1 I_m_mdt23_t64.2.1 I_m_mdt23_t64.2.2.1 (fun q => absurd q (by decide)) (fun q => absurd q (by decide)) I_m_mdt23_t64.2.2.2), (Nd_0 (by decide) Mo_nil), ⟨(Io_n (by decide) (by decide) I_m_mdt23_t64.1 I_m_mdt23_t64.2.1 I_m_mdt23_t64.2.2.1 (fun q => absurd q (by decide)) (fun q => absurd q (by decide)) I_m_mdt23_t64.2.2.2), (Nd_5 (Mo_cons (fun q => show m_md t23 ≤ m_md t23 from by omega) Mo_nil) (Or.inl ⟨1, rfl⟩)), ⟨(Io_n (by decide) (by decide) I_m_mdt23_t64.1 I_m_mdt23_t64.2.1 I_m_mdt23_t64.2.2.1 (fun q => absurd q (by decide)) (fun q => absurd q (by decide)) I_m_mdt23_t64.2.2.2), (Nd_A (by decide) (Mo_cons (fun q => show m_md t23 ≤ m_md t23 from by omega) (Mo_cons (fun q => show m_md t23 ≤ m_md t23 from by omega) Mo_nil)) (Or.inr ⟨(18, m_md t23, 1), (List.mem_cons_of_mem _ List.mem_cons_self), rfl, Or.inr (Or.inl rfl)⟩)), Stk_step (N := n) (pop := (43, n, t)) (new := [(4, m_md t23, 3), (5, m_md t23, 3), (18, m_md t23, 1)]) F0 C_t64.1.to2 (fun (h : nk 43 = false) => absurd h (by decide)) (fun q _ h => h (43, n, t) rfl) (fun _ => rfl) (fun y hy hk => ⟨rfl, (Mo_cons (fun q => show n ≤ m_md t23 from by omega) (Mo_cons (fun q => show n ≤ m_md t23 from by omega) (Mo_cons (fun q => show n ≤ m_md t23 from by omega) Mo_nil))) y hy hk⟩) (fun (h : 43 = 3 ∨ 43 = 18 ∨ 43 = 41) => absurd h (by decide)) (fun (h : 43 = 18) => absurd h (by decide)) (fun _ h16 => (Or.inr ⟨f_n_t64, (Ab_some (y := (4, m_md t23, 3)) rfl (show n < m_md t23 from by omega)), H50_no la_n_t64 wl_n_t64 (by decide)⟩)) r [] (fun y hy => absurd hy List.not_mem_nil) hS⟩⟩⟩
                        · exact (Aj_up (x := (18, m_md t23, 1)) (Aj_up (x := (5, m_md t23, 3)) (Aj_sub (y := (4, m_md t23, 3)) hJ (Nat.le_of_ble_eq_true rfl)) (Or.inr (Nat.le_of_ble_eq_true rfl))) (Or.inr (Nat.le_of_ble_eq_true rfl)))
                        · show m_dp t64 = (dlt 18 + (dlt 5 + (dlt 4 + sD r)))
                          have : dlt 18 = 0 := rfl; have : dlt 4 = 0 := rfl; have : dlt 43 = 0 := rfl; have : dlt 5 = 0 := rfl; omega
                        · show m_rw t64 = (rho 18 + (rho 5 + (rho 4 + sR r)))
                          have : rho 18 = 0 := rfl; have : rho 4 = 0 := rfl; have : rho 43 = 0 := rfl; have : rho 5 = 0 := rfl; omega
                        · show m_md t64 + (mu7 18 + (mu7 5 + (mu7 4 + sM r))) ≤ 3 * m_at t64 + 7 * (r.length + 1 + 1 + 1) + 10
                          have : mu7 18 = 5 := rfl; have : mu7 4 = 7 := rfl; have : mu7 43 = 4 := rfl; have : mu7 5 = 7 := rfl; omega
                        · show (wt 18 + (wt 5 + (wt 4 + sW r))) + 6 * (4096 - m_at t64) + 4 * (600 - (r.length + 1 + 1 + 1)) < (wt 43 + sW r) + 6 * (4096 - m_at t0) + 4 * (600 - (r.length + 1))
                          have : wt 18 = 0 := rfl; have : wt 4 = 5 := rfl; have : wt 43 = 0 := rfl; have : wt 5 = 5 := rfl; omega
                      · refine Ok_ife (Nat.lt_trans (lo_lt (C_t25.tk hT) _) (by decide)) (by decide) (fun q65 => ?_) (fun q65 => ?_)
                        · refine Kp_push C_t25 (by omega) (fun t66 C_t66 X_t66 a_t66 b_t66 d_t66 w_t66 u_t66 v_t66 j_t66 l_t66 => ?_)
                          have e_t66 := C_t66.2.2.2.1
                          rw [a_t25] at a_t66
                          rw [b_t25] at b_t66
                          rw [d_t25] at d_t66
                          rw [w_t25] at w_t66
                          rw [u_t25] at u_t66
                          rw [v_t25] at v_t66
                          clear d_t25 w_t25 u_t25 v_t25 e_t25 a_t25 b_t25
                          have I_n_t66 := I_n_t25.flat X_t66
                          have f_n_t66 := f_n_t25.ex I_n_t25 (X_t66 0)
                          have u_n_t66 := u_n_t25.ex I_n_t25 (X_t66 0)
                          have I_m_mdt4_t66 := I_m_mdt4_t25.flat X_t66
                          have f_m_mdt4_t66 := f_m_mdt4_t25.ex I_m_mdt4_t25 (X_t66 0)
                          have I_m_mdt23_t66 := I_m_mdt23_t25.flat X_t66
                          have u_m_mdt23_t66 := u_m_mdt23_t25.ex I_m_mdt23_t25 (X_t66 0)
                          have la_n_t66 : m_la t66 n = (m_md t4) + 1 := by rw [j_t66.2.2.1]; exact la_n_t25
                          have wl_n_t66 : m_wh t66 ((m_md t4)) = 56 := by rw [j_t66.1]; exact wl_n_t25
                          clear la_n_t25 wl_n_t25
                          have la_m_mdt4_t66 : m_la t66 (m_md t4) = (m_md t23) + 1 := by rw [j_t66.2.2.1]; exact la_m_mdt4_t25
                          have wl_m_mdt4_t66 : m_wh t66 ((m_md t23)) = 13 := by rw [j_t66.1]; exact wl_m_mdt4_t25
                          clear la_m_mdt4_t25 wl_m_mdt4_t25
                          refine Kp_push C_t66 (by omega) (fun t67 C_t67 X_t67 a_t67 b_t67 d_t67 w_t67 u_t67 v_t67 j_t67 l_t67 => ?_)
                          have e_t67 := C_t67.2.2.2.1
                          rw [a_t66] at a_t67
                          rw [b_t66] at b_t67
                          rw [d_t66] at d_t67
                          rw [w_t66] at w_t67
                          rw [u_t66] at u_t67
                          rw [v_t66] at v_t67
                          clear d_t66 w_t66 u_t66 v_t66 e_t66 a_t66 b_t66
                          have I_n_t67 := I_n_t66.flat X_t67
                          have f_n_t67 := f_n_t66.ex I_n_t66 (X_t67 0)
                          have u_n_t67 := u_n_t66.ex I_n_t66 (X_t67 0)
                          have I_m_mdt4_t67 := I_m_mdt4_t66.flat X_t67
                          have f_m_mdt4_t67 := f_m_mdt4_t66.ex I_m_mdt4_t66 (X_t67 0)
                          have I_m_mdt23_t67 := I_m_mdt23_t66.flat X_t67
                          have u_m_mdt23_t67 := u_m_mdt23_t66.ex I_m_mdt23_t66 (X_t67 0)
                          have la_n_t67 : m_la t67 n = (m_md t4) + 1 := by rw [j_t67.2.2.1]; exact la_n_t66
                          have wl_n_t67 : m_wh t67 ((m_md t4)) = 56 := by rw [j_t67.1]; exact wl_n_t66
                          clear la_n_t66 wl_n_t66
                          have la_m_mdt4_t67 : m_la t67 (m_md t4) = (m_md t23) + 1 := by rw [j_t67.2.2.1]; exact la_m_mdt4_t66
                          have wl_m_mdt4_t67 : m_wh t67 ((m_md t23)) = 13 := by rw [j_t67.1]; exact wl_m_mdt4_t66
                          clear la_m_mdt4_t66 wl_m_mdt4_t66
                          refine Ok_ret (show Ok _ _ _ from ?_)
                          refine Ok_ret (show Ok _ _ _ from ?_)
                          refine Hv_mk (Kv_c (x := (18, m_md t23, 1)) rfl (Kv_c (x := (5, m_md t23, 3)) rfl (Kv_c (x := (4, m_md t23, 3)) rfl hK))) (C_t67.1.2.2.2.2.2.2 hTt) C_t67 hT (by omega) (by omega) (by omega) ?_ ?_ ?_ (by omega) ?_ ?_ ?_
                          · exact ⟨(Io_n (by decide) (by decide) I_m_mdt23_t67.1 I_m_mdt23_t67.2.1 I_m_mdt23_t67.2.2.1 (fun q => absurd q (by decide)) (fun q => absurd q (by decide)) I_m_mdt23_t67.2.2.2), (Nd_0 (by decide) Mo_nil), ⟨(Io_n (by decide) (by decide) I_m_mdt23_t67.1 I_m_mdt23_t67.2.1 I_m_mdt23_t67.2.2.1 (fun q => absurd q (by decide)) (fun q => absurd q (by decide)) I_m_mdt23_t67.2.2.2), (Nd_5 (Mo_cons (fun q => show m_md t23 ≤ m_md t23 from by omega) Mo_nil) (Or.inl ⟨1, rfl⟩)), ⟨(Io_n (by decide) (by decide) I_m_mdt23_t67.1 I_m_mdt23_t67.2.1 I_m_mdt23_t67.2.2.1 (fun q => absurd q (by decide)) (fun q => absurd q (by decide)) I_m_mdt23_t67.2.2.2), (Nd_A (by decide) (Mo_cons (fun q => show m_md t23 ≤ m_md t23 from by omega) (Mo_cons (fun q => show m_md t23 ≤ m_md t23 from by omega) Mo_nil)) (Or.inr ⟨(18, m_md t23, 1), (List.mem_cons_of_mem _ List.mem_cons_self), rfl, Or.inr (Or.inl rfl)⟩)), Stk_step (N := n) (pop := (43, n, t)) (new := [(4, m_md t23, 3), (5, m_md t23, 3), (18, m_md t23, 1)]) F0 C_t67.1.to2 (fun (h : nk 43 = false) => absurd h (by decide)) (fun q _ h => h (43, n, t) rfl) (fun _ => rfl) (fun y hy hk => ⟨rfl, (Mo_cons (fun q => show n ≤ m_md t23 from by omega) (Mo_cons (fun q => show n ≤ m_md t23 from by omega) (Mo_cons (fun q => show n ≤ m_md t23 from by omega) Mo_nil))) y hy hk⟩) (fun (h : 43 = 3 ∨ 43 = 18 ∨ 43 = 41) => absurd h (by decide)) (fun (h : 43 = 18) => absurd h (by decide)) (fun _ h16 => (Or.inr ⟨f_n_t67, (Ab_some (y := (4, m_md t23, 3)) rfl (show n < m_md t23 from by omega)), H50_no la_n_t67 wl_n_t67 (by decide)⟩)) r [] (fun y hy => absurd hy List.not_mem_nil) hS⟩⟩⟩
                          · exact (Aj_up (x := (18, m_md t23, 1)) (Aj_up (x := (5, m_md t23, 3)) (Aj_sub (y := (4, m_md t23, 3)) hJ (Nat.le_of_ble_eq_true rfl)) (Or.inr (Nat.le_of_ble_eq_true rfl))) (Or.inr (Nat.le_of_ble_eq_true rfl)))
                          · show m_dp t67 = (dlt 18 + (dlt 5 + (dlt 4 + sD r)))
                            have : dlt 18 = 0 := rfl; have : dlt 4 = 0 := rfl; have : dlt 43 = 0 := rfl; have : dlt 5 = 0 := rfl; omega
                          · show m_rw t67 = (rho 18 + (rho 5 + (rho 4 + sR r)))
                            have : rho 18 = 0 := rfl; have : rho 4 = 0 := rfl; have : rho 43 = 0 := rfl; have : rho 5 = 0 := rfl; omega
                          · show m_md t67 + (mu7 18 + (mu7 5 + (mu7 4 + sM r))) ≤ 3 * m_at t67 + 7 * (r.length + 1 + 1 + 1) + 10
                            have : mu7 18 = 5 := rfl; have : mu7 4 = 7 := rfl; have : mu7 43 = 4 := rfl; have : mu7 5 = 7 := rfl; omega
                          · show (wt 18 + (wt 5 + (wt 4 + sW r))) + 6 * (4096 - m_at t67) + 4 * (600 - (r.length + 1 + 1 + 1)) < (wt 43 + sW r) + 6 * (4096 - m_at t0) + 4 * (600 - (r.length + 1))
                            have : wt 18 = 0 := rfl; have : wt 4 = 5 := rfl; have : wt 43 = 0 := rfl; have : wt 5 = 5 := rfl; omega
                        · refine Ok_ife (Nat.lt_trans (lo_lt (C_t25.tk hT) _) (by decide)) (by decide) (fun q68 => ?_) (fun q68 => ?_)
                          · refine Kp_push C_t25 (by omega) (fun t69 C_t69 X_t69 a_t69 b_t69 d_t69 w_t69 u_t69 v_t69 j_t69 l_t69 => ?_)
                            have e_t69 := C_t69.2.2.2.1
                            rw [a_t25] at a_t69
                            rw [b_t25] at b_t69
                            rw [d_t25] at d_t69
                            rw [w_t25] at w_t69
                            rw [u_t25] at u_t69
                            rw [v_t25] at v_t69
                            clear d_t25 w_t25 u_t25 v_t25 e_t25 a_t25 b_t25
                            have I_n_t69 := I_n_t25.flat X_t69
                            have f_n_t69 := f_n_t25.ex I_n_t25 (X_t69 0)
                            have u_n_t69 := u_n_t25.ex I_n_t25 (X_t69 0)
                            have I_m_mdt4_t69 := I_m_mdt4_t25.flat X_t69
                            have f_m_mdt4_t69 := f_m_mdt4_t25.ex I_m_mdt4_t25 (X_t69 0)
                            have I_m_mdt23_t69 := I_m_mdt23_t25.flat X_t69
                            have u_m_mdt23_t69 := u_m_mdt23_t25.ex I_m_mdt23_t25 (X_t69 0)
                            have la_n_t69 : m_la t69 n = (m_md t4) + 1 := by rw [j_t69.2.2.1]; exact la_n_t25
                            have wl_n_t69 : m_wh t69 ((m_md t4)) = 56 := by rw [j_t69.1]; exact wl_n_t25
                            clear la_n_t25 wl_n_t25
                            have la_m_mdt4_t69 : m_la t69 (m_md t4) = (m_md t23) + 1 := by rw [j_t69.2.2.1]; exact la_m_mdt4_t25
                            have wl_m_mdt4_t69 : m_wh t69 ((m_md t23)) = 13 := by rw [j_t69.1]; exact wl_m_mdt4_t25
                            clear la_m_mdt4_t25 wl_m_mdt4_t25
                            refine Kp_push C_t69 (by omega) (fun t70 C_t70 X_t70 a_t70 b_t70 d_t70 w_t70 u_t70 v_t70 j_t70 l_t70 => ?_)
                            have e_t70 := C_t70.2.2.2.1
                            rw [a_t69] at a_t70
                            rw [b_t69] at b_t70
                            rw [d_t69] at d_t70
                            rw [w_t69] at w_t70
                            rw [u_t69] at u_t70
                            rw [v_t69] at v_t70
                            clear d_t69 w_t69 u_t69 v_t69 e_t69 a_t69 b_t69
                            have I_n_t70 := I_n_t69.flat X_t70
                            have f_n_t70 := f_n_t69.ex I_n_t69 (X_t70 0)
                            have u_n_t70 := u_n_t69.ex I_n_t69 (X_t70 0)
                            have I_m_mdt4_t70 := I_m_mdt4_t69.flat X_t70
                            have f_m_mdt4_t70 := f_m_mdt4_t69.ex I_m_mdt4_t69 (X_t70 0)
                            have I_m_mdt23_t70 := I_m_mdt23_t69.flat X_t70
                            have u_m_mdt23_t70 := u_m_mdt23_t69.ex I_m_mdt23_t69 (X_t70 0)
                            have la_n_t70 : m_la t70 n = (m_md t4) + 1 := by rw [j_t70.2.2.1]; exact la_n_t69
                            have wl_n_t70 : m_wh t70 ((m_md t4)) = 56 := by rw [j_t70.1]; exact wl_n_t69
                            clear la_n_t69 wl_n_t69
                            have la_m_mdt4_t70 : m_la t70 (m_md t4) = (m_md t23) + 1 := by rw [j_t70.2.2.1]; exact la_m_mdt4_t69
                            have wl_m_mdt4_t70 : m_wh t70 ((m_md t23)) = 13 := by rw [j_t70.1]; exact wl_m_mdt4_t69
                            clear la_m_mdt4_t69 wl_m_mdt4_t69
                            refine Ok_ret (show Ok _ _ _ from ?_)
                            refine Ok_ret (show Ok _ _ _ from ?_)
                            refine Hv_mk (Kv_c (x := (18, m_md t23, 1)) rfl (Kv_c (x := (5, m_md t23, 3)) rfl (Kv_c (x := (4, m_md t23, 3)) rfl hK))) (C_t70.1.2.2.2.2.2.2 hTt) C_t70 hT (by omega) (by omega) (by omega) ?_ ?_ ?_ (by omega) ?_ ?_ ?_
                            · exact ⟨(Io_n (by decide) (by decide) I_m_mdt23_t70.1 I_m_mdt23_t70.2.1 I_m_mdt23_t70.2.2.1 (fun q => absurd q (by decide)) (fun q => absurd q (by decide)) I_m_mdt23_t70.2.2.2), (Nd_0 (by decide) Mo_nil), ⟨(Io_n (by decide) (by decide) I_m_mdt23_t70.1 I_m_mdt23_t70.2.1 I_m_mdt23_t70.2.2.1 (fun q => absurd q (by decide)) (fun q => absurd q (by decide)) I_m_mdt23_t70.2.2.2), (Nd_5 (Mo_cons (fun q => show m_md t23 ≤ m_md t23 from by omega) Mo_nil) (Or.inl ⟨1, rfl⟩)), ⟨(Io_n (by decide) (by decide) I_m_mdt23_t70.1 I_m_mdt23_t70.2.1 I_m_mdt23_t70.2.2.1 (fun q => absurd q (by decide)) (fun q => absurd q (by decide)) I_m_mdt23_t70.2.2.2), (Nd_A (by decide) (Mo_cons (fun q => show m_md t23 ≤ m_md t23 from by omega) (Mo_cons (fun q => show m_md t23 ≤ m_md t23 from by omega) Mo_nil)) (Or.inr ⟨(18, m_md t23, 1), (List.mem_cons_of_mem _ List.mem_cons_self), rfl, Or.inr (Or.inl rfl)⟩)), Stk_step (N := n) (pop := (43, n, t)) (new := [(4, m_md t23, 3), (5, m_md t23, 3), (18, m_md t23, 1)]) F0 C_t70.1.to2 (fun (h : nk 43 = false) => absurd h (by decide)) (fun q _ h => h (43, n, t) rfl) (fun _ => rfl) (fun y hy hk => ⟨rfl, (Mo_cons (fun q => show n ≤ m_md t23 from by omega) (Mo_cons (fun q => show n ≤ m_md t23 from by omega) (Mo_cons (fun q => show n ≤ m_md t23 from by omega) Mo_nil))) y hy hk⟩) (fun (h : 43 = 3 ∨ 43 = 18 ∨ 43 = 41) => absurd h (by decide)) (fun (h : 43 = 18) => absurd h (by decide)) (fun _ h16 => (Or.inr ⟨f_n_t70, (Ab_some (y := (4, m_md t23, 3)) rfl (show n < m_md t23 from by omega)), H50_no la_n_t70 wl_n_t70 (by decide)⟩)) r [] (fun y hy => absurd hy List.not_mem_nil) hS⟩⟩⟩
                            · exact (Aj_up (x := (18, m_md t23, 1)) (Aj_up (x := (5, m_md t23, 3)) (Aj_sub (y := (4, m_md t23, 3)) hJ (Nat.le_of_ble_eq_true rfl)) (Or.inr (Nat.le_of_ble_eq_true rfl))) (Or.inr (Nat.le_of_ble_eq_true rfl)))
                            · show m_dp t70 = (dlt 18 + (dlt 5 + (dlt 4 + sD r)))
                              have : dlt 18 = 0 := rfl; have : dlt 4 = 0 := rfl; have : dlt 43 = 0 := rfl; have : dlt 5 = 0 := rfl; omega
                            · show m_rw t70 = (rho 18 + (rho 5 + (rho 4 + sR r)))
                              have : rho 18 = 0 := rfl; have : rho 4 = 0 := rfl; have : rho 43 = 0 := rfl; have : rho 5 = 0 := rfl; omega
                            · show m_md t70 + (mu7 18 + (mu7 5 + (mu7 4 + sM r))) ≤ 3 * m_at t70 + 7 * (r.length + 1 + 1 + 1) + 10
                              have : mu7 18 = 5 := rfl; have : mu7 4 = 7 := rfl; have : mu7 43 = 4 := rfl; have : mu7 5 = 7 := rfl; omega
                            · show (wt 18 + (wt 5 + (wt 4 + sW r))) + 6 * (4096 - m_at t70) + 4 * (600 - (r.length + 1 + 1 + 1)) < (wt 43 + sW r) + 6 * (4096 - m_at t0) + 4 * (600 - (r.length + 1))
                              have : wt 18 = 0 := rfl; have : wt 4 = 5 := rfl; have : wt 43 = 0 := rfl; have : wt 5 = 5 := rfl; omega
                          · refine Ok_ife (Nat.lt_trans (lo_lt (C_t25.tk hT) _) (by decide)) (by decide) (fun q71 => ?_) (fun q71 => ?_)
                            · refine Kp_push C_t25 (by omega) (fun t72 C_t72 X_t72 a_t72 b_t72 d_t72 w_t72 u_t72 v_t72 j_t72 l_t72 => ?_)
                              have e_t72 := C_t72.2.2.2.1
                              rw [a_t25] at a_t72
                              rw [b_t25] at b_t72
                              rw [d_t25] at d_t72
                              rw [w_t25] at w_t72
                              rw [u_t25] at u_t72
                              rw [v_t25] at v_t72
                              clear d_t25 w_t25 u_t25 v_t25 e_t25 a_t25 b_t25
                              have I_n_t72 := I_n_t25.flat X_t72
                              have f_n_t72 := f_n_t25.ex I_n_t25 (X_t72 0)
                              have u_n_t72 := u_n_t25.ex I_n_t25 (X_t72 0)
                              have I_m_mdt4_t72 := I_m_mdt4_t25.flat X_t72
                              have f_m_mdt4_t72 := f_m_mdt4_t25.ex I_m_mdt4_t25 (X_t72 0)
                              have I_m_mdt23_t72 := I_m_mdt23_t25.flat X_t72
                              have u_m_mdt23_t72 := u_m_mdt23_t25.ex I_m_mdt23_t25 (X_t72 0)
                              have la_n_t72 : m_la t72 n = (m_md t4) + 1 := by rw [j_t72.2.2.1]; exact la_n_t25
                              have wl_n_t72 : m_wh t72 ((m_md t4)) = 56 := by rw [j_t72.1]; exact wl_n_t25
                              clear la_n_t25 wl_n_t25
                              have la_m_mdt4_t72 : m_la t72 (m_md t4) = (m_md t23) + 1 := by rw [j_t72.2.2.1]; exact la_m_mdt4_t25
                              have wl_m_mdt4_t72 : m_wh t72 ((m_md t23)) = 13 := by rw [j_t72.1]; exact wl_m_mdt4_t25
                              clear la_m_mdt4_t25 wl_m_mdt4_t25
                              refine Kp_push C_t72 (by omega) (fun t73 C_t73 X_t73 a_t73 b_t73 d_t73 w_t73 u_t73 v_t73 j_t73 l_t73 => ?_)
                              have e_t73 := C_t73.2.2.2.1
                              rw [a_t72] at a_t73
                              rw [b_t72] at b_t73
                              rw [d_t72] at d_t73
                              rw [w_t72] at w_t73
                              rw [u_t72] at u_t73
                              rw [v_t72] at v_t73
                              clear d_t72 w_t72 u_t72 v_t72 e_t72 a_t72 b_t72
                              have I_n_t73 := I_n_t72.flat X_t73
                              have f_n_t73 := f_n_t72.ex I_n_t72 (X_t73 0)
                              have u_n_t73 := u_n_t72.ex I_n_t72 (X_t73 0)
                              have I_m_mdt4_t73 := I_m_mdt4_t72.flat X_t73
                              have f_m_mdt4_t73 := f_m_mdt4_t72.ex I_m_mdt4_t72 (X_t73 0)
                              have I_m_mdt23_t73 := I_m_mdt23_t72.flat X_t73
                              have u_m_mdt23_t73 := u_m_mdt23_t72.ex I_m_mdt23_t72 (X_t73 0)
                              have la_n_t73 : m_la t73 n = (m_md t4) + 1 := by rw [j_t73.2.2.1]; exact la_n_t72
                              have wl_n_t73 : m_wh t73 ((m_md t4)) = 56 := by rw [j_t73.1]; exact wl_n_t72
                              clear la_n_t72 wl_n_t72
                              have la_m_mdt4_t73 : m_la t73 (m_md t4) = (m_md t23) + 1 := by rw [j_t73.2.2.1]; exact la_m_mdt4_t72
                              have wl_m_mdt4_t73 : m_wh t73 ((m_md t23)) = 13 := by rw [j_t73.1]; exact wl_m_mdt4_t72
                              clear la_m_mdt4_t72 wl_m_mdt4_t72
                              refine Ok_ret (show Ok _ _ _ from ?_)
                              refine Ok_ret (show Ok _ _ _ from ?_)
                              refine Hv_mk (Kv_c (x := (18, m_md t23, 1)) rfl (Kv_c (x := (5, m_md t23, 3)) rfl (Kv_c (x := (4, m_md t23, 3)) rfl hK))) (C_t73.1.2.2.2.2.2.2 hTt) C_t73 hT (by omega) (by omega) (by omega) ?_ ?_ ?_ (by omega) ?_ ?_ ?_
                              · exact ⟨(Io_n (by decide) (by decide) I_m_mdt23_t73.1 I_m_mdt23_t73.2.1 I_m_mdt23_t73.2.2.1 (fun q => absurd q (by decide)) (fun q => absurd q (by decide)) I_m_mdt23_t73.2.2.2), (Nd_0 (by decide) Mo_nil), ⟨(Io_n (by decide) (by decide) I_m_mdt23_t73.1 I_m_mdt23_t73.2.1 I_m_mdt23_t73.2.2.1 (fun q => absurd q (by decide)) (fun q => absurd q (by decide)) I_m_mdt23_t73.2.2.2), (Nd_5 (Mo_cons (fun q => show m_md t23 ≤ m_md t23 from by omega) Mo_nil) (Or.inl ⟨1, rfl⟩)), ⟨(Io_n (by decide) (by decide) I_m_mdt23_t73.1 I_m_mdt23_t73.2.1 I_m_mdt23_t73.2.2.1 (fun q => absurd q (by decide)) (fun q => absurd q (by decide)) I_m_mdt23_t73.2.2.2), (Nd_A (by decide) (Mo_cons (fun q => show m_md t23 ≤ m_md t23 from by omega) (Mo_cons (fun q => show m_md t23 ≤ m_md t23 from by omega) Mo_nil)) (Or.inr ⟨(18, m_md t23, 1), (List.mem_cons_of_mem _ List.mem_cons_self), rfl, Or.inr (Or.inl rfl)⟩)), Stk_step (N := n) (pop := (43, n, t)) (new := [(4, m_md t23, 3), (5, m_md t23, 3), (18, m_md t23, 1)]) F0 C_t73.1.to2 (fun (h : nk 43 = false) => absurd h (by decide)) (fun q _ h => h (43, n, t) rfl) (fun _ => rfl) (fun y hy hk => ⟨rfl, (Mo_cons (fun q => show n ≤ m_md t23 from by omega) (Mo_cons (fun q => show n ≤ m_md t23 from by omega) (Mo_cons (fun q => show n ≤ m_md t23 from by omega) Mo_nil))) y hy hk⟩) (fun (h : 43 = 3 ∨ 43 = 18 ∨ 43 = 41) => absurd h (by decide)) (fun (h : 43 = 18) => absurd h (by decide)) (fun _ h16 => (Or.inr ⟨f_n_t73, (Ab_some (y := (4, m_md t23, 3)) rfl (show n < m_md t23 from by omega)), H50_no la_n_t73 wl_n_t73 (by decide)⟩)) r [] (fun y hy => absurd hy List.not_mem_nil) hS⟩⟩⟩
                              · exact (Aj_up (x := (18, m_md t23, 1)) (Aj_up (x := (5, m_md t23, 3)) (Aj_sub (y := (4, m_md t23, 3)) hJ (Nat.le_of_ble_eq_true rfl)) (Or.inr (Nat.le_of_ble_eq_true rfl))) (Or.inr (Nat.le_of_ble_eq_true rfl)))
                              · show m_dp t73 = (dlt 18 + (dlt 5 + (dlt 4 + sD r)))
                                have : dlt 18 = 0 := rfl; have : dlt 4 = 0 := rfl; have : dlt 43 = 0 := rfl; have : dlt 5 = 0 := rfl; omega
                              · show m_rw t73 = (rho 18 + (rho 5 + (rho 4 + sR r)))
                                have : rho 18 = 0 := rfl; have : rho 4 = 0 := rfl; have : rho 43 = 0 := rfl; have : rho 5 = 0 := rfl; omega
                              · show m_md t73 + (mu7 18 + (mu7 5 + (mu7 4 + sM r))) ≤ 3 * m_at t73 + 7 * (r.length + 1 + 1 + 1) + 10
                                have : mu7 18 = 5 := rfl; have : mu7 4 = 7 := rfl; have : mu7 43 = 4 := rfl; have : mu7 5 = 7 := rfl; omega
                              · show (wt 18 + (wt 5 + (wt 4 + sW r))) + 6 * (4096 - m_at t73) + 4 * (600 - (r.length + 1 + 1 + 1)) < (wt 43 + sW r) + 6 * (4096 - m_at t0) + 4 * (600 - (r.length + 1))
                                have : wt 18 = 0 := rfl; have : wt 4 = 5 := rfl; have : wt 43 = 0 := rfl; have : wt 5 = 5 := rfl; omega
                            · refine Kp_error C_t25 (by omega) (fun t74 C_t74 X_t74 a_t74 b_t74 d_t74 w_t74 u_t74 v_t74 j_t74 l_t74 => ?_)
                              have wb_t74 := w_t74.2
                              have w_t74 := Nat.pos_of_ne_zero w_t74.1
                              have e_t74 := C_t74.2.2.2.1
                              have I_n_t74 := I_n_t25.flat X_t74
                              have f_n_t74 := f_n_t25.ex I_n_t25 (X_t74 0)
                              have u_n_t74 := u_n_t25.ex I_n_t25 (X_t74 0)
                              have I_m_mdt4_t74 := I_m_mdt4_t25.flat X_t74
                              have f_m_mdt4_t74 := f_m_mdt4_t25.ex I_m_mdt4_t25 (X_t74 0)
                              have I_m_mdt23_t74 := I_m_mdt23_t25.flat X_t74
                              have u_m_mdt23_t74 := u_m_mdt23_t25.ex I_m_mdt23_t25 (X_t74 0)
                              have la_n_t74 : m_la t74 n = (m_md t4) + 1 := by rw [j_t74.2.2.1]; exact la_n_t25
                              have wl_n_t74 : m_wh t74 ((m_md t4)) = 56 := by rw [j_t74.1]; exact wl_n_t25
                              clear la_n_t25 wl_n_t25
                              have la_m_mdt4_t74 : m_la t74 (m_md t4) = (m_md t23) + 1 := by rw [j_t74.2.2.1]; exact la_m_mdt4_t25
                              have wl_m_mdt4_t74 : m_wh t74 ((m_md t23)) = 13 := by rw [j_t74.1]; exact wl_m_mdt4_t25
                              clear la_m_mdt4_t25 wl_m_mdt4_t25
                              refine Ok_ret (show Ok _ _ _ from ?_)
                              refine Ok_ret (show Ok _ _ _ from ?_)
                              exact Or.inl ⟨Nat.ne_of_gt (show 0 < m_wr t74 from by omega), by omega, by omega, C_t74.2.2.2.2.2, by omega⟩
          · refine Kp_child C_t25 I_m_mdt23_t25.1 I_m_mdt23_t25.2.1 I_m_mdt23_t25.2.2.1 (by omega) (by omega) (by decide) (by decide) (fun t75 C_t75 X_t75 a_t75 b_t75 d_t75 w_t75 u_t75 v_t75 j_t75 l_t75 => ?_)
            have e_t75 := C_t75.2.2.2.1
            rw [a_t25] at a_t75
            rw [b_t25] at b_t75
            rw [d_t25] at d_t75
            rw [w_t25] at w_t75
            rw [u_t25] at u_t75
            rw [v_t25] at v_t75
            clear d_t25 w_t25 u_t25 v_t25 e_t25 a_t25
            have I_n_t75 := I_n_t25.chd X_t75 j_t75
            have f_n_t75 := f_n_t25.ex I_n_t25 (X_t75 0 (Nat.zero_le _))
            have u_n_t75 := u_n_t25.ex I_n_t25 (X_t75 0 (Nat.zero_le _))
            have I_m_mdt4_t75 := I_m_mdt4_t25.chd X_t75 j_t75
            have f_m_mdt4_t75 := f_m_mdt4_t25.ex I_m_mdt4_t25 (X_t75 0 (Nat.zero_le _))
            have I_m_mdt23_t75 := I_m_mdt23_t25.chd X_t75 j_t75
            have u_m_mdt23_t75 := u_m_mdt23_t25.ex I_m_mdt23_t25 (X_t75 0 (Nat.zero_le _))
            have la_n_t75 : m_la t75 n = (m_md t4) + 1 := by rw [(j_t75.2.2.2.2.2.2.2.1 n I_n_t25.1 (by omega)).1]; exact la_n_t25
            have wl_n_t75 : m_wh t75 ((m_md t4)) = 56 := by rw [(j_t75.2.2.2.2.2.2.1 ((m_md t4)) (by omega)).2]; exact wl_n_t25
            clear la_n_t25 wl_n_t25
            have la_m_mdt4_t75 : m_la t75 (m_md t4) = (m_md t23) + 1 := by rw [(j_t75.2.2.2.2.2.2.2.1 (m_md t4) I_m_mdt4_t25.1 (by omega)).1]; exact la_m_mdt4_t25
            have wl_m_mdt4_t75 : m_wh t75 ((m_md t23)) = 13 := by rw [(j_t75.2.2.2.2.2.2.1 ((m_md t23)) (by omega)).2]; exact wl_m_mdt4_t25
            clear la_m_mdt4_t25 wl_m_mdt4_t25
            have f_m_mdt23_t75 : Fz t75 (m_md t23) := j_t75.2.2.2.2.1
            have I_m_mdt25_t75 : Nq t75 (m_md t25) := Nq.chn j_t75 (by omega) I_m_mdt23_t25 (by decide)
            have u_m_mdt25_t75 : Up t75 (m_md t25) := Or.inl j_t75.2.1
            have la_m_mdt23_t75 : m_la t75 (m_md t23) = (m_md t25) + 1 := j_t75.2.2.2.2.2.1
            have wl_m_mdt23_t75 : m_wh t75 (m_md t25) = 88 := j_t75.1
            have z_t76 : m_at t75 < m_ct t75 := lo_ne (Nat.ne_of_gt (show 0 < lo t75 (m_at t75) from by omega))
            refine Kp_at C_t75 (fun t76 C_t76 X_t76 a_t76 b_t76 d_t76 w_t76 u_t76 v_t76 j_t76 l_t76 => ?_)
            have e_t76 := C_t76.2.2.2.1
            rw [a_t75] at a_t76
            rw [b_t75] at b_t76
            rw [d_t75] at d_t76
            rw [w_t75] at w_t76
            rw [u_t75] at u_t76
            rw [v_t75] at v_t76
            rw [a_t75, e_t75] at z_t76
            clear z_t23
            clear d_t75 w_t75 u_t75 v_t75 e_t75 a_t75 b_t75
            have I_n_t76 := I_n_t75.flat X_t76
            have f_n_t76 := f_n_t75.ex I_n_t75 (X_t76 0)
            have u_n_t76 := u_n_t75.ex I_n_t75 (X_t76 0)
            have I_m_mdt4_t76 := I_m_mdt4_t75.flat X_t76
            have f_m_mdt4_t76 := f_m_mdt4_t75.ex I_m_mdt4_t75 (X_t76 0)
            have I_m_mdt23_t76 := I_m_mdt23_t75.flat X_t76
            have f_m_mdt23_t76 := f_m_mdt23_t75.ex I_m_mdt23_t75 (X_t76 0)
            have u_m_mdt23_t76 := u_m_mdt23_t75.ex I_m_mdt23_t75 (X_t76 0)
            have I_m_mdt25_t76 := I_m_mdt25_t75.flat X_t76
            have u_m_mdt25_t76 := u_m_mdt25_t75.ex I_m_mdt25_t75 (X_t76 0)
            have la_n_t76 : m_la t76 n = (m_md t4) + 1 := by rw [j_t76.2.2.1]; exact la_n_t75
            have wl_n_t76 : m_wh t76 ((m_md t4)) = 56 := by rw [j_t76.1]; exact wl_n_t75
            clear la_n_t75 wl_n_t75
            have la_m_mdt4_t76 : m_la t76 (m_md t4) = (m_md t23) + 1 := by rw [j_t76.2.2.1]; exact la_m_mdt4_t75
            have wl_m_mdt4_t76 : m_wh t76 ((m_md t23)) = 13 := by rw [j_t76.1]; exact wl_m_mdt4_t75
            clear la_m_mdt4_t75 wl_m_mdt4_t75
            have la_m_mdt23_t76 : m_la t76 (m_md t23) = (m_md t25) + 1 := by rw [j_t76.2.2.1]; exact la_m_mdt23_t75
            have wl_m_mdt23_t76 : m_wh t76 ((m_md t25)) = 88 := by rw [j_t76.1]; exact wl_m_mdt23_t75
            clear la_m_mdt23_t75 wl_m_mdt23_t75
            refine Ok_ret (show Ok _ _ _ from ?_)
            refine Ok_ret (show Ok _ _ _ from ?_)
            refine Hv_mk (Kv_c (x := (4, m_md t23, 3)) rfl hK) (C_t76.1.2.2.2.2.2.2 hTt) C_t76 hT (by omega) (by omega) (by omega) ?_ ?_ ?_ (by omega) ?_ ?_ ?_
            · exact ⟨(Io_n (by decide) (by decide) I_m_mdt23_t76.1 I_m_mdt23_t76.2.1 I_m_mdt23_t76.2.2.1 (fun q => absurd q (by decide)) (fun q => absurd q (by decide)) I_m_mdt23_t76.2.2.2), (Nd_A (by decide) Mo_nil (Or.inl f_m_mdt23_t76)), Stk_step (N := n) (pop := (43, n, t)) (new := [(4, m_md t23, 3)]) F0 C_t76.1.to2 (fun (h : nk 43 = false) => absurd h (by decide)) (fun q _ h => h (43, n, t) rfl) (fun _ => rfl) (fun y hy hk => ⟨rfl, (Mo_cons (fun q => show n ≤ m_md t23 from by omega) Mo_nil) y hy hk⟩) (fun (h : 43 = 3 ∨ 43 = 18 ∨ 43 = 41) => absurd h (by decide)) (fun (h : 43 = 18) => absurd h (by decide)) (fun _ h16 => (Or.inr ⟨f_n_t76, (Ab_some (y := (4, m_md t23, 3)) rfl (show n < m_md t23 from by omega)), H50_no la_n_t76 wl_n_t76 (by decide)⟩)) r [] (fun y hy => absurd hy List.not_mem_nil) hS⟩
            · exact (Aj_sub (y := (4, m_md t23, 3)) hJ (Nat.le_of_ble_eq_true rfl))
            · show m_dp t76 = (dlt 4 + sD r)
              have : dlt 4 = 0 := rfl; have : dlt 43 = 0 := rfl; omega
            · show m_rw t76 = (rho 4 + sR r)
              have : rho 4 = 0 := rfl; have : rho 43 = 0 := rfl; omega
            · show m_md t76 + (mu7 4 + sM r) ≤ 3 * m_at t76 + 7 * (r.length + 1) + 10
              have : mu7 4 = 7 := rfl; have : mu7 43 = 4 := rfl; omega
            · show (wt 4 + sW r) + 6 * (4096 - m_at t76) + 4 * (600 - (r.length + 1)) < (wt 43 + sW r) + 6 * (4096 - m_at t0) + 4 * (600 - (r.length + 1))
              have : wt 4 = 5 := rfl; have : wt 43 = 0 := rfl; omega
        · refine Ok_ife (Nat.lt_trans (lo_lt (C_t25.tk hT) _) (by decide)) (by decide) (fun q77 => ?_) (fun q77 => ?_)
          · refine Ok_bnc ?_
            try unfold b_X6_name
            refine Kp_look C_t25 hT (by omega) ?_
            refine Ok_ife (Nat.lt_trans (lo_lt (C_t25.tk hT) _) (by decide)) (by decide) (fun q => ?_) (fun q => absurd q77 q)
            refine Kp_child C_t25 I_m_mdt23_t25.1 I_m_mdt23_t25.2.1 I_m_mdt23_t25.2.2.1 (by omega) (by omega) (by decide) (by decide) (fun t79 C_t79 X_t79 a_t79 b_t79 d_t79 w_t79 u_t79 v_t79 j_t79 l_t79 => ?_)
            have e_t79 := C_t79.2.2.2.1
            rw [a_t25] at a_t79
            rw [b_t25] at b_t79
            rw [d_t25] at d_t79
            rw [w_t25] at w_t79
            rw [u_t25] at u_t79
            rw [v_t25] at v_t79
            clear d_t25 w_t25 u_t25 v_t25 e_t25 a_t25
            have I_n_t79 := I_n_t25.chd X_t79 j_t79
            have f_n_t79 := f_n_t25.ex I_n_t25 (X_t79 0 (Nat.zero_le _))
            have u_n_t79 := u_n_t25.ex I_n_t25 (X_t79 0 (Nat.zero_le _))
            have I_m_mdt4_t79 := I_m_mdt4_t25.chd X_t79 j_t79
            have f_m_mdt4_t79 := f_m_mdt4_t25.ex I_m_mdt4_t25 (X_t79 0 (Nat.zero_le _))
            have I_m_mdt23_t79 := I_m_mdt23_t25.chd X_t79 j_t79
            have u_m_mdt23_t79 := u_m_mdt23_t25.ex I_m_mdt23_t25 (X_t79 0 (Nat.zero_le _))
            have la_n_t79 : m_la t79 n = (m_md t4) + 1 := by rw [(j_t79.2.2.2.2.2.2.2.1 n I_n_t25.1 (by omega)).1]; exact la_n_t25
            have wl_n_t79 : m_wh t79 ((m_md t4)) = 56 := by rw [(j_t79.2.2.2.2.2.2.1 ((m_md t4)) (by omega)).2]; exact wl_n_t25
            clear la_n_t25 wl_n_t25
            have la_m_mdt4_t79 : m_la t79 (m_md t4) = (m_md t23) + 1 := by rw [(j_t79.2.2.2.2.2.2.2.1 (m_md t4) I_m_mdt4_t25.1 (by omega)).1]; exact la_m_mdt4_t25
            have wl_m_mdt4_t79 : m_wh t79 ((m_md t23)) = 13 := by rw [(j_t79.2.2.2.2.2.2.1 ((m_md t23)) (by omega)).2]; exact wl_m_mdt4_t25
            clear la_m_mdt4_t25 wl_m_mdt4_t25
            have f_m_mdt23_t79 : Fz t79 (m_md t23) := j_t79.2.2.2.2.1
            have I_m_mdt25_t79 : Nq t79 (m_md t25) := Nq.chn j_t79 (by omega) I_m_mdt23_t25 (by decide)
            have u_m_mdt25_t79 : Up t79 (m_md t25) := Or.inl j_t79.2.1
            have la_m_mdt23_t79 : m_la t79 (m_md t23) = (m_md t25) + 1 := j_t79.2.2.2.2.2.1
            have wl_m_mdt23_t79 : m_wh t79 (m_md t25) = 5 := j_t79.1
            have z_t80 : m_at t79 < m_ct t79 := lo_ne (Nat.ne_of_gt (show 0 < lo t79 (m_at t79) from by omega))
            refine Kp_at C_t79 (fun t80 C_t80 X_t80 a_t80 b_t80 d_t80 w_t80 u_t80 v_t80 j_t80 l_t80 => ?_)
            have e_t80 := C_t80.2.2.2.1
            rw [a_t79] at a_t80
            rw [b_t79] at b_t80
            rw [d_t79] at d_t80
            rw [w_t79] at w_t80
            rw [u_t79] at u_t80
            rw [v_t79] at v_t80
            rw [a_t79, e_t79] at z_t80
            clear z_t23
            clear d_t79 w_t79 u_t79 v_t79 e_t79 a_t79 b_t79
            have I_n_t80 := I_n_t79.flat X_t80
            have f_n_t80 := f_n_t79.ex I_n_t79 (X_t80 0)
            have u_n_t80 := u_n_t79.ex I_n_t79 (X_t80 0)
            have I_m_mdt4_t80 := I_m_mdt4_t79.flat X_t80
            have f_m_mdt4_t80 := f_m_mdt4_t79.ex I_m_mdt4_t79 (X_t80 0)
            have I_m_mdt23_t80 := I_m_mdt23_t79.flat X_t80
            have f_m_mdt23_t80 := f_m_mdt23_t79.ex I_m_mdt23_t79 (X_t80 0)
            have u_m_mdt23_t80 := u_m_mdt23_t79.ex I_m_mdt23_t79 (X_t80 0)
            have I_m_mdt25_t80 := I_m_mdt25_t79.flat X_t80
            have u_m_mdt25_t80 := u_m_mdt25_t79.ex I_m_mdt25_t79 (X_t80 0)
            have la_n_t80 : m_la t80 n = (m_md t4) + 1 := by rw [j_t80.2.2.1]; exact la_n_t79
            have wl_n_t80 : m_wh t80 ((m_md t4)) = 56 := by rw [j_t80.1]; exact wl_n_t79
            clear la_n_t79 wl_n_t79
            have la_m_mdt4_t80 : m_la t80 (m_md t4) = (m_md t23) + 1 := by rw [j_t80.2.2.1]; exact la_m_mdt4_t79
            have wl_m_mdt4_t80 : m_wh t80 ((m_md t23)) = 13 := by rw [j_t80.1]; exact wl_m_mdt4_t79
            clear la_m_mdt4_t79 wl_m_mdt4_t79
            have la_m_mdt23_t80 : m_la t80 (m_md t23) = (m_md t25) + 1 := by rw [j_t80.2.2.1]; exact la_m_mdt23_t79
            have wl_m_mdt23_t80 : m_wh t80 ((m_md t25)) = 5 := by rw [j_t80.1]; exact wl_m_mdt23_t79
            clear la_m_mdt23_t79 wl_m_mdt23_t79
            refine Ok_ret (show Ok _ _ _ from ?_)
            refine Kp_push C_t80 (by omega) (fun t81 C_t81 X_t81 a_t81 b_t81 d_t81 w_t81 u_t81 v_t81 j_t81 l_t81 => ?_)
            have e_t81 := C_t81.2.2.2.1
            rw [a_t80] at a_t81
            rw [b_t80] at b_t81
            rw [d_t80] at d_t81
            rw [w_t80] at w_t81
            rw [u_t80] at u_t81
            rw [v_t80] at v_t81
            clear d_t80 w_t80 u_t80 v_t80 e_t80 a_t80 b_t80
            have I_n_t81 := I_n_t80.flat X_t81
            have f_n_t81 := f_n_t80.ex I_n_t80 (X_t81 0)
            have u_n_t81 := u_n_t80.ex I_n_t80 (X_t81 0)
            have I_m_mdt4_t81 := I_m_mdt4_t80.flat X_t81
            have f_m_mdt4_t81 := f_m_mdt4_t80.ex I_m_mdt4_t80 (X_t81 0)
            have I_m_mdt23_t81 := I_m_mdt23_t80.flat X_t81
            have f_m_mdt23_t81 := f_m_mdt23_t80.ex I_m_mdt23_t80 (X_t81 0)
            have u_m_mdt23_t81 := u_m_mdt23_t80.ex I_m_mdt23_t80 (X_t81 0)
            have I_m_mdt25_t81 := I_m_mdt25_t80.flat X_t81
            have u_m_mdt25_t81 := u_m_mdt25_t80.ex I_m_mdt25_t80 (X_t81 0)
            have la_n_t81 : m_la t81 n = (m_md t4) + 1 := by rw [j_t81.2.2.1]; exact la_n_t80
            have wl_n_t81 : m_wh t81 ((m_md t4)) = 56 := by rw [j_t81.1]; exact wl_n_t80
            clear la_n_t80 wl_n_t80
            have la_m_mdt4_t81 : m_la t81 (m_md t4) = (m_md t23) + 1 := by rw [j_t81.2.2.1]; exact la_m_mdt4_t80
            have wl_m_mdt4_t81 : m_wh t81 ((m_md t23)) = 13 := by rw [j_t81.1]; exact wl_m_mdt4_t80
            clear la_m_mdt4_t80 wl_m_mdt4_t80
            have la_m_mdt23_t81 : m_la t81 (m_md t23) = (m_md t25) + 1 := by rw [j_t81.2.2.1]; exact la_m_mdt23_t80
            have wl_m_mdt23_t81 : m_wh t81 ((m_md t25)) = 5 := by rw [j_t81.1]; exact wl_m_mdt23_t80
            clear la_m_mdt23_t80 wl_m_mdt23_t80
            refine Ok_ret (show Ok _ _ _ from ?_)
            refine Ok_ret (show Ok _ _ _ from ?_)
            refine Hv_mk (Kv_c (x := (5, m_md t23, 3)) rfl (Kv_c (x := (4, m_md t23, 3)) rfl hK)) (C_t81.1.2.2.2.2.2.2 hTt) C_t81 hT (by omega) (by omega) (by omega) ?_ ?_ ?_ (by omega) ?_ ?_ ?_
            · exact ⟨(Io_n (by decide) (by decide) I_m_mdt23_t81.1 I_m_mdt23_t81.2.1 I_m_mdt23_t81.2.2.1 (fun q => absurd q (by decide)) (fun q => absurd q (by decide)) I_m_mdt23_t81.2.2.2), (Nd_5 Mo_nil (Or.inr (N5_mk f_m_mdt23_t81 (Ab_none rfl) la_m_mdt23_t81 wl_m_mdt23_t81 (Or.inl (by decide))))), ⟨(Io_n (by decide) (by decide) I_m_mdt23_t81.1 I_m_mdt23_t81.2.1 I_m_mdt23_t81.2.2.1 (fun q => absurd q (by decide)) (fun q => absurd q (by decide)) I_m_mdt23_t81.2.2.2), (Nd_A (by decide) (Mo_cons (fun q => show m_md t23 ≤ m_md t23 from by omega) Mo_nil) (Or.inl f_m_mdt23_t81)), Stk_step (N := n) (pop := (43, n, t)) (new := [(4, m_md t23, 3), (5, m_md t23, 3)]) F0 C_t81.1.to2 (fun (h : nk 43 = false) => absurd h (by decide)) (fun q _ h => h (43, n, t) rfl) (fun _ => rfl) (fun y hy hk => ⟨rfl, (Mo_cons (fun q => show n ≤ m_md t23 from by omega) (Mo_cons (fun q => show n ≤ m_md t23 from by omega) Mo_nil)) y hy hk⟩) (fun (h : 43 = 3 ∨ 43 = 18 ∨ 43 = 41) => absurd h (by decide)) (fun (h : 43 = 18) => absurd h (by decide)) (fun _ h16 => (Or.inr ⟨f_n_t81, (Ab_some (y := (4, m_md t23, 3)) rfl (show n < m_md t23 from by omega)), H50_no la_n_t81 wl_n_t81 (by decide)⟩)) r [] (fun y hy => absurd hy List.not_mem_nil) hS⟩⟩
            · exact (Aj_up (x := (5, m_md t23, 3)) (Aj_sub (y := (4, m_md t23, 3)) hJ (Nat.le_of_ble_eq_true rfl)) (Or.inr (Nat.le_of_ble_eq_true rfl)))
            · show m_dp t81 = (dlt 5 + (dlt 4 + sD r))
              have : dlt 4 = 0 := rfl; have : dlt 43 = 0 := rfl; have : dlt 5 = 0 := rfl; omega
            · show m_rw t81 = (rho 5 + (rho 4 + sR r))
              have : rho 4 = 0 := rfl; have : rho 43 = 0 := rfl; have : rho 5 = 0 := rfl; omega
            · show m_md t81 + (mu7 5 + (mu7 4 + sM r)) ≤ 3 * m_at t81 + 7 * (r.length + 1 + 1) + 10
              have : mu7 4 = 7 := rfl; have : mu7 43 = 4 := rfl; have : mu7 5 = 7 := rfl; omega
            · show (wt 5 + (wt 4 + sW r)) + 6 * (4096 - m_at t81) + 4 * (600 - (r.length + 1 + 1)) < (wt 43 + sW r) + 6 * (4096 - m_at t0) + 4 * (600 - (r.length + 1))
              have : wt 4 = 5 := rfl; have : wt 43 = 0 := rfl; have : wt 5 = 5 := rfl; omega
          · refine Ok_ife (Nat.lt_trans (lo_lt (C_t25.tk hT) _) (by decide)) (by decide) (fun q82 => ?_) (fun q82 => ?_)
            · refine Kp_child C_t25 I_m_mdt23_t25.1 I_m_mdt23_t25.2.1 I_m_mdt23_t25.2.2.1 (by omega) (by omega) (by decide) (by decide) (fun t83 C_t83 X_t83 a_t83 b_t83 d_t83 w_t83 u_t83 v_t83 j_t83 l_t83 => ?_)
              have e_t83 := C_t83.2.2.2.1
              rw [a_t25] at a_t83
              rw [b_t25] at b_t83
              rw [d_t25] at d_t83
              rw [w_t25] at w_t83
              rw [u_t25] at u_t83
              rw [v_t25] at v_t83
              clear d_t25 w_t25 u_t25 v_t25 e_t25 a_t25
              have I_n_t83 := I_n_t25.chd X_t83 j_t83
              have f_n_t83 := f_n_t25.ex I_n_t25 (X_t83 0 (Nat.zero_le _))
              have u_n_t83 := u_n_t25.ex I_n_t25 (X_t83 0 (Nat.zero_le _))
              have I_m_mdt4_t83 := I_m_mdt4_t25.chd X_t83 j_t83
              have f_m_mdt4_t83 := f_m_mdt4_t25.ex I_m_mdt4_t25 (X_t83 0 (Nat.zero_le _))
              have I_m_mdt23_t83 := I_m_mdt23_t25.chd X_t83 j_t83
              have u_m_mdt23_t83 := u_m_mdt23_t25.ex I_m_mdt23_t25 (X_t83 0 (Nat.zero_le _))
              have la_n_t83 : m_la t83 n = (m_md t4) + 1 := by rw [(j_t83.2.2.2.2.2.2.2.1 n I_n_t25.1 (by omega)).1]; exact la_n_t25
              have wl_n_t83 : m_wh t83 ((m_md t4)) = 56 := by rw [(j_t83.2.2.2.2.2.2.1 ((m_md t4)) (by omega)).2]; exact wl_n_t25
              clear la_n_t25 wl_n_t25
              have la_m_mdt4_t83 : m_la t83 (m_md t4) = (m_md t23) + 1 := by rw [(j_t83.2.2.2.2.2.2.2.1 (m_md t4) I_m_mdt4_t25.1 (by omega)).1]; exact la_m_mdt4_t25
              have wl_m_mdt4_t83 : m_wh t83 ((m_md t23)) = 13 := by rw [(j_t83.2.2.2.2.2.2.1 ((m_md t23)) (by omega)).2]; exact wl_m_mdt4_t25
              clear la_m_mdt4_t25 wl_m_mdt4_t25
              have f_m_mdt23_t83 : Fz t83 (m_md t23) := j_t83.2.2.2.2.1
              have I_m_mdt25_t83 : Nq t83 (m_md t25) := Nq.chn j_t83 (by omega) I_m_mdt23_t25 (by decide)
              have u_m_mdt25_t83 : Up t83 (m_md t25) := Or.inl j_t83.2.1
              have la_m_mdt23_t83 : m_la t83 (m_md t23) = (m_md t25) + 1 := j_t83.2.2.2.2.2.1
              have wl_m_mdt23_t83 : m_wh t83 (m_md t25) = 89 := j_t83.1
              refine Kp_more C_t83 (by omega) (by omega) (fun t84 C_t84 X_t84 a_t84 b_t84 d_t84 w_t84 u_t84 v_t84 j_t84 l_t84 => ?_)
              have e_t84 := C_t84.2.2.2.1
              rcases w_t84 with ⟨w_t84, y_t84⟩ | ⟨w_t84, wb_t84⟩
              · rw [a_t83] at a_t84
                rw [b_t83] at b_t84
                rw [d_t83] at d_t84
                rw [w_t83] at w_t84
                rw [u_t83] at u_t84
                rw [v_t83] at v_t84
                rw [d_t84] at y_t84
                clear d_t83 w_t83 u_t83 v_t83 e_t83 a_t83 b_t83
                have I_n_t84 := I_n_t83.flat X_t84
                have f_n_t84 := f_n_t83.ex I_n_t83 (X_t84 0)
                have u_n_t84 := u_n_t83.ex I_n_t83 (X_t84 0)
                have I_m_mdt4_t84 := I_m_mdt4_t83.flat X_t84
                have f_m_mdt4_t84 := f_m_mdt4_t83.ex I_m_mdt4_t83 (X_t84 0)
                have I_m_mdt23_t84 := I_m_mdt23_t83.flat X_t84
                have f_m_mdt23_t84 := f_m_mdt23_t83.ex I_m_mdt23_t83 (X_t84 0)
                have u_m_mdt23_t84 := u_m_mdt23_t83.ex I_m_mdt23_t83 (X_t84 0)
                have I_m_mdt25_t84 := I_m_mdt25_t83.flat X_t84
                have u_m_mdt25_t84 := u_m_mdt25_t83.ex I_m_mdt25_t83 (X_t84 0)
                have la_n_t84 : m_la t84 n = (m_md t4) + 1 := by rw [j_t84.2.2.1]; exact la_n_t83
                have wl_n_t84 : m_wh t84 ((m_md t4)) = 56 := by rw [j_t84.1]; exact wl_n_t83
                clear la_n_t83 wl_n_t83
                have la_m_mdt4_t84 : m_la t84 (m_md t4) = (m_md t23) + 1 := by rw [j_t84.2.2.1]; exact la_m_mdt4_t83
                have wl_m_mdt4_t84 : m_wh t84 ((m_md t23)) = 13 := by rw [j_t84.1]; exact wl_m_mdt4_t83
                clear la_m_mdt4_t83 wl_m_mdt4_t83
                have la_m_mdt23_t84 : m_la t84 (m_md t23) = (m_md t25) + 1 := by rw [j_t84.2.2.1]; exact la_m_mdt23_t83
                have wl_m_mdt23_t84 : m_wh t84 ((m_md t25)) = 89 := by rw [j_t84.1]; exact wl_m_mdt23_t83
                clear la_m_mdt23_t83 wl_m_mdt23_t83
                have z_t85 : m_at t84 < m_ct t84 := lo_ne (Nat.ne_of_gt (show 0 < lo t84 (m_at t84) from by omega))
                refine Kp_at C_t84 (fun t85 C_t85 X_t85 a_t85 b_t85 d_t85 w_t85 u_t85 v_t85 j_t85 l_t85 => ?_)
                have e_t85 := C_t85.2.2.2.1
                rw [a_t84] at a_t85
                rw [b_t84] at b_t85
                rw [d_t84] at d_t85
                rw [w_t84] at w_t85
                rw [u_t84] at u_t85
                rw [v_t84] at v_t85
                rw [a_t84, e_t84] at z_t85
                clear z_t23
                clear d_t84 w_t84 u_t84 v_t84 e_t84 a_t84 b_t84
                have I_n_t85 := I_n_t84.flat X_t85
                have f_n_t85 := f_n_t84.ex I_n_t84 (X_t85 0)
                have u_n_t85 := u_n_t84.ex I_n_t84 (X_t85 0)
                have I_m_mdt4_t85 := I_m_mdt4_t84.flat X_t85
                have f_m_mdt4_t85 := f_m_mdt4_t84.ex I_m_mdt4_t84 (X_t85 0)
                have I_m_mdt23_t85 := I_m_mdt23_t84.flat X_t85
                have f_m_mdt23_t85 := f_m_mdt23_t84.ex I_m_mdt23_t84 (X_t85 0)
                have u_m_mdt23_t85 := u_m_mdt23_t84.ex I_m_mdt23_t84 (X_t85 0)
                have I_m_mdt25_t85 := I_m_mdt25_t84.flat X_t85
                have u_m_mdt25_t85 := u_m_mdt25_t84.ex I_m_mdt25_t84 (X_t85 0)
                have la_n_t85 : m_la t85 n = (m_md t4) + 1 := by rw [j_t85.2.2.1]; exact la_n_t84
                have wl_n_t85 : m_wh t85 ((m_md t4)) = 56 := by rw [j_t85.1]; exact wl_n_t84
                clear la_n_t84 wl_n_t84
                have la_m_mdt4_t85 : m_la t85 (m_md t4) = (m_md t23) + 1 := by rw [j_t85.2.2.1]; exact la_m_mdt4_t84
                have wl_m_mdt4_t85 : m_wh t85 ((m_md t23)) = 13 := by rw [j_t85.1]; exact wl_m_mdt4_t84
                clear la_m_mdt4_t84 wl_m_mdt4_t84
                have la_m_mdt23_t85 : m_la t85 (m_md t23) = (m_md t25) + 1 := by rw [j_t85.2.2.1]; exact la_m_mdt23_t84
                have wl_m_mdt23_t85 : m_wh t85 ((m_md t25)) = 89 := by rw [j_t85.1]; exact wl_m_mdt23_t84
                clear la_m_mdt23_t84 wl_m_mdt23_t84
                refine Kp_push C_t85 (by omega) (fun t86 C_t86 X_t86 a_t86 b_t86 d_t86 w_t86 u_t86 v_t86 j_t86 l_t86 => ?_)
                have e_t86 := C_t86.2.2.2.1
                rw [a_t85] at a_t86
                rw [b_t85] at b_t86
                rw [d_t85] at d_t86
                rw [w_t85] at w_t86
                rw [u_t85] at u_t86
                rw [v_t85] at v_t86
                clear d_t85 w_t85 u_t85 v_t85 e_t85 a_t85 b_t85
                have I_n_t86 := I_n_t85.flat X_t86
                have f_n_t86 := f_n_t85.ex I_n_t85 (X_t86 0)
                have u_n_t86 := u_n_t85.ex I_n_t85 (X_t86 0)
                have I_m_mdt4_t86 := I_m_mdt4_t85.flat X_t86
                have f_m_mdt4_t86 := f_m_mdt4_t85.ex I_m_mdt4_t85 (X_t86 0)
                have I_m_mdt23_t86 := I_m_mdt23_t85.flat X_t86
                have f_m_mdt23_t86 := f_m_mdt23_t85.ex I_m_mdt23_t85 (X_t86 0)
                have u_m_mdt23_t86 := u_m_mdt23_t85.ex I_m_mdt23_t85 (X_t86 0)
                have I_m_mdt25_t86 := I_m_mdt25_t85.flat X_t86
                have u_m_mdt25_t86 := u_m_mdt25_t85.ex I_m_mdt25_t85 (X_t86 0)
                have la_n_t86 : m_la t86 n = (m_md t4) + 1 := by rw [j_t86.2.2.1]; exact la_n_t85
                have wl_n_t86 : m_wh t86 ((m_md t4)) = 56 := by rw [j_t86.1]; exact wl_n_t85
                clear la_n_t85 wl_n_t85
                have la_m_mdt4_t86 : m_la t86 (m_md t4) = (m_md t23) + 1 := by rw [j_t86.2.2.1]; exact la_m_mdt4_t85
                have wl_m_mdt4_t86 : m_wh t86 ((m_md t23)) = 13 := by rw [j_t86.1]; exact wl_m_mdt4_t85
                clear la_m_mdt4_t85 wl_m_mdt4_t85
                have la_m_mdt23_t86 : m_la t86 (m_md t23) = (m_md t25) + 1 := by rw [j_t86.2.2.1]; exact la_m_mdt23_t85
                have wl_m_mdt23_t86 : m_wh t86 ((m_md t25)) = 89 := by rw [j_t86.1]; exact wl_m_mdt23_t85
                clear la_m_mdt23_t85 wl_m_mdt23_t85
                refine Ok_bnc ?_
                try unfold b_X6_expression
                refine Kp_push C_t86 (by omega) (fun t88 C_t88 X_t88 a_t88 b_t88 d_t88 w_t88 u_t88 v_t88 j_t88 l_t88 => ?_)
                have e_t88 := C_t88.2.2.2.1
                rw [a_t86] at a_t88
                rw [b_t86] at b_t88
                rw [d_t86] at d_t88
                rw [w_t86] at w_t88
                rw [u_t86] at u_t88
                rw [v_t86] at v_t88
                clear d_t86 w_t86 u_t86 v_t86 e_t86 a_t86 b_t86
                have I_n_t88 := I_n_t86.flat X_t88
                have f_n_t88 := f_n_t86.ex I_n_t86 (X_t88 0)
                have u_n_t88 := u_n_t86.ex I_n_t86 (X_t88 0)
                have I_m_mdt4_t88 := I_m_mdt4_t86.flat X_t88
                have f_m_mdt4_t88 := f_m_mdt4_t86.ex I_m_mdt4_t86 (X_t88 0)
                have I_m_mdt23_t88 := I_m_mdt23_t86.flat X_t88
                have f_m_mdt23_t88 := f_m_mdt23_t86.ex I_m_mdt23_t86 (X_t88 0)
                have u_m_mdt23_t88 := u_m_mdt23_t86.ex I_m_mdt23_t86 (X_t88 0)
                have I_m_mdt25_t88 := I_m_mdt25_t86.flat X_t88
                have u_m_mdt25_t88 := u_m_mdt25_t86.ex I_m_mdt25_t86 (X_t88 0)
                have la_n_t88 : m_la t88 n = (m_md t4) + 1 := by rw [j_t88.2.2.1]; exact la_n_t86
                have wl_n_t88 : m_wh t88 ((m_md t4)) = 56 := by rw [j_t88.1]; exact wl_n_t86
                clear la_n_t86 wl_n_t86
                have la_m_mdt4_t88 : m_la t88 (m_md t4) = (m_md t23) + 1 := by rw [j_t88.2.2.1]; exact la_m_mdt4_t86
                have wl_m_mdt4_t88 : m_wh t88 ((m_md t23)) = 13 := by rw [j_t88.1]; exact wl_m_mdt4_t86
                clear la_m_mdt4_t86 wl_m_mdt4_t86
                have la_m_mdt23_t88 : m_la t88 (m_md t23) = (m_md t25) + 1 := by rw [j_t88.2.2.1]; exact la_m_mdt23_t86
                have wl_m_mdt23_t88 : m_wh t88 ((m_md t25)) = 89 := by rw [j_t88.1]; exact wl_m_mdt23_t86
                clear la_m_mdt23_t86 wl_m_mdt23_t86
                refine Kp_push C_t88 (by omega) (fun t89 C_t89 X_t89 a_t89 b_t89 d_t89 w_t89 u_t89 v_t89 j_t89 l_t89 => ?_)
                have e_t89 := C_t89.2.2.2.1
                rw [a_t88] at a_t89
                rw [b_t88] at b_t89
                rw [d_t88] at d_t89
                rw [w_t88] at w_t89
                rw [u_t88] at u_t89
                rw [v_t88] at v_t89
                clear d_t88 w_t88 u_t88 v_t88 e_t88 a_t88 b_t88
                have I_n_t89 := I_n_t88.flat X_t89
                have f_n_t89 := f_n_t88.ex I_n_t88 (X_t89 0)
                have u_n_t89 := u_n_t88.ex I_n_t88 (X_t89 0)
                have I_m_mdt4_t89 := I_m_mdt4_t88.flat X_t89
                have f_m_mdt4_t89 := f_m_mdt4_t88.ex I_m_mdt4_t88 (X_t89 0)
                have I_m_mdt23_t89 := I_m_mdt23_t88.flat X_t89
                have f_m_mdt23_t89 := f_m_mdt23_t88.ex I_m_mdt23_t88 (X_t89 0)
                have u_m_mdt23_t89 := u_m_mdt23_t88.ex I_m_mdt23_t88 (X_t89 0)
                have I_m_mdt25_t89 := I_m_mdt25_t88.flat X_t89
                have u_m_mdt25_t89 := u_m_mdt25_t88.ex I_m_mdt25_t88 (X_t89 0)
                have la_n_t89 : m_la t89 n = (m_md t4) + 1 := by rw [j_t89.2.2.1]; exact la_n_t88
                have wl_n_t89 : m_wh t89 ((m_md t4)) = 56 := by rw [j_t89.1]; exact wl_n_t88
                clear la_n_t88 wl_n_t88
                have la_m_mdt4_t89 : m_la t89 (m_md t4) = (m_md t23) + 1 := by rw [j_t89.2.2.1]; exact la_m_mdt4_t88
                have wl_m_mdt4_t89 : m_wh t89 ((m_md t23)) = 13 := by rw [j_t89.1]; exact wl_m_mdt4_t88
                clear la_m_mdt4_t88 wl_m_mdt4_t88
                have la_m_mdt23_t89 : m_la t89 (m_md t23) = (m_md t25) + 1 := by rw [j_t89.2.2.1]; exact la_m_mdt23_t88
                have wl_m_mdt23_t89 : m_wh t89 ((m_md t25)) = 89 := by rw [j_t89.1]; exact wl_m_mdt23_t88
                clear la_m_mdt23_t88 wl_m_mdt23_t88
                refine Ok_ret (show Ok _ _ _ from ?_)
                refine Ok_ret (show Ok _ _ _ from ?_)
                refine Ok_ret (show Ok _ _ _ from ?_)
                refine Hv_mk (Kv_c (x := (3, m_md t25, 0)) rfl (Kv_c (x := (2, m_md t25, 0 ||| (1 * 256))) rfl (Kv_c (x := (8, 79, 0)) rfl (Kv_c (x := (4, m_md t23, 3)) rfl hK)))) (C_t89.1.2.2.2.2.2.2 hTt) C_t89 hT (by omega) (by omega) (by omega) ?_ ?_ ?_ (by omega) ?_ ?_ ?_
                · exact ⟨(Io_n (by decide) (by decide) I_m_mdt25_t89.1 I_m_mdt25_t89.2.1 I_m_mdt25_t89.2.2.1 (fun q => absurd q (by decide)) (fun q => absurd q (by decide)) I_m_mdt25_t89.2.2.2), (Nd_0 (by decide) Mo_nil), ⟨(Io_2 (by have := or_256 (b := 1) (show 0 < 256 from by omega); omega) (by have := or_256 (b := 1) (show 0 < 256 from by omega); omega) (by have := or_256 (b := 1) (show 0 < 256 from by omega); omega) I_m_mdt25_t89.1 I_m_mdt25_t89.2.1 I_m_mdt25_t89.2.2.1 I_m_mdt25_t89.2.2.2), (Nd_A (by decide) (Mo_cons (fun q => show m_md t25 ≤ m_md t25 from by omega) Mo_nil) (Or.inr ⟨(3, m_md t25, 0), List.mem_cons_self, rfl, Or.inl rfl⟩)), ⟨(Io_78 (by decide) (by decide) (by decide)), (Nd_x (by decide)), ⟨(Io_n (by decide) (by decide) I_m_mdt23_t89.1 I_m_mdt23_t89.2.1 I_m_mdt23_t89.2.2.1 (fun q => absurd q (by decide)) (fun q => absurd q (by decide)) I_m_mdt23_t89.2.2.2), (Nd_A (by decide) (Mo_cons (fun q => absurd (show nk 8 = true from q) (by decide)) (Mo_cons (fun q => show m_md t23 ≤ m_md t25 from by omega) (Mo_cons (fun q => show m_md t23 ≤ m_md t25 from by omega) Mo_nil))) (Or.inl f_m_mdt23_t89)), Stk_step (N := n) (pop := (43, n, t)) (new := [(4, m_md t23, 3), (8, 79, 0), (2, m_md t25, 0 ||| (1 * 256)), (3, m_md t25, 0)]) F0 C_t89.1.to2 (fun (h : nk 43 = false) => absurd h (by decide)) (fun q _ h => h (43, n, t) rfl) (fun _ => rfl) (fun y hy hk => ⟨rfl, (Mo_cons (fun q => show n ≤ m_md t23 from by omega) (Mo_cons (fun q => absurd (show nk 8 = true from q) (by decide)) (Mo_cons (fun q => show n ≤ m_md t25 from by omega) (Mo_cons (fun q => show n ≤ m_md t25 from by omega) Mo_nil)))) y hy hk⟩) (fun (h : 43 = 3 ∨ 43 = 18 ∨ 43 = 41) => absurd h (by decide)) (fun (h : 43 = 18) => absurd h (by decide)) (fun _ h16 => (Or.inr ⟨f_n_t89, (Ab_some (y := (4, m_md t23, 3)) rfl (show n < m_md t23 from by omega)), H50_no la_n_t89 wl_n_t89 (by decide)⟩)) r [] (fun y hy => absurd hy List.not_mem_nil) hS⟩⟩⟩⟩
                · exact (Aj_up (x := (3, m_md t25, 0)) (Aj_up (x := (2, m_md t25, 0 ||| (1 * 256))) (Aj_up (x := (8, 79, 0)) (Aj_sub (y := (4, m_md t23, 3)) hJ (Nat.le_of_ble_eq_true rfl)) (Or.inr (Nat.le_of_ble_eq_true rfl))) (Or.inl (Nat.le_of_ble_eq_true rfl))) (Or.inr (show 2 < 9 - (0 ||| (1 * 256)) / 256 from by have := or_256 (b := 1) (show 0 < 256 from by omega); omega)))
                · show m_dp t89 = (dlt 3 + (dlt 2 + (dlt 8 + (dlt 4 + sD r))))
                  have : dlt 2 = 0 := rfl; have : dlt 3 = 0 := rfl; have : dlt 4 = 0 := rfl; have : dlt 43 = 0 := rfl; have : dlt 8 = 1 := rfl; omega
                · show m_rw t89 = (rho 3 + (rho 2 + (rho 8 + (rho 4 + sR r))))
                  have : rho 2 = 0 := rfl; have : rho 3 = 0 := rfl; have : rho 4 = 0 := rfl; have : rho 43 = 0 := rfl; have : rho 8 = 0 := rfl; omega
                · show m_md t89 + (mu7 3 + (mu7 2 + (mu7 8 + (mu7 4 + sM r)))) ≤ 3 * m_at t89 + 7 * (r.length + 1 + 1 + 1 + 1) + 10
                  have : mu7 2 = 7 := rfl; have : mu7 3 = 5 := rfl; have : mu7 4 = 7 := rfl; have : mu7 43 = 4 := rfl; have : mu7 8 = 4 := rfl; omega
                · show (wt 3 + (wt 2 + (wt 8 + (wt 4 + sW r)))) + 6 * (4096 - m_at t89) + 4 * (600 - (r.length + 1 + 1 + 1 + 1)) < (wt 43 + sW r) + 6 * (4096 - m_at t0) + 4 * (600 - (r.length + 1))
                  have : wt 2 = 5 := rfl; have : wt 3 = 3 := rfl; have : wt 4 = 5 := rfl; have : wt 43 = 0 := rfl; have : wt 8 = 0 := rfl; omega
              · have w_t84 := Nat.pos_of_ne_zero w_t84
                have I_n_t84 := I_n_t83.flat X_t84
                have f_n_t84 := f_n_t83.ex I_n_t83 (X_t84 0)
                have u_n_t84 := u_n_t83.ex I_n_t83 (X_t84 0)
                have I_m_mdt4_t84 := I_m_mdt4_t83.flat X_t84
                have f_m_mdt4_t84 := f_m_mdt4_t83.ex I_m_mdt4_t83 (X_t84 0)
                have I_m_mdt23_t84 := I_m_mdt23_t83.flat X_t84
                have f_m_mdt23_t84 := f_m_mdt23_t83.ex I_m_mdt23_t83 (X_t84 0)
                have u_m_mdt23_t84 := u_m_mdt23_t83.ex I_m_mdt23_t83 (X_t84 0)
                have I_m_mdt25_t84 := I_m_mdt25_t83.flat X_t84
                have u_m_mdt25_t84 := u_m_mdt25_t83.ex I_m_mdt25_t83 (X_t84 0)
                have la_n_t84 : m_la t84 n = (m_md t4) + 1 := by rw [j_t84.2.2.1]; exact la_n_t83
                have wl_n_t84 : m_wh t84 ((m_md t4)) = 56 := by rw [j_t84.1]; exact wl_n_t83
                clear la_n_t83 wl_n_t83
                have la_m_mdt4_t84 : m_la t84 (m_md t4) = (m_md t23) + 1 := by rw [j_t84.2.2.1]; exact la_m_mdt4_t83
                have wl_m_mdt4_t84 : m_wh t84 ((m_md t23)) = 13 := by rw [j_t84.1]; exact wl_m_mdt4_t83
                clear la_m_mdt4_t83 wl_m_mdt4_t83
                have la_m_mdt23_t84 : m_la t84 (m_md t23) = (m_md t25) + 1 := by rw [j_t84.2.2.1]; exact la_m_mdt23_t83
                have wl_m_mdt23_t84 : m_wh t84 ((m_md t25)) = 89 := by rw [j_t84.1]; exact wl_m_mdt23_t83
                clear la_m_mdt23_t83 wl_m_mdt23_t83
                refine Kp_at C_t84 (fun t90 C_t90 X_t90 a_t90 b_t90 d_t90 w_t90 u_t90 v_t90 j_t90 l_t90 => ?_)
                have e_t90 := C_t90.2.2.2.1
                have I_n_t90 := I_n_t84.flat X_t90
                have f_n_t90 := f_n_t84.ex I_n_t84 (X_t90 0)
                have u_n_t90 := u_n_t84.ex I_n_t84 (X_t90 0)
                have I_m_mdt4_t90 := I_m_mdt4_t84.flat X_t90
                have f_m_mdt4_t90 := f_m_mdt4_t84.ex I_m_mdt4_t84 (X_t90 0)
                have I_m_mdt23_t90 := I_m_mdt23_t84.flat X_t90
                have f_m_mdt23_t90 := f_m_mdt23_t84.ex I_m_mdt23_t84 (X_t90 0)
                have u_m_mdt23_t90 := u_m_mdt23_t84.ex I_m_mdt23_t84 (X_t90 0)
                have I_m_mdt25_t90 := I_m_mdt25_t84.flat X_t90
                have u_m_mdt25_t90 := u_m_mdt25_t84.ex I_m_mdt25_t84 (X_t90 0)
                have la_n_t90 : m_la t90 n = (m_md t4) + 1 := by rw [j_t90.2.2.1]; exact la_n_t84
                have wl_n_t90 : m_wh t90 ((m_md t4)) = 56 := by rw [j_t90.1]; exact wl_n_t84
                clear la_n_t84 wl_n_t84
                have la_m_mdt4_t90 : m_la t90 (m_md t4) = (m_md t23) + 1 := by rw [j_t90.2.2.1]; exact la_m_mdt4_t84
                have wl_m_mdt4_t90 : m_wh t90 ((m_md t23)) = 13 := by rw [j_t90.1]; exact wl_m_mdt4_t84
                clear la_m_mdt4_t84 wl_m_mdt4_t84
                have la_m_mdt23_t90 : m_la t90 (m_md t23) = (m_md t25) + 1 := by rw [j_t90.2.2.1]; exact la_m_mdt23_t84
                have wl_m_mdt23_t90 : m_wh t90 ((m_md t25)) = 89 := by rw [j_t90.1]; exact wl_m_mdt23_t84
                clear la_m_mdt23_t84 wl_m_mdt23_t84
                refine Kp_push C_t90 (by omega) (fun t91 C_t91 X_t91 a_t91 b_t91 d_t91 w_t91 u_t91 v_t91 j_t91 l_t91 => ?_)
                have e_t91 := C_t91.2.2.2.1
                have I_n_t91 := I_n_t90.flat X_t91
                have f_n_t91 := f_n_t90.ex I_n_t90 (X_t91 0)
                have u_n_t91 := u_n_t90.ex I_n_t90 (X_t91 0)
                have I_m_mdt4_t91 := I_m_mdt4_t90.flat X_t91
                have f_m_mdt4_t91 := f_m_mdt4_t90.ex I_m_mdt4_t90 (X_t91 0)
                have I_m_mdt23_t91 := I_m_mdt23_t90.flat X_t91
                have f_m_mdt23_t91 := f_m_mdt23_t90.ex I_m_mdt23_t90 (X_t91 0)
                have u_m_mdt23_t91 := u_m_mdt23_t90.ex I_m_mdt23_t90 (X_t91 0)
                have I_m_mdt25_t91 := I_m_mdt25_t90.flat X_t91
                have u_m_mdt25_t91 := u_m_mdt25_t90.ex I_m_mdt25_t90 (X_t91 0)
                have la_n_t91 : m_la t91 n = (m_md t4) + 1 := by rw [j_t91.2.2.1]; exact la_n_t90
                have wl_n_t91 : m_wh t91 ((m_md t4)) = 56 := by rw [j_t91.1]; exact wl_n_t90
                clear la_n_t90 wl_n_t90
                have la_m_mdt4_t91 : m_la t91 (m_md t4) = (m_md t23) + 1 := by rw [j_t91.2.2.1]; exact la_m_mdt4_t90
                have wl_m_mdt4_t91 : m_wh t91 ((m_md t23)) = 13 := by rw [j_t91.1]; exact wl_m_mdt4_t90
                clear la_m_mdt4_t90 wl_m_mdt4_t90
                have la_m_mdt23_t91 : m_la t91 (m_md t23) = (m_md t25) + 1 := by rw [j_t91.2.2.1]; exact la_m_mdt23_t90
                have wl_m_mdt23_t91 : m_wh t91 ((m_md t25)) = 89 := by rw [j_t91.1]; exact wl_m_mdt23_t90
                clear la_m_mdt23_t90 wl_m_mdt23_t90
                refine Ok_bnc ?_
                try unfold b_X6_expression
                refine Kp_push C_t91 (by omega) (fun t93 C_t93 X_t93 a_t93 b_t93 d_t93 w_t93 u_t93 v_t93 j_t93 l_t93 => ?_)
                have e_t93 := C_t93.2.2.2.1
                have I_n_t93 := I_n_t91.flat X_t93
                have f_n_t93 := f_n_t91.ex I_n_t91 (X_t93 0)
                have u_n_t93 := u_n_t91.ex I_n_t91 (X_t93 0)
                have I_m_mdt4_t93 := I_m_mdt4_t91.flat X_t93
                have f_m_mdt4_t93 := f_m_mdt4_t91.ex I_m_mdt4_t91 (X_t93 0)
                have I_m_mdt23_t93 := I_m_mdt23_t91.flat X_t93
                have f_m_mdt23_t93 := f_m_mdt23_t91.ex I_m_mdt23_t91 (X_t93 0)
                have u_m_mdt23_t93 := u_m_mdt23_t91.ex I_m_mdt23_t91 (X_t93 0)
                have I_m_mdt25_t93 := I_m_mdt25_t91.flat X_t93
                have u_m_mdt25_t93 := u_m_mdt25_t91.ex I_m_mdt25_t91 (X_t93 0)
                have la_n_t93 : m_la t93 n = (m_md t4) + 1 := by rw [j_t93.2.2.1]; exact la_n_t91
                have wl_n_t93 : m_wh t93 ((m_md t4)) = 56 := by rw [j_t93.1]; exact wl_n_t91
                clear la_n_t91 wl_n_t91
                have la_m_mdt4_t93 : m_la t93 (m_md t4) = (m_md t23) + 1 := by rw [j_t93.2.2.1]; exact la_m_mdt4_t91
                have wl_m_mdt4_t93 : m_wh t93 ((m_md t23)) = 13 := by rw [j_t93.1]; exact wl_m_mdt4_t91
                clear la_m_mdt4_t91 wl_m_mdt4_t91
                have la_m_mdt23_t93 : m_la t93 (m_md t23) = (m_md t25) + 1 := by rw [j_t93.2.2.1]; exact la_m_mdt23_t91
                have wl_m_mdt23_t93 : m_wh t93 ((m_md t25)) = 89 := by rw [j_t93.1]; exact wl_m_mdt23_t91
                clear la_m_mdt23_t91 wl_m_mdt23_t91
                refine Kp_push C_t93 (by omega) (fun t94 C_t94 X_t94 a_t94 b_t94 d_t94 w_t94 u_t94 v_t94 j_t94 l_t94 => ?_)
                have e_t94 := C_t94.2.2.2.1
                have I_n_t94 := I_n_t93.flat X_t94
                have f_n_t94 := f_n_t93.ex I_n_t93 (X_t94 0)
                have u_n_t94 := u_n_t93.ex I_n_t93 (X_t94 0)
                have I_m_mdt4_t94 := I_m_mdt4_t93.flat X_t94
                have f_m_mdt4_t94 := f_m_mdt4_t93.ex I_m_mdt4_t93 (X_t94 0)
                have I_m_mdt23_t94 := I_m_mdt23_t93.flat X_t94
                have f_m_mdt23_t94 := f_m_mdt23_t93.ex I_m_mdt23_t93 (X_t94 0)
                have u_m_mdt23_t94 := u_m_mdt23_t93.ex I_m_mdt23_t93 (X_t94 0)
                have I_m_mdt25_t94 := I_m_mdt25_t93.flat X_t94
                have u_m_mdt25_t94 := u_m_mdt25_t93.ex I_m_mdt25_t93 (X_t94 0)
                have la_n_t94 : m_la t94 n = (m_md t4) + 1 := by rw [j_t94.2.2.1]; exact la_n_t93
                have wl_n_t94 : m_wh t94 ((m_md t4)) = 56 := by rw [j_t94.1]; exact wl_n_t93
                clear la_n_t93 wl_n_t93
                have la_m_mdt4_t94 : m_la t94 (m_md t4) = (m_md t23) + 1 := by rw [j_t94.2.2.1]; exact la_m_mdt4_t93
                have wl_m_mdt4_t94 : m_wh t94 ((m_md t23)) = 13 := by rw [j_t94.1]; exact wl_m_mdt4_t93
                clear la_m_mdt4_t93 wl_m_mdt4_t93
                have la_m_mdt23_t94 : m_la t94 (m_md t23) = (m_md t25) + 1 := by rw [j_t94.2.2.1]; exact la_m_mdt23_t93
                have wl_m_mdt23_t94 : m_wh t94 ((m_md t25)) = 89 := by rw [j_t94.1]; exact wl_m_mdt23_t93
                clear la_m_mdt23_t93 wl_m_mdt23_t93
                refine Ok_ret (show Ok _ _ _ from ?_)
                refine Ok_ret (show Ok _ _ _ from ?_)
                refine Ok_ret (show Ok _ _ _ from ?_)
                exact Or.inl ⟨Nat.ne_of_gt (show 0 < m_wr t94 from by omega), by omega, by omega, C_t94.2.2.2.2.2, by omega⟩
            · refine Ok_ife (Nat.lt_trans (lo_lt (C_t25.tk hT) _) (by decide)) (by decide) (fun q95 => ?_) (fun q95 => ?_)
              · refine Kp_child C_t25 I_m_mdt23_t25.1 I_m_mdt23_t25.2.1 I_m_mdt23_t25.2.2.1 (by omega) (by omega) (by decide) (by decide) (fun t96 C_t96 X_t96 a_t96 b_t96 d_t96 w_t96 u_t96 v_t96 j_t96 l_t96 => ?_)
                have e_t96 := C_t96.2.2.2.1
                rw [a_t25] at a_t96
                rw [b_t25] at b_t96
                rw [d_t25] at d_t96
                rw [w_t25] at w_t96
                rw [u_t25] at u_t96
                rw [v_t25] at v_t96
                clear d_t25 w_t25 u_t25 v_t25 e_t25 a_t25
                have I_n_t96 := I_n_t25.chd X_t96 j_t96
                have f_n_t96 := f_n_t25.ex I_n_t25 (X_t96 0 (Nat.zero_le _))
                have u_n_t96 := u_n_t25.ex I_n_t25 (X_t96 0 (Nat.zero_le _))
                have I_m_mdt4_t96 := I_m_mdt4_t25.chd X_t96 j_t96
                have f_m_mdt4_t96 := f_m_mdt4_t25.ex I_m_mdt4_t25 (X_t96 0 (Nat.zero_le _))
                have I_m_mdt23_t96 := I_m_mdt23_t25.chd X_t96 j_t96
                have u_m_mdt23_t96 := u_m_mdt23_t25.ex I_m_mdt23_t25 (X_t96 0 (Nat.zero_le _))
                have la_n_t96 : m_la t96 n = (m_md t4) + 1 := by rw [(j_t96.2.2.2.2.2.2.2.1 n I_n_t25.1 (by omega)).1]; exact la_n_t25
                have wl_n_t96 : m_wh t96 ((m_md t4)) = 56 := by rw [(j_t96.2.2.2.2.2.2.1 ((m_md t4)) (by omega)).2]; exact wl_n_t25
                clear la_n_t25 wl_n_t25
                have la_m_mdt4_t96 : m_la t96 (m_md t4) = (m_md t23) + 1 := by rw [(j_t96.2.2.2.2.2.2.2.1 (m_md t4) I_m_mdt4_t25.1 (by omega)).1]; exact la_m_mdt4_t25
                have wl_m_mdt4_t96 : m_wh t96 ((m_md t23)) = 13 := by rw [(j_t96.2.2.2.2.2.2.1 ((m_md t23)) (by omega)).2]; exact wl_m_mdt4_t25
                clear la_m_mdt4_t25 wl_m_mdt4_t25
                have f_m_mdt23_t96 : Fz t96 (m_md t23) := j_t96.2.2.2.2.1
                have I_m_mdt25_t96 : Nq t96 (m_md t25) := Nq.chn j_t96 (by omega) I_m_mdt23_t25 (by decide)
                have u_m_mdt25_t96 : Up t96 (m_md t25) := Or.inl j_t96.2.1
                have la_m_mdt23_t96 : m_la t96 (m_md t23) = (m_md t25) + 1 := j_t96.2.2.2.2.2.1
                have wl_m_mdt23_t96 : m_wh t96 (m_md t25) = 29 := j_t96.1
                refine Kp_more C_t96 (by omega) (by omega) (fun t97 C_t97 X_t97 a_t97 b_t97 d_t97 w_t97 u_t97 v_t97 j_t97 l_t97 => ?_)
                have e_t97 := C_t97.2.2.2.1
                rcases w_t97 with ⟨w_t97, y_t97⟩ | ⟨w_t97, wb_t97⟩
                · rw [a_t96] at a_t97
                  rw [b_t96] at b_t97
                  rw [d_t96] at d_t97
                  rw [w_t96] at w_t97
                  rw [u_t96] at u_t97
                  rw [v_t96] at v_t97
                  rw [d_t97] at y_t97
                  clear d_t96 w_t96 u_t96 v_t96 e_t96 a_t96 b_t96
                  have I_n_t97 := I_n_t96.flat X_t97
                  have f_n_t97 := f_n_t96.ex I_n_t96 (X_t97 0)
                  have u_n_t97 := u_n_t96.ex I_n_t96 (X_t97 0)
                  have I_m_mdt4_t97 := I_m_mdt4_t96.flat X_t97
                  have f_m_mdt4_t97 := f_m_mdt4_t96.ex I_m_mdt4_t96 (X_t97 0)
                  have I_m_mdt23_t97 := I_m_mdt23_t96.flat X_t97
                  have f_m_mdt23_t97 := f_m_mdt23_t96.ex I_m_mdt23_t96 (X_t97 0)
                  have u_m_mdt23_t97 := u_m_mdt23_t96.ex I_m_mdt23_t96 (X_t97 0)
                  have I_m_mdt25_t97 := I_m_mdt25_t96.flat X_t97
                  have u_m_mdt25_t97 := u_m_mdt25_t96.ex I_m_mdt25_t96 (X_t97 0)
                  have la_n_t97 : m_la t97 n = (m_md t4) + 1 := by rw [j_t97.2.2.1]; exact la_n_t96
                  have wl_n_t97 : m_wh t97 ((m_md t4)) = 56 := by rw [j_t97.1]; exact wl_n_t96
                  clear la_n_t96 wl_n_t96
                  have la_m_mdt4_t97 : m_la t97 (m_md t4) = (m_md t23) + 1 := by rw [j_t97.2.2.1]; exact la_m_mdt4_t96
                  have wl_m_mdt4_t97 : m_wh t97 ((m_md t23)) = 13 := by rw [j_t97.1]; exact wl_m_mdt4_t96
                  clear la_m_mdt4_t96 wl_m_mdt4_t96
                  have la_m_mdt23_t97 : m_la t97 (m_md t23) = (m_md t25) + 1 := by rw [j_t97.2.2.1]; exact la_m_mdt23_t96
                  have wl_m_mdt23_t97 : m_wh t97 ((m_md t25)) = 29 := by rw [j_t97.1]; exact wl_m_mdt23_t96
                  clear la_m_mdt23_t96 wl_m_mdt23_t96
                  have z_t98 : m_at t97 < m_ct t97 := lo_ne (Nat.ne_of_gt (show 0 < lo t97 (m_at t97) from by omega))
                  refine Kp_at C_t97 (fun t98 C_t98 X_t98 a_t98 b_t98 d_t98 w_t98 u_t98 v_t98 j_t98 l_t98 => ?_)
                  have e_t98 := C_t98.2.2.2.1
                  rw [a_t97] at a_t98
                  rw [b_t97] at b_t98
                  rw [d_t97] at d_t98
                  rw [w_t97] at w_t98
                  rw [u_t97] at u_t98
                  rw [v_t97] at v_t98
                  rw [a_t97, e_t97] at z_t98
                  clear z_t23
                  clear d_t97 w_t97 u_t97 v_t97 e_t97 a_t97 b_t97
                  have I_n_t98 := I_n_t97.flat X_t98
                  have f_n_t98 := f_n_t97.ex I_n_t97 (X_t98 0)
                  have u_n_t98 := u_n_t97.ex I_n_t97 (X_t98 0)
                  have I_m_mdt4_t98 := I_m_mdt4_t97.flat X_t98
                  have f_m_mdt4_t98 := f_m_mdt4_t97.ex I_m_mdt4_t97 (X_t98 0)
                  have I_m_mdt23_t98 := I_m_mdt23_t97.flat X_t98
                  have f_m_mdt23_t98 := f_m_mdt23_t97.ex I_m_mdt23_t97 (X_t98 0)
                  have u_m_mdt23_t98 := u_m_mdt23_t97.ex I_m_mdt23_t97 (X_t98 0)
                  have I_m_mdt25_t98 := I_m_mdt25_t97.flat X_t98
                  have u_m_mdt25_t98 := u_m_mdt25_t97.ex I_m_mdt25_t97 (X_t98 0)
                  have la_n_t98 : m_la t98 n = (m_md t4) + 1 := by rw [j_t98.2.2.1]; exact la_n_t97
                  have wl_n_t98 : m_wh t98 ((m_md t4)) = 56 := by rw [j_t98.1]; exact wl_n_t97
                  clear la_n_t97 wl_n_t97
                  have la_m_mdt4_t98 : m_la t98 (m_md t4) = (m_md t23) + 1 := by rw [j_t98.2.2.1]; exact la_m_mdt4_t97
                  have wl_m_mdt4_t98 : m_wh t98 ((m_md t23)) = 13 := by rw [j_t98.1]; exact wl_m_mdt4_t97
                  clear la_m_mdt4_t97 wl_m_mdt4_t97
                  have la_m_mdt23_t98 : m_la t98 (m_md t23) = (m_md t25) + 1 := by rw [j_t98.2.2.1]; exact la_m_mdt23_t97
                  have wl_m_mdt23_t98 : m_wh t98 ((m_md t25)) = 29 := by rw [j_t98.1]; exact wl_m_mdt23_t97
                  clear la_m_mdt23_t97 wl_m_mdt23_t97
                  refine Kp_push C_t98 (by omega) (fun t99 C_t99 X_t99 a_t99 b_t99 d_t99 w_t99 u_t99 v_t99 j_t99 l_t99 => ?_)
                  have e_t99 := C_t99.2.2.2.1
                  rw [a_t98] at a_t99
                  rw [b_t98] at b_t99
                  rw [d_t98] at d_t99
                  rw [w_t98] at w_t99
                  rw [u_t98] at u_t99
                  rw [v_t98] at v_t99
                  clear d_t98 w_t98 u_t98 v_t98 e_t98 a_t98 b_t98
                  have I_n_t99 := I_n_t98.flat X_t99
                  have f_n_t99 := f_n_t98.ex I_n_t98 (X_t99 0)
                  have u_n_t99 := u_n_t98.ex I_n_t98 (X_t99 0)
                  have I_m_mdt4_t99 := I_m_mdt4_t98.flat X_t99
                  have f_m_mdt4_t99 := f_m_mdt4_t98.ex I_m_mdt4_t98 (X_t99 0)
                  have I_m_mdt23_t99 := I_m_mdt23_t98.flat X_t99
                  have f_m_mdt23_t99 := f_m_mdt23_t98.ex I_m_mdt23_t98 (X_t99 0)
                  have u_m_mdt23_t99 := u_m_mdt23_t98.ex I_m_mdt23_t98 (X_t99 0)
                  have I_m_mdt25_t99 := I_m_mdt25_t98.flat X_t99
                  have u_m_mdt25_t99 := u_m_mdt25_t98.ex I_m_mdt25_t98 (X_t99 0)
                  have la_n_t99 : m_la t99 n = (m_md t4) + 1 := by rw [j_t99.2.2.1]; exact la_n_t98
                  have wl_n_t99 : m_wh t99 ((m_md t4)) = 56 := by rw [j_t99.1]; exact wl_n_t98
                  clear la_n_t98 wl_n_t98
                  have la_m_mdt4_t99 : m_la t99 (m_md t4) = (m_md t23) + 1 := by rw [j_t99.2.2.1]; exact la_m_mdt4_t98
                  have wl_m_mdt4_t99 : m_wh t99 ((m_md t23)) = 13 := by rw [j_t99.1]; exact wl_m_mdt4_t98
                  clear la_m_mdt4_t98 wl_m_mdt4_t98
                  have la_m_mdt23_t99 : m_la t99 (m_md t23) = (m_md t25) + 1 := by rw [j_t99.2.2.1]; exact la_m_mdt23_t98
                  have wl_m_mdt23_t99 : m_wh t99 ((m_md t25)) = 29 := by rw [j_t99.1]; exact wl_m_mdt23_t98
                  clear la_m_mdt23_t98 wl_m_mdt23_t98
                  refine Kp_push C_t99 (by omega) (fun t100 C_t100 X_t100 a_t100 b_t100 d_t100 w_t100 u_t100 v_t100 j_t100 l_t100 => ?_)
                  have e_t100 := C_t100.2.2.2.1
                  rw [a_t99] at a_t100
                  rw [b_t99] at b_t100
                  rw [d_t99] at d_t100
                  rw [w_t99] at w_t100
                  rw [u_t99] at u_t100
                  rw [v_t99] at v_t100
                  clear d_t99 w_t99 u_t99 v_t99 e_t99 a_t99 b_t99
                  have I_n_t100 := I_n_t99.flat X_t100
                  have f_n_t100 := f_n_t99.ex I_n_t99 (X_t100 0)
                  have u_n_t100 := u_n_t99.ex I_n_t99 (X_t100 0)
                  have I_m_mdt4_t100 := I_m_mdt4_t99.flat X_t100
                  have f_m_mdt4_t100 := f_m_mdt4_t99.ex I_m_mdt4_t99 (X_t100 0)
                  have I_m_mdt23_t100 := I_m_mdt23_t99.flat X_t100
                  have f_m_mdt23_t100 := f_m_mdt23_t99.ex I_m_mdt23_t99 (X_t100 0)
                  have u_m_mdt23_t100 := u_m_mdt23_t99.ex I_m_mdt23_t99 (X_t100 0)
                  have I_m_mdt25_t100 := I_m_mdt25_t99.flat X_t100
                  have u_m_mdt25_t100 := u_m_mdt25_t99.ex I_m_mdt25_t99 (X_t100 0)
                  have la_n_t100 : m_la t100 n = (m_md t4) + 1 := by rw [j_t100.2.2.1]; exact la_n_t99
                  have wl_n_t100 : m_wh t100 ((m_md t4)) = 56 := by rw [j_t100.1]; exact wl_n_t99
                  clear la_n_t99 wl_n_t99
                  have la_m_mdt4_t100 : m_la t100 (m_md t4) = (m_md t23) + 1 := by rw [j_t100.2.2.1]; exact la_m_mdt4_t99
                  have wl_m_mdt4_t100 : m_wh t100 ((m_md t23)) = 13 := by rw [j_t100.1]; exact wl_m_mdt4_t99
                  clear la_m_mdt4_t99 wl_m_mdt4_t99
                  have la_m_mdt23_t100 : m_la t100 (m_md t23) = (m_md t25) + 1 := by rw [j_t100.2.2.1]; exact la_m_mdt23_t99
                  have wl_m_mdt23_t100 : m_wh t100 ((m_md t25)) = 29 := by rw [j_t100.1]; exact wl_m_mdt23_t99
                  clear la_m_mdt23_t99 wl_m_mdt23_t99
                  refine Ok_ret (show Ok _ _ _ from ?_)
                  refine Ok_ret (show Ok _ _ _ from ?_)
                  refine Hv_mk (Kv_c (x := (21, m_md t25, 0)) rfl (Kv_c (x := (20, m_md t25, 0)) rfl (Kv_c (x := (4, m_md t23, 3)) rfl hK))) (C_t100.1.2.2.2.2.2.2 hTt) C_t100 hT (by omega) (by omega) (by omega) ?_ ?_ ?_ (by omega) ?_ ?_ ?_
                  · exact ⟨(Io_n (by decide) (by decide) I_m_mdt25_t100.1 I_m_mdt25_t100.2.1 I_m_mdt25_t100.2.2.1 (fun q => absurd q (by decide)) (fun q => absurd q (by decide)) I_m_mdt25_t100.2.2.2), (Nd_0 (by decide) Mo_nil), ⟨(Io_n (by decide) (by decide) I_m_mdt25_t100.1 I_m_mdt25_t100.2.1 I_m_mdt25_t100.2.2.1 (fun q => absurd q (by decide)) (fun q => absurd q (by decide)) I_m_mdt25_t100.2.2.2), (Nd_0 (by decide) (Mo_cons (fun q => show m_md t25 ≤ m_md t25 from by omega) Mo_nil)), ⟨(Io_n (by decide) (by decide) I_m_mdt23_t100.1 I_m_mdt23_t100.2.1 I_m_mdt23_t100.2.2.1 (fun q => absurd q (by decide)) (fun q => absurd q (by decide)) I_m_mdt23_t100.2.2.2), (Nd_A (by decide) (Mo_cons (fun q => show m_md t23 ≤ m_md t25 from by omega) (Mo_cons (fun q => show m_md t23 ≤ m_md t25 from by omega) Mo_nil)) (Or.inl f_m_mdt23_t100)), Stk_step (N := n) (pop := (43, n, t)) (new := [(4, m_md t23, 3), (20, m_md t25, 0), (21, m_md t25, 0)]) F0 C_t100.1.to2 (fun (h : nk 43 = false) => absurd h (by decide)) (fun q _ h => h (43, n, t) rfl) (fun _ => rfl) (fun y hy hk => ⟨rfl, (Mo_cons (fun q => show n ≤ m_md t23 from by omega) (Mo_cons (fun q => show n ≤ m_md t25 from by omega) (Mo_cons (fun q => show n ≤ m_md t25 from by omega) Mo_nil))) y hy hk⟩) (fun (h : 43 = 3 ∨ 43 = 18 ∨ 43 = 41) => absurd h (by decide)) (fun (h : 43 = 18) => absurd h (by decide)) (fun _ h16 => (Or.inr ⟨f_n_t100, (Ab_some (y := (4, m_md t23, 3)) rfl (show n < m_md t23 from by omega)), H50_no la_n_t100 wl_n_t100 (by decide)⟩)) r [] (fun y hy => absurd hy List.not_mem_nil) hS⟩⟩⟩
                  · exact (Aj_up (x := (21, m_md t25, 0)) (Aj_up (x := (20, m_md t25, 0)) (Aj_sub (y := (4, m_md t23, 3)) hJ (Nat.le_of_ble_eq_true rfl)) (Or.inr (Nat.le_of_ble_eq_true rfl))) (Or.inl (Nat.le_of_ble_eq_true rfl)))
                  · show m_dp t100 = (dlt 21 + (dlt 20 + (dlt 4 + sD r)))
                    have : dlt 20 = 1 := rfl; have : dlt 21 = 0 := rfl; have : dlt 4 = 0 := rfl; have : dlt 43 = 0 := rfl; omega
                  · show m_rw t100 = (rho 21 + (rho 20 + (rho 4 + sR r)))
                    have : rho 20 = 0 := rfl; have : rho 21 = 0 := rfl; have : rho 4 = 0 := rfl; have : rho 43 = 0 := rfl; omega
                  · show m_md t100 + (mu7 21 + (mu7 20 + (mu7 4 + sM r))) ≤ 3 * m_at t100 + 7 * (r.length + 1 + 1 + 1) + 10
                    have : mu7 20 = 7 := rfl; have : mu7 21 = 3 := rfl; have : mu7 4 = 7 := rfl; have : mu7 43 = 4 := rfl; omega
                  · show (wt 21 + (wt 20 + (wt 4 + sW r))) + 6 * (4096 - m_at t100) + 4 * (600 - (r.length + 1 + 1 + 1)) < (wt 43 + sW r) + 6 * (4096 - m_at t0) + 4 * (600 - (r.length + 1))
                    have : wt 20 = 5 := rfl; have : wt 21 = 2 := rfl; have : wt 4 = 5 := rfl; have : wt 43 = 0 := rfl; omega
                · have w_t97 := Nat.pos_of_ne_zero w_t97
                  have I_n_t97 := I_n_t96.flat X_t97
                  have f_n_t97 := f_n_t96.ex I_n_t96 (X_t97 0)
                  have u_n_t97 := u_n_t96.ex I_n_t96 (X_t97 0)
                  have I_m_mdt4_t97 := I_m_mdt4_t96.flat X_t97
                  have f_m_mdt4_t97 := f_m_mdt4_t96.ex I_m_mdt4_t96 (X_t97 0)
                  have I_m_mdt23_t97 := I_m_mdt23_t96.flat X_t97
                  have f_m_mdt23_t97 := f_m_mdt23_t96.ex I_m_mdt23_t96 (X_t97 0)
                  have u_m_mdt23_t97 := u_m_mdt23_t96.ex I_m_mdt23_t96 (X_t97 0)
                  have I_m_mdt25_t97 := I_m_mdt25_t96.flat X_t97
                  have u_m_mdt25_t97 := u_m_mdt25_t96.ex I_m_mdt25_t96 (X_t97 0)
                  have la_n_t97 : m_la t97 n = (m_md t4) + 1 := by rw [j_t97.2.2.1]; exact la_n_t96
                  have wl_n_t97 : m_wh t97 ((m_md t4)) = 56 := by rw [j_t97.1]; exact wl_n_t96
                  clear la_n_t96 wl_n_t96
                  have la_m_mdt4_t97 : m_la t97 (m_md t4) = (m_md t23) + 1 := by rw [j_t97.2.2.1]; exact la_m_mdt4_t96
                  have wl_m_mdt4_t97 : m_wh t97 ((m_md t23)) = 13 := by rw [j_t97.1]; exact wl_m_mdt4_t96
                  clear la_m_mdt4_t96 wl_m_mdt4_t96
                  have la_m_mdt23_t97 : m_la t97 (m_md t23) = (m_md t25) + 1 := by rw [j_t97.2.2.1]; exact la_m_mdt23_t96
                  have wl_m_mdt23_t97 : m_wh t97 ((m_md t25)) = 29 := by rw [j_t97.1]; exact wl_m_mdt23_t96
                  clear la_m_mdt23_t96 wl_m_mdt23_t96
                  refine Kp_at C_t97 (fun t101 C_t101 X_t101 a_t101 b_t101 d_t101 w_t101 u_t101 v_t101 j_t101 l_t101 => ?_)
                  have e_t101 := C_t101.2.2.2.1
                  have I_n_t101 := I_n_t97.flat X_t101
                  have f_n_t101 := f_n_t97.ex I_n_t97 (X_t101 0)
                  have u_n_t101 := u_n_t97.ex I_n_t97 (X_t101 0)
                  have I_m_mdt4_t101 := I_m_mdt4_t97.flat X_t101
                  have f_m_mdt4_t101 := f_m_mdt4_t97.ex I_m_mdt4_t97 (X_t101 0)
                  have I_m_mdt23_t101 := I_m_mdt23_t97.flat X_t101
                  have f_m_mdt23_t101 := f_m_mdt23_t97.ex I_m_mdt23_t97 (X_t101 0)
                  have u_m_mdt23_t101 := u_m_mdt23_t97.ex I_m_mdt23_t97 (X_t101 0)
                  have I_m_mdt25_t101 := I_m_mdt25_t97.flat X_t101
                  have u_m_mdt25_t101 := u_m_mdt25_t97.ex I_m_mdt25_t97 (X_t101 0)
                  have la_n_t101 : m_la t101 n = (m_md t4) + 1 := by rw [j_t101.2.2.1]; exact la_n_t97
                  have wl_n_t101 : m_wh t101 ((m_md t4)) = 56 := by rw [j_t101.1]; exact wl_n_t97
                  clear la_n_t97 wl_n_t97
                  have la_m_mdt4_t101 : m_la t101 (m_md t4) = (m_md t23) + 1 := by rw [j_t101.2.2.1]; exact la_m_mdt4_t97
                  have wl_m_mdt4_t101 : m_wh t101 ((m_md t23)) = 13 := by rw [j_t101.1]; exact wl_m_mdt4_t97
                  clear la_m_mdt4_t97 wl_m_mdt4_t97
                  have la_m_mdt23_t101 : m_la t101 (m_md t23) = (m_md t25) + 1 := by rw [j_t101.2.2.1]; exact la_m_mdt23_t97
                  have wl_m_mdt23_t101 : m_wh t101 ((m_md t25)) = 29 := by rw [j_t101.1]; exact wl_m_mdt23_t97
                  clear la_m_mdt23_t97 wl_m_mdt23_t97
                  refine Kp_push C_t101 (by omega) (fun t102 C_t102 X_t102 a_t102 b_t102 d_t102 w_t102 u_t102 v_t102 j_t102 l_t102 => ?_)
                  have e_t102 := C_t102.2.2.2.1
                  have I_n_t102 := I_n_t101.flat X_t102
                  have f_n_t102 := f_n_t101.ex I_n_t101 (X_t102 0)
                  have u_n_t102 := u_n_t101.ex I_n_t101 (X_t102 0)
                  have I_m_mdt4_t102 := I_m_mdt4_t101.flat X_t102
                  have f_m_mdt4_t102 := f_m_mdt4_t101.ex I_m_mdt4_t101 (X_t102 0)
                  have I_m_mdt23_t102 := I_m_mdt23_t101.flat X_t102
                  have f_m_mdt23_t102 := f_m_mdt23_t101.ex I_m_mdt23_t101 (X_t102 0)
                  have u_m_mdt23_t102 := u_m_mdt23_t101.ex I_m_mdt23_t101 (X_t102 0)
                  have I_m_mdt25_t102 := I_m_mdt25_t101.flat X_t102
                  have u_m_mdt25_t102 := u_m_mdt25_t101.ex I_m_mdt25_t101 (X_t102 0)
                  have la_n_t102 : m_la t102 n = (m_md t4) + 1 := by rw [j_t102.2.2.1]; exact la_n_t101
                  have wl_n_t102 : m_wh t102 ((m_md t4)) = 56 := by rw [j_t102.1]; exact wl_n_t101
                  clear la_n_t101 wl_n_t101
                  have la_m_mdt4_t102 : m_la t102 (m_md t4) = (m_md t23) + 1 := by rw [j_t102.2.2.1]; exact la_m_mdt4_t101
                  have wl_m_mdt4_t102 : m_wh t102 ((m_md t23)) = 13 := by rw [j_t102.1]; exact wl_m_mdt4_t101
                  clear la_m_mdt4_t101 wl_m_mdt4_t101
                  have la_m_mdt23_t102 : m_la t102 (m_md t23) = (m_md t25) + 1 := by rw [j_t102.2.2.1]; exact la_m_mdt23_t101
                  have wl_m_mdt23_t102 : m_wh t102 ((m_md t25)) = 29 := by rw [j_t102.1]; exact wl_m_mdt23_t101
                  clear la_m_mdt23_t101 wl_m_mdt23_t101
                  refine Kp_push C_t102 (by omega) (fun t103 C_t103 X_t103 a_t103 b_t103 d_t103 w_t103 u_t103 v_t103 j_t103 l_t103 => ?_)
                  have e_t103 := C_t103.2.2.2.1
                  have I_n_t103 := I_n_t102.flat X_t103
                  have f_n_t103 := f_n_t102.ex I_n_t102 (X_t103 0)
                  have u_n_t103 := u_n_t102.ex I_n_t102 (X_t103 0)
                  have I_m_mdt4_t103 := I_m_mdt4_t102.flat X_t103
                  have f_m_mdt4_t103 := f_m_mdt4_t102.ex I_m_mdt4_t102 (X_t103 0)
                  have I_m_mdt23_t103 := I_m_mdt23_t102.flat X_t103
                  have f_m_mdt23_t103 := f_m_mdt23_t102.ex I_m_mdt23_t102 (X_t103 0)
                  have u_m_mdt23_t103 := u_m_mdt23_t102.ex I_m_mdt23_t102 (X_t103 0)
                  have I_m_mdt25_t103 := I_m_mdt25_t102.flat X_t103
                  have u_m_mdt25_t103 := u_m_mdt25_t102.ex I_m_mdt25_t102 (X_t103 0)
                  have la_n_t103 : m_la t103 n = (m_md t4) + 1 := by rw [j_t103.2.2.1]; exact la_n_t102
                  have wl_n_t103 : m_wh t103 ((m_md t4)) = 56 := by rw [j_t103.1]; exact wl_n_t102
                  clear la_n_t102 wl_n_t102
                  have la_m_mdt4_t103 : m_la t103 (m_md t4) = (m_md t23) + 1 := by rw [j_t103.2.2.1]; exact la_m_mdt4_t102
                  have wl_m_mdt4_t103 : m_wh t103 ((m_md t23)) = 13 := by rw [j_t103.1]; exact wl_m_mdt4_t102
                  clear la_m_mdt4_t102 wl_m_mdt4_t102
                  have la_m_mdt23_t103 : m_la t103 (m_md t23) = (m_md t25) + 1 := by rw [j_t103.2.2.1]; exact la_m_mdt23_t102
                  have wl_m_mdt23_t103 : m_wh t103 ((m_md t25)) = 29 := by rw [j_t103.1]; exact wl_m_mdt23_t102
                  clear la_m_mdt23_t102 wl_m_mdt23_t102
                  refine Ok_ret (show Ok _ _ _ from ?_)
                  refine Ok_ret (show Ok _ _ _ from ?_)
                  exact Or.inl ⟨Nat.ne_of_gt (show 0 < m_wr t103 from by omega), by omega, by omega, C_t103.2.2.2.2.2, by omega⟩
              · refine Ok_ife (Nat.lt_trans (lo_lt (C_t25.tk hT) _) (by decide)) (by decide) (fun q104 => ?_) (fun q104 => ?_)
                · refine Kp_push C_t25 (by omega) (fun t105 C_t105 X_t105 a_t105 b_t105 d_t105 w_t105 u_t105 v_t105 j_t105 l_t105 => ?_)
                  have e_t105 := C_t105.2.2.2.1
                  rw [a_t25] at a_t105
                  rw [b_t25] at b_t105
                  rw [d_t25] at d_t105
                  rw [w_t25] at w_t105
                  rw [u_t25] at u_t105
                  rw [v_t25] at v_t105
                  clear d_t25 w_t25 u_t25 v_t25 e_t25 a_t25 b_t25
                  have I_n_t105 := I_n_t25.flat X_t105
                  have f_n_t105 := f_n_t25.ex I_n_t25 (X_t105 0)
                  have u_n_t105 := u_n_t25.ex I_n_t25 (X_t105 0)
                  have I_m_mdt4_t105 := I_m_mdt4_t25.flat X_t105
                  have f_m_mdt4_t105 := f_m_mdt4_t25.ex I_m_mdt4_t25 (X_t105 0)
                  have I_m_mdt23_t105 := I_m_mdt23_t25.flat X_t105
                  have u_m_mdt23_t105 := u_m_mdt23_t25.ex I_m_mdt23_t25 (X_t105 0)
                  have la_n_t105 : m_la t105 n = (m_md t4) + 1 := by rw [j_t105.2.2.1]; exact la_n_t25
                  have wl_n_t105 : m_wh t105 ((m_md t4)) = 56 := by rw [j_t105.1]; exact wl_n_t25
                  clear la_n_t25 wl_n_t25
                  have la_m_mdt4_t105 : m_la t105 (m_md t4) = (m_md t23) + 1 := by rw [j_t105.2.2.1]; exact la_m_mdt4_t25
                  have wl_m_mdt4_t105 : m_wh t105 ((m_md t23)) = 13 := by rw [j_t105.1]; exact wl_m_mdt4_t25
                  clear la_m_mdt4_t25 wl_m_mdt4_t25
                  refine Kp_push C_t105 (by omega) (fun t106 C_t106 X_t106 a_t106 b_t106 d_t106 w_t106 u_t106 v_t106 j_t106 l_t106 => ?_)
                  have e_t106 := C_t106.2.2.2.1
                  rw [a_t105] at a_t106
                  rw [b_t105] at b_t106
                  rw [d_t105] at d_t106
                  rw [w_t105] at w_t106
                  rw [u_t105] at u_t106
                  rw [v_t105] at v_t106
                  clear d_t105 w_t105 u_t105 v_t105 e_t105 a_t105 b_t105
                  have I_n_t106 := I_n_t105.flat X_t106
                  have f_n_t106 := f_n_t105.ex I_n_t105 (X_t106 0)
                  have u_n_t106 := u_n_t105.ex I_n_t105 (X_t106 0)
                  have I_m_mdt4_t106 := I_m_mdt4_t105.flat X_t106
                  have f_m_mdt4_t106 := f_m_mdt4_t105.ex I_m_mdt4_t105 (X_t106 0)
                  have I_m_mdt23_t106 := I_m_mdt23_t105.flat X_t106
                  have u_m_mdt23_t106 := u_m_mdt23_t105.ex I_m_mdt23_t105 (X_t106 0)
                  have la_n_t106 : m_la t106 n = (m_md t4) + 1 := by rw [j_t106.2.2.1]; exact la_n_t105
                  have wl_n_t106 : m_wh t106 ((m_md t4)) = 56 := by rw [j_t106.1]; exact wl_n_t105
                  clear la_n_t105 wl_n_t105
                  have la_m_mdt4_t106 : m_la t106 (m_md t4) = (m_md t23) + 1 := by rw [j_t106.2.2.1]; exact la_m_mdt4_t105
                  have wl_m_mdt4_t106 : m_wh t106 ((m_md t23)) = 13 := by rw [j_t106.1]; exact wl_m_mdt4_t105
                  clear la_m_mdt4_t105 wl_m_mdt4_t105
                  refine Ok_ret (show Ok _ _ _ from ?_)
                  refine Ok_ret (show Ok _ _ _ from ?_)
                  refine Hv_mk (Kv_c (x := (18, m_md t23, 1)) rfl (Kv_c (x := (5, m_md t23, 3)) rfl (Kv_c (x := (4, m_md t23, 3)) rfl hK))) (C_t106.1.2.2.2.2.2.2 hTt) C_t106 hT (by omega) (by omega) (by omega) ?_ ?_ ?_ (by omega) ?_ ?_ ?_
                  · exact ⟨(Io_n (by decide) (by decide) I_m_mdt23_t106.1 I_m_mdt23_t106.2.1 I_m_mdt23_t106.2.2.1 (fun q => absurd q (by decide)) (fun q => absurd q (by decide)) I_m_mdt23_t106.2.2.2), (Nd_0 (by decide) Mo_nil), ⟨(Io_n (by decide) (by decide) I_m_mdt23_t106.1 I_m_mdt23_t106.2.1 I_m_mdt23_t106.2.2.1 (fun q => absurd q (by decide)) (fun q => absurd q (by decide)) I_m_mdt23_t106.2.2.2), (Nd_5 (Mo_cons (fun q => show m_md t23 ≤ m_md t23 from by omega) Mo_nil) (Or.inl ⟨1, rfl⟩)), ⟨(Io_n (by decide) (by decide) I_m_mdt23_t106.1 I_m_mdt23_t106.2.1 I_m_mdt23_t106.2.2.1 (fun q => absurd q (by decide)) (fun q => absurd q (by decide)) I_m_mdt23_t106.2.2.2), (Nd_A (by decide) (Mo_cons (fun q => show m_md t23 ≤ m_md t23 from by omega) (Mo_cons (fun q => show m_md t23 ≤ m_md t23 from by omega) Mo_nil)) (Or.inr ⟨(18, m_md t23, 1), (List.mem_cons_of_mem _ List.mem_cons_self), rfl, Or.inr (Or.inl rfl)⟩)), Stk_step (N := n) (pop := (43, n, t)) (new := [(4, m_md t23, 3), (5, m_md t23, 3), (18, m_md t23, 1)]) F0 C_t106.1.to2 (fun (h : nk 43 = false) => absurd h (by decide)) (fun q _ h => h (43, n, t) rfl) (fun _ => rfl) (fun y hy hk => ⟨rfl, (Mo_cons (fun q => show n ≤ m_md t23 from by omega) (Mo_cons (fun q => show n ≤ m_md t23 from by omega) (Mo_cons (fun q => show n ≤ m_md t23 from by omega) Mo_nil))) y hy hk⟩) (fun (h : 43 = 3 ∨ 43 = 18 ∨ 43 = 41) => absurd h (by decide)) (fun (h : 43 = 18) => absurd h (by decide)) (fun _ h16 => (Or.inr ⟨f_n_t106, (Ab_some (y := (4, m_md t23, 3)) rfl (show n < m_md t23 from by omega)), H50_no la_n_t106 wl_n_t106 (by decide)⟩)) r [] (fun y hy => absurd hy List.not_mem_nil) hS⟩⟩⟩
                  · exact (Aj_up (x := (18, m_md t23, 1)) (Aj_up (x := (5, m_md t23, 3)) (Aj_sub (y := (4, m_md t23, 3)) hJ (Nat.le_of_ble_eq_true rfl)) (Or.inr (Nat.le_of_ble_eq_true rfl))) (Or.inr (Nat.le_of_ble_eq_true rfl)))
                  · show m_dp t106 = (dlt 18 + (dlt 5 + (dlt 4 + sD r)))
                    have : dlt 18 = 0 := rfl; have : dlt 4 = 0 := rfl; have : dlt 43 = 0 := rfl; have : dlt 5 = 0 := rfl; omega
                  · show m_rw t106 = (rho 18 + (rho 5 + (rho 4 + sR r)))
                    have : rho 18 = 0 := rfl; have : rho 4 = 0 := rfl; have : rho 43 = 0 := rfl; have : rho 5 = 0 := rfl; omega
                  · show m_md t106 + (mu7 18 + (mu7 5 + (mu7 4 + sM r))) ≤ 3 * m_at t106 + 7 * (r.length + 1 + 1 + 1) + 10
                    have : mu7 18 = 5 := rfl; have : mu7 4 = 7 := rfl; have : mu7 43 = 4 := rfl; have : mu7 5 = 7 := rfl; omega
                  · show (wt 18 + (wt 5 + (wt 4 + sW r))) + 6 * (4096 - m_at t106) + 4 * (600 - (r.length + 1 + 1 + 1)) < (wt 43 + sW r) + 6 * (4096 - m_at t0) + 4 * (600 - (r.length + 1))
                    have : wt 18 = 0 := rfl; have : wt 4 = 5 := rfl; have : wt 43 = 0 := rfl; have : wt 5 = 5 := rfl; omega
                · refine Ok_ife (Nat.lt_trans (lo_lt (C_t25.tk hT) _) (by decide)) (by decide) (fun q107 => ?_) (fun q107 => ?_)
                  · refine Kp_push C_t25 (by omega) (fun t108 C_t108 X_t108 a_t108 b_t108 d_t108 w_t108 u_t108 v_t108 j_t108 l_t108 => ?_)
                    have e_t108 := C_t108.2.2.2.1
                    rw [a_t25] at a_t108
                    rw [b_t25] at b_t108
                    rw [d_t25] at d_t108
                    rw [w_t25] at w_t108
                    rw [u_t25] at u_t108
                    rw [v_t25] at v_t108
                    clear d_t25 w_t25 u_t25 v_t25 e_t25 a_t25 b_t25
                    have I_n_t108 := I_n_t25.flat X_t108
                    have f_n_t108 := f_n_t25.ex I_n_t25 (X_t108 0)
                    have u_n_t108 := u_n_t25.ex I_n_t25 (X_t108 0)
                    have I_m_mdt4_t108 := I_m_mdt4_t25.flat X_t108
                    have f_m_mdt4_t108 := f_m_mdt4_t25.ex I_m_mdt4_t25 (X_t108 0)
                    have I_m_mdt23_t108 := I_m_mdt23_t25.flat X_t108
                    have u_m_mdt23_t108 := u_m_mdt23_t25.ex I_m_mdt23_t25 (X_t108 0)
                    have la_n_t108 : m_la t108 n = (m_md t4) + 1 := by rw [j_t108.2.2.1]; exact la_n_t25
                    have wl_n_t108 : m_wh t108 ((m_md t4)) = 56 := by rw [j_t108.1]; exact wl_n_t25
                    clear la_n_t25 wl_n_t25
                    have la_m_mdt4_t108 : m_la t108 (m_md t4) = (m_md t23) + 1 := by rw [j_t108.2.2.1]; exact la_m_mdt4_t25
                    have wl_m_mdt4_t108 : m_wh t108 ((m_md t23)) = 13 := by rw [j_t108.1]; exact wl_m_mdt4_t25
                    clear la_m_mdt4_t25 wl_m_mdt4_t25
                    refine Kp_push C_t108 (by omega) (fun t109 C_t109 X_t109 a_t109 b_t109 d_t109 w_t109 u_t109 v_t109 j_t109 l_t109 => ?_)
                    have e_t109 := C_t109.2.2.2.1
                    rw [a_t108] at a_t109
                    rw [b_t108] at b_t109
                    rw [d_t108] at d_t109
                    rw [w_t108] at w_t109
                    rw [u_t108] at u_t109
                    rw [v_t108] at v_t109
                    clear d_t108 w_t108 u_t108 v_t108 e_t108 a_t108 b_t108
                    have I_n_t109 := I_n_t108.flat X_t109
                    have f_n_t109 := f_n_t108.ex I_n_t108 (X_t109 0)
                    have u_n_t109 := u_n_t108.ex I_n_t108 (X_t109 0)
                    have I_m_mdt4_t109 := I_m_mdt4_t108.flat X_t109
                    have f_m_mdt4_t109 := f_m_mdt4_t108.ex I_m_mdt4_t108 (X_t109 0)
                    have I_m_mdt23_t109 := I_m_mdt23_t108.flat X_t109
                    have u_m_mdt23_t109 := u_m_mdt23_t108.ex I_m_mdt23_t108 (X_t109 0)
                    have la_n_t109 : m_la t109 n = (m_md t4) + 1 := by rw [j_t109.2.2.1]; exact la_n_t108
                    have wl_n_t109 : m_wh t109 ((m_md t4)) = 56 := by rw [j_t109.1]; exact wl_n_t108
                    clear la_n_t108 wl_n_t108
                    have la_m_mdt4_t109 : m_la t109 (m_md t4) = (m_md t23) + 1 := by rw [j_t109.2.2.1]; exact la_m_mdt4_t108
                    have wl_m_mdt4_t109 : m_wh t109 ((m_md t23)) = 13 := by rw [j_t109.1]; exact wl_m_mdt4_t108
                    clear la_m_mdt4_t108 wl_m_mdt4_t108
                    refine Ok_ret (show Ok _ _ _ from ?_)
                    refine Ok_ret (show Ok _ _ _ from ?_)
                    refine Hv_mk (Kv_c (x := (18, m_md t23, 1)) rfl (Kv_c (x := (5, m_md t23, 3)) rfl (Kv_c (x := (4, m_md t23, 3)) rfl hK))) (C_t109.1.2.2.2.2.2.2 hTt) C_t109 hT (by omega) (by omega) (by omega) ?_ ?_ ?_ (by omega) ?_ ?_ ?_
                    · exact ⟨(Io_n (by decide) (by decide) I_m_mdt23_t109.1 I_m_mdt23_t109.2.1 I_m_mdt23_t109.2.2.1 (fun q => absurd q (by decide)) (fun q => absurd q (by decide)) I_m_mdt23_t109.2.2.2), (Nd_0 (by decide) Mo_nil), ⟨(Io_n (by decide) (by decide) I_m_mdt23_t109.1 I_m_mdt23_t109.2.1 I_m_mdt23_t109.2.2.1 (fun q => absurd q (by decide)) (fun q => absurd q (by decide)) I_m_mdt23_t109.2.2.2), (Nd_5 (Mo_cons (fun q => show m_md t23 ≤ m_md t23 from by omega) Mo_nil) (Or.inl ⟨1, rfl⟩)), ⟨(Io_n (by decide) (by decide) I_m_mdt23_t109.1 I_m_mdt23_t109.2.1 I_m_mdt23_t109.2.2.1 (fun q => absurd q (by decide)) (fun q => absurd q (by decide)) I_m_mdt23_t109.2.2.2), (Nd_A (by decide) (Mo_cons (fun q => show m_md t23 ≤ m_md t23 from by omega) (Mo_cons (fun q => show m_md t23 ≤ m_md t23 from by omega) Mo_nil)) (Or.inr ⟨(18, m_md t23, 1), (List.mem_cons_of_mem _ List.mem_cons_self), rfl, Or.inr (Or.inl rfl)⟩)), Stk_step (N := n) (pop := (43, n, t)) (new := [(4, m_md t23, 3), (5, m_md t23, 3), (18, m_md t23, 1)]) F0 C_t109.1.to2 (fun (h : nk 43 = false) => absurd h (by decide)) (fun q _ h => h (43, n, t) rfl) (fun _ => rfl) (fun y hy hk => ⟨rfl, (Mo_cons (fun q => show n ≤ m_md t23 from by omega) (Mo_cons (fun q => show n ≤ m_md t23 from by omega) (Mo_cons (fun q => show n ≤ m_md t23 from by omega) Mo_nil))) y hy hk⟩) (fun (h : 43 = 3 ∨ 43 = 18 ∨ 43 = 41) => absurd h (by decide)) (fun (h : 43 = 18) => absurd h (by decide)) (fun _ h16 => (Or.inr ⟨f_n_t109, (Ab_some (y := (4, m_md t23, 3)) rfl (show n < m_md t23 from by omega)), H50_no la_n_t109 wl_n_t109 (by decide)⟩)) r [] (fun y hy => absurd hy List.not_mem_nil) hS⟩⟩⟩
                    · exact (Aj_up (x := (18, m_md t23, 1)) (Aj_up (x := (5, m_md t23, 3)) (Aj_sub (y := (4, m_md t23, 3)) hJ (Nat.le_of_ble_eq_true rfl)) (Or.inr (Nat.le_of_ble_eq_true rfl))) (Or.inr (Nat.le_of_ble_eq_true rfl)))
                    · show m_dp t109 = (dlt 18 + (dlt 5 + (dlt 4 + sD r)))
                      have : dlt 18 = 0 := rfl; have : dlt 4 = 0 := rfl; have : dlt 43 = 0 := rfl; have : dlt 5 = 0 := rfl; omega
                    · show m_rw t109 = (rho 18 + (rho 5 + (rho 4 + sR r)))
                      have : rho 18 = 0 := rfl; have : rho 4 = 0 := rfl; have : rho 43 = 0 := rfl; have : rho 5 = 0 := rfl; omega
                    · show m_md t109 + (mu7 18 + (mu7 5 + (mu7 4 + sM r))) ≤ 3 * m_at t109 + 7 * (r.length + 1 + 1 + 1) + 10
                      have : mu7 18 = 5 := rfl; have : mu7 4 = 7 := rfl; have : mu7 43 = 4 := rfl; have : mu7 5 = 7 := rfl; omega
                    · show (wt 18 + (wt 5 + (wt 4 + sW r))) + 6 * (4096 - m_at t109) + 4 * (600 - (r.length + 1 + 1 + 1)) < (wt 43 + sW r) + 6 * (4096 - m_at t0) + 4 * (600 - (r.length + 1))
                      have : wt 18 = 0 := rfl; have : wt 4 = 5 := rfl; have : wt 43 = 0 := rfl; have : wt 5 = 5 := rfl; omega
                  · refine Ok_ife (Nat.lt_trans (lo_lt (C_t25.tk hT) _) (by decide)) (by decide) (fun q110 => ?_) (fun q110 => ?_)
                    · refine Kp_push C_t25 (by omega) (fun t111 C_t111 X_t111 a_t111 b_t111 d_t111 w_t111 u_t111 v_t111 j_t111 l_t111 => ?_)
                      have e_t111 := C_t111.2.2.2.1
                      rw [a_t25] at a_t111
                      rw [b_t25] at b_t111
                      rw [d_t25] at d_t111
                      rw [w_t25] at w_t111
                      rw [u_t25] at u_t111
                      rw [v_t25] at v_t111
                      clear d_t25 w_t25 u_t25 v_t25 e_t25 a_t25 b_t25
                      have I_n_t111 := I_n_t25.flat X_t111
                      have f_n_t111 := f_n_t25.ex I_n_t25 (X_t111 0)
                      have u_n_t111 := u_n_t25.ex I_n_t25 (X_t111 0)
                      have I_m_mdt4_t111 := I_m_mdt4_t25.flat X_t111
                      have f_m_mdt4_t111 := f_m_mdt4_t25.ex I_m_mdt4_t25 (X_t111 0)
                      have I_m_mdt23_t111 := I_m_mdt23_t25.flat X_t111
                      have u_m_mdt23_t111 := u_m_mdt23_t25.ex I_m_mdt23_t25 (X_t111 0)
                      have la_n_t111 : m_la t111 n = (m_md t4) + 1 := by rw [j_t111.2.2.1]; exact la_n_t25
                      have wl_n_t111 : m_wh t111 ((m_md t4)) = 56 := by rw [j_t111.1]; exact wl_n_t25
                      clear la_n_t25 wl_n_t25
                      have la_m_mdt4_t111 : m_la t111 (m_md t4) = (m_md t23) + 1 := by rw [j_t111.2.2.1]; exact la_m_mdt4_t25
                      have wl_m_mdt4_t111 : m_wh t111 ((m_md t23)) = 13 := by rw [j_t111.1]; exact wl_m_mdt4_t25
                      clear la_m_mdt4_t25 wl_m_mdt4_t25
                      refine Kp_push C_t111 (by omega) (fun t112 C_t112 X_t112 a_t112 b_t112 d_t112 w_t112 u_t112 v_t112 j_t112 l_t112 => ?_)
                      have e_t112 := C_t112.2.2.2.1
                      rw [a_t111] at a_t112
                      rw [b_t111] at b_t112
                      rw [d_t111] at d_t112
                      rw [w_t111] at w_t112
                      rw [u_t111] at u_t112
                      rw [v_t111] at v_t112
                      clear d_t111 w_t111 u_t111 v_t111 e_t111 a_t111 b_t111
                      have I_n_t112 := I_n_t111.flat X_t112
                      have f_n_t112 := f_n_t111.ex I_n_t111 (X_t112 0)
                      have u_n_t112 := u_n_t111.ex I_n_t111 (X_t112 0)
                      have I_m_mdt4_t112 := I_m_mdt4_t111.flat X_t112
                      have f_m_mdt4_t112 := f_m_mdt4_t111.ex I_m_mdt4_t111 (X_t112 0)
                      have I_m_mdt23_t112 := I_m_mdt23_t111.flat X_t112
                      have u_m_mdt23_t112 := u_m_mdt23_t111.ex I_m_mdt23_t111 (X_t112 0)
                      have la_n_t112 : m_la t112 n = (m_md t4) + 1 := by rw [j_t112.2.2.1]; exact la_n_t111
                      have wl_n_t112 : m_wh t112 ((m_md t4)) = 56 := by rw [j_t112.1]; exact wl_n_t111
                      clear la_n_t111 wl_n_t111
                      have la_m_mdt4_t112 : m_la t112 (m_md t4) = (m_md t23) + 1 := by rw [j_t112.2.2.1]; exact la_m_mdt4_t111
                      have wl_m_mdt4_t112 : m_wh t112 ((m_md t23)) = 13 := by rw [j_t112.1]; exact wl_m_mdt4_t111
                      clear la_m_mdt4_t111 wl_m_mdt4_t111
                      refine Ok_ret (show Ok _ _ _ from ?_)
                      refine Ok_ret (show Ok _ _ _ from ?_)
                      refine Hv_mk (Kv_c (x := (18, m_md t23, 1)) rfl (Kv_c (x := (5, m_md t23, 3)) rfl (Kv_c (x := (4, m_md t23, 3)) rfl hK))) (C_t112.1.2.2.2.2.2.2 hTt) C_t112 hT (by omega) (by omega) (by omega) ?_ ?_ ?_ (by omega) ?_ ?_ ?_
                      · exact ⟨(Io_n (by decide) (by decide) I_m_mdt23_t112.1 I_m_mdt23_t112.2.1 I_m_mdt23_t112.2.2.1 (fun q => absurd q (by decide)) (fun q => absurd q (by decide)) I_m_mdt23_t112.2.2.2), (Nd_0 (by decide) Mo_nil), ⟨(Io_n (by decide) (by decide) I_m_mdt23_t112.1 I_m_mdt23_t112.2.1 I_m_mdt23_t112.2.2.1 (fun q => absurd q (by decide)) (fun q => absurd q (by decide)) I_m_mdt23_t112.2.2.2), (Nd_5 (Mo_cons (fun q => show m_md t23 ≤ m_md t23 from by omega) Mo_nil) (Or.inl ⟨1, rfl⟩)), ⟨(Io_n (by decide) (by decide) I_m_mdt23_t112.1 I_m_mdt23_t112.2.1 I_m_mdt23_t112.2.2.1 (fun q => absurd q (by decide)) (fun q => absurd q (by decide)) I_m_mdt23_t112.2.2.2), (Nd_A (by decide) (Mo_cons (fun q => show m_md t23 ≤ m_md t23 from by omega) (Mo_cons (fun q => show m_md t23 ≤ m_md t23 from by omega) Mo_nil)) (Or.inr ⟨(18, m_md t23, 1), (List.mem_cons_of_mem _ List.mem_cons_self), rfl, Or.inr (Or.inl rfl)⟩)), Stk_step (N := n) (pop := (43, n, t)) (new := [(4, m_md t23, 3), (5, m_md t23, 3), (18, m_md t23, 1)]) F0 C_t112.1.to2 (fun (h : nk 43 = false) => absurd h (by decide)) (fun q _ h => h (43, n, t) rfl) (fun _ => rfl) (fun y hy hk => ⟨rfl, (Mo_cons (fun q => show n ≤ m_md t23 from by omega) (Mo_cons (fun q => show n ≤ m_md t23 from by omega) (Mo_cons (fun q => show n ≤ m_md t23 from by omega) Mo_nil))) y hy hk⟩) (fun (h : 43 = 3 ∨ 43 = 18 ∨ 43 = 41) => absurd h (by decide)) (fun (h : 43 = 18) => absurd h (by decide)) (fun _ h16 => (Or.inr ⟨f_n_t112, (Ab_some (y := (4, m_md t23, 3)) rfl (show n < m_md t23 from by omega)), H50_no la_n_t112 wl_n_t112 (by decide)⟩)) r [] (fun y hy => absurd hy List.not_mem_nil) hS⟩⟩⟩
                      · exact (Aj_up (x := (18, m_md t23, 1)) (Aj_up (x := (5, m_md t23, 3)) (Aj_sub (y := (4, m_md t23, 3)) hJ (Nat.le_of_ble_eq_true rfl)) (Or.inr (Nat.le_of_ble_eq_true rfl))) (Or.inr (Nat.le_of_ble_eq_true rfl)))
                      · show m_dp t112 = (dlt 18 + (dlt 5 + (dlt 4 + sD r)))
                        have : dlt 18 = 0 := rfl; have : dlt 4 = 0 := rfl; have : dlt 43 = 0 := rfl; have : dlt 5 = 0 := rfl; omega
                      · show m_rw t112 = (rho 18 + (rho 5 + (rho 4 + sR r)))
                        have : rho 18 = 0 := rfl; have : rho 4 = 0 := rfl; have : rho 43 = 0 := rfl; have : rho 5 = 0 := rfl; omega
                      · show m_md t112 + (mu7 18 + (mu7 5 + (mu7 4 + sM r))) ≤ 3 * m_at t112 + 7 * (r.length + 1 + 1 + 1) + 10
                        have : mu7 18 = 5 := rfl; have : mu7 4 = 7 := rfl; have : mu7 43 = 4 := rfl; have : mu7 5 = 7 := rfl; omega
                      · show (wt 18 + (wt 5 + (wt 4 + sW r))) + 6 * (4096 - m_at t112) + 4 * (600 - (r.length + 1 + 1 + 1)) < (wt 43 + sW r) + 6 * (4096 - m_at t0) + 4 * (600 - (r.length + 1))
                        have : wt 18 = 0 := rfl; have : wt 4 = 5 := rfl; have : wt 43 = 0 := rfl; have : wt 5 = 5 := rfl; omega
                    · refine Ok_ife (Nat.lt_trans (lo_lt (C_t25.tk hT) _) (by decide)) (by decide) (fun q113 => ?_) (fun q113 => ?_)
                      · refine Kp_push C_t25 (by omega) (fun t114 C_t114 X_t114 a_t114 b_t114 d_t114 w_t114 u_t114 v_t114 j_t114 l_t114 => ?_)
                        have e_t114 := C_t114.2.2.2.1
                        rw [a_t25] at a_t114
                        rw [b_t25] at b_t114
                        rw [d_t25] at d_t114
                        rw [w_t25] at w_t114
                        rw [u_t25] at u_t114
                        rw [v_t25] at v_t114
                        clear d_t25 w_t25 u_t25 v_t25 e_t25 a_t25 b_t25
                        have I_n_t114 := I_n_t25.flat X_t114
                        have f_n_t114 := f_n_t25.ex I_n_t25 (X_t114 0)
                        have u_n_t114 := u_n_t25.ex I_n_t25 (X_t114 0)
                        have I_m_mdt4_t114 := I_m_mdt4_t25.flat X_t114
                        have f_m_mdt4_t114 := f_m_mdt4_t25.ex I_m_mdt4_t25 (X_t114 0)
                        have I_m_mdt23_t114 := I_m_mdt23_t25.flat X_t114
                        have u_m_mdt23_t114 := u_m_mdt23_t25.ex I_m_mdt23_t25 (X_t114 0)
                        have la_n_t114 : m_la t114 n = (m_md t4) + 1 := by rw [j_t114.2.2.1]; exact la_n_t25
                        have wl_n_t114 : m_wh t114 ((m_md t4)) = 56 := by rw [j_t114.1]; exact wl_n_t25
                        clear la_n_t25 wl_n_t25
                        have la_m_mdt4_t114 : m_la t114 (m_md t4) = (m_md t23) + 1 := by rw [j_t114.2.2.1]; exact la_m_mdt4_t25
                        have wl_m_mdt4_t114 : m_wh t114 ((m_md t23)) = 13 := by rw [j_t114.1]; exact wl_m_mdt4_t25
                        clear la_m_mdt4_t25 wl_m_mdt4_t25
                        refine Kp_push C_t114 (by omega) (fun t115 C_t115 X_t115 a_t115 b_t115 d_t115 w_t115 u_t115 v_t115 j_t115 l_t115 => ?_)
                        have e_t115 := C_t115.2.2.2.1
                        rw [a_t114] at a_t115
                        rw [b_t114] at b_t115
                        rw [d_t114] at d_t115
                        rw [w_t114] at w_t115
                        rw [u_t114] at u_t115
                        rw [v_t114] at v_t115
                        clear d_t114 w_t114 u_t114 v_t114 e_t114 a_t114 b_t114
                        have I_n_t115 := I_n_t114.flat X_t115
                        have f_n_t115 := f_n_t114.ex I_n_t114 (X_t115 0)
                        have u_n_t115 := u_n_t114.ex I_n_t114 (X_t115 0)
                        have I_m_mdt4_t115 := I_m_mdt4_t114.flat X_t115
                        have f_m_mdt4_t115 := f_m_mdt4_t114.ex I_m_mdt4_t114 (X_t115 0)
                        have I_m_mdt23_t115 := I_m_mdt23_t114.flat X_t115
                        have u_m_mdt23_t115 := u_m_mdt23_t114.ex I_m_mdt23_t114 (X_t115 0)
                        have la_n_t115 : m_la t115 n = (m_md t4) + 1 := by rw [j_t115.2.2.1]; exact la_n_t114
                        have wl_n_t115 : m_wh t115 ((m_md t4)) = 56 := by rw [j_t115.1]; exact wl_n_t114
                        clear la_n_t114 wl_n_t114
                        have la_m_mdt4_t115 : m_la t115 (m_md t4) = (m_md t23) + 1 := by rw [j_t115.2.2.1]; exact la_m_mdt4_t114
                        have wl_m_mdt4_t115 : m_wh t115 ((m_md t23)) = 13 := by rw [j_t115.1]; exact wl_m_mdt4_t114
                        clear la_m_mdt4_t114 wl_m_mdt4_t114
                        refine Ok_ret (show Ok _ _ _ from ?_)
                        refine Ok_ret (show Ok _ _ _ from ?_)
                        refine Hv_mk (Kv_c (x := (18, m_md t23, 1)) rfl (Kv_c (x := (5, m_md t23, 3)) rfl (Kv_c (x := (4, m_md t23, 3)) rfl hK))) (C_t115.1.2.2.2.2.2.2 hTt) C_t115 hT (by omega) (by omega) (by omega) ?_ ?_ ?_ (by omega) ?_ ?_ ?_
                        · exact ⟨(Io_n (by decide) (by decide) I_m_mdt23_t115.1 I_m_mdt23_t115.2.1 I_m_mdt23_t115.2.2.1 (fun q => absurd q (by decide)) (fun q => absurd q (by decide)) I_m_mdt23_t115.2.2.2), (Nd_0 (by decide) Mo_nil), ⟨(Io_n (by decide) (by decide) I_m_mdt23_t115.1 I_m_mdt23_t115.2.1 I_m_mdt23_t115.2.2.1 (fun q => absurd q (by decide)) (fun q => absurd q (by decide)) I_m_mdt23_t115.2.2.2), (Nd_5 (Mo_cons (fun q => show m_md t23 ≤ m_md t23 from by omega) Mo_nil) (Or.inl ⟨1, rfl⟩)), ⟨(Io_n (by decide) (by decide) I_m_mdt23_t115.1 I_m_mdt23_t115.2.1 I_m_mdt23_t115.2.2.1 (fun q => absurd q (by decide)) (fun q => absurd q (by decide)) I_m_mdt23_t115.2.2.2), (Nd_A (by decide) (Mo_cons (fun q => show m_md t23 ≤ m_md t23 from by omega) (Mo_cons (fun q => show m_md t23 ≤ m_md t23 from by omega) Mo_nil)) (Or.inr ⟨(18, m_md t23, 1), (List.mem_cons_of_mem _ List.mem_cons_self), rfl, Or.inr (Or.inl rfl)⟩)), Stk_step (N := n) (pop := (43, n, t)) (new := [(4, m_md t23, 3), (5, m_md t23, 3), (18, m_md t23, 1)]) F0 C_t115.1.to2 (fun (h : nk 43 = false) => absurd h (by decide)) (fun q _ h => h (43, n, t) rfl) (fun _ => rfl) (fun y hy hk => ⟨rfl, (Mo_cons (fun q => show n ≤ m_md t23 from by omega) (Mo_cons (fun q => show n ≤ m_md t23 from by omega) (Mo_cons (fun q => show n ≤ m_md t23 from by omega) Mo_nil))) y hy hk⟩) (fun (h : 43 = 3 ∨ 43 = 18 ∨ 43 = 41) => absurd h (by decide)) (fun (h : 43 = 18) => absurd h (by decide)) (fun _ h16 => (Or.inr ⟨f_n_t115, (Ab_some (y := (4, m_md t23, 3)) rfl (show n < m_md t23 from by omega)), H50_no la_n_t115 wl_n_t115 (by decide)⟩)) r [] (fun y hy => absurd hy List.not_mem_nil) hS⟩⟩⟩
                        · exact (Aj_up (x := (18, m_md t23, 1)) (Aj_up (x := (5, m_md t23, 3)) (Aj_sub (y := (4, m_md t23, 3)) hJ (Nat.le_of_ble_eq_true rfl)) (Or.inr (Nat.le_of_ble_eq_true rfl))) (Or.inr (Nat.le_of_ble_eq_true rfl)))
                        · show m_dp t115 = (dlt 18 + (dlt 5 + (dlt 4 + sD r)))
                          have : dlt 18 = 0 := rfl; have : dlt 4 = 0 := rfl; have : dlt 43 = 0 := rfl; have : dlt 5 = 0 := rfl; omega
                        · show m_rw t115 = (rho 18 + (rho 5 + (rho 4 + sR r)))
                          have : rho 18 = 0 := rfl; have : rho 4 = 0 := rfl; have : rho 43 = 0 := rfl; have : rho 5 = 0 := rfl; omega
                        · show m_md t115 + (mu7 18 + (mu7 5 + (mu7 4 + sM r))) ≤ 3 * m_at t115 + 7 * (r.length + 1 + 1 + 1) + 10
                          have : mu7 18 = 5 := rfl; have : mu7 4 = 7 := rfl; have : mu7 43 = 4 := rfl; have : mu7 5 = 7 := rfl; omega
                        · show (wt 18 + (wt 5 + (wt 4 + sW r))) + 6 * (4096 - m_at t115) + 4 * (600 - (r.length + 1 + 1 + 1)) < (wt 43 + sW r) + 6 * (4096 - m_at t0) + 4 * (600 - (r.length + 1))
                          have : wt 18 = 0 := rfl; have : wt 4 = 5 := rfl; have : wt 43 = 0 := rfl; have : wt 5 = 5 := rfl; omega
                      · refine Ok_ife (Nat.lt_trans (lo_lt (C_t25.tk hT) _) (by decide)) (by decide) (fun q116 => ?_) (fun q116 => ?_)
                        · refine Kp_push C_t25 (by omega) (fun t117 C_t117 X_t117 a_t117 b_t117 d_t117 w_t117 u_t117 v_t117 j_t117 l_t117 => ?_)
                          have e_t117 := C_t117.2.2.2.1
                          rw [a_t25] at a_t117
                          rw [b_t25] at b_t117
                          rw [d_t25] at d_t117
                          rw [w_t25] at w_t117
                          rw [u_t25] at u_t117
                          rw [v_t25] at v_t117
                          clear d_t25 w_t25 u_t25 v_t25 e_t25 a_t25 b_t25
                          have I_n_t117 := I_n_t25.flat X_t117
                          have f_n_t117 := f_n_t25.ex I_n_t25 (X_t117 0)
                          have u_n_t117 := u_n_t25.ex I_n_t25 (X_t117 0)
                          have I_m_mdt4_t117 := I_m_mdt4_t25.flat X_t117
                          have f_m_mdt4_t117 := f_m_mdt4_t25.ex I_m_mdt4_t25 (X_t117 0)
                          have I_m_mdt23_t117 := I_m_mdt23_t25.flat X_t117
                          have u_m_mdt23_t117 := u_m_mdt23_t25.ex I_m_mdt23_t25 (X_t117 0)
                          have la_n_t117 : m_la t117 n = (m_md t4) + 1 := by rw [j_t117.2.2.1]; exact la_n_t25
                          have wl_n_t117 : m_wh t117 ((m_md t4)) = 56 := by rw [j_t117.1]; exact wl_n_t25
                          clear la_n_t25 wl_n_t25
                          have la_m_mdt4_t117 : m_la t117 (m_md t4) = (m_md t23) + 1 := by rw [j_t117.2.2.1]; exact la_m_mdt4_t25
                          have wl_m_mdt4_t117 : m_wh t117 ((m_md t23)) = 13 := by rw [j_t117.1]; exact wl_m_mdt4_t25
                          clear la_m_mdt4_t25 wl_m_mdt4_t25
                          refine Kp_push C_t117 (by omega) (fun t118 C_t118 X_t118 a_t118 b_t118 d_t118 w_t118 u_t118 v_t118 j_t118 l_t118 => ?_)
                          have e_t118 := C_t118.2.2.2.1
                          rw [a_t117] at a_t118
                          rw [b_t117] at b_t118
                          rw [d_t117] at d_t118
                          rw [w_t117] at w_t118
                          rw [u_t117] at u_t118
                          rw [v_t117] at v_t118
                          clear d_t117 w_t117 u_t117 v_t117 e_t117 a_t117 b_t117
                          have I_n_t118 := I_n_t117.flat X_t118
                          have f_n_t118 := f_n_t117.ex I_n_t117 (X_t118 0)
                          have u_n_t118 := u_n_t117.ex I_n_t117 (X_t118 0)
                          have I_m_mdt4_t118 := I_m_mdt4_t117.flat X_t118
                          have f_m_mdt4_t118 := f_m_mdt4_t117.ex I_m_mdt4_t117 (X_t118 0)
                          have I_m_mdt23_t118 := I_m_mdt23_t117.flat X_t118
                          have u_m_mdt23_t118 := u_m_mdt23_t117.ex I_m_mdt23_t117 (X_t118 0)
                          have la_n_t118 : m_la t118 n = (m_md t4) + 1 := by rw [j_t118.2.2.1]; exact la_n_t117
                          have wl_n_t118 : m_wh t118 ((m_md t4)) = 56 := by rw [j_t118.1]; exact wl_n_t117
                          clear la_n_t117 wl_n_t117
                          have la_m_mdt4_t118 : m_la t118 (m_md t4) = (m_md t23) + 1 := by rw [j_t118.2.2.1]; exact la_m_mdt4_t117
                          have wl_m_mdt4_t118 : m_wh t118 ((m_md t23)) = 13 := by rw [j_t118.1]; exact wl_m_mdt4_t117
                          clear la_m_mdt4_t117 wl_m_mdt4_t117
                          refine Ok_ret (show Ok _ _ _ from ?_)
                          refine Ok_ret (show Ok _ _ _ from ?_)
                          refine Hv_mk (Kv_c (x := (18, m_md t23, 1)) rfl (Kv_c (x := (5, m_md t23, 3)) rfl (Kv_c (x := (4, m_md t23, 3)) rfl hK))) (C_t118.1.2.2.2.2.2.2 hTt) C_t118 hT (by omega) (by omega) (by omega) ?_ ?_ ?_ (by omega) ?_ ?_ ?_
                          · exact ⟨(Io_n (by decide) (by decide) I_m_mdt23_t118.1 I_m_mdt23_t118.2.1 I_m_mdt23_t118.2.2.1 (fun q => absurd q (by decide)) (fun q => absurd q (by decide)) I_m_mdt23_t118.2.2.2), (Nd_0 (by decide) Mo_nil), ⟨(Io_n (by decide) (by decide) I_m_mdt23_t118.1 I_m_mdt23_t118.2.1 I_m_mdt23_t118.2.2.1 (fun q => absurd q (by decide)) (fun q => absurd q (by decide)) I_m_mdt23_t118.2.2.2), (Nd_5 (Mo_cons (fun q => show m_md t23 ≤ m_md t23 from by omega) Mo_nil) (Or.inl ⟨1, rfl⟩)), ⟨(Io_n (by decide) (by decide) I_m_mdt23_t118.1 I_m_mdt23_t118.2.1 I_m_mdt23_t118.2.2.1 (fun q => absurd q (by decide)) (fun q => absurd q (by decide)) I_m_mdt23_t118.2.2.2), (Nd_A (by decide) (Mo_cons (fun q => show m_md t23 ≤ m_md t23 from by omega) (Mo_cons (fun q => show m_md t23 ≤ m_md t23 from by omega) Mo_nil)) (Or.inr ⟨(18, m_md t23, 1), (List.mem_cons_of_mem _ List.mem_cons_self), rfl, Or.inr (Or.inl rfl)⟩)), Stk_step (N := n) (pop := (43, n, t)) (new := [(4, m_md t23, 3), (5, m_md t23, 3), (18, m_md t23, 1)]) F0 C_t118.1.to2 (fun (h : nk 43 = false) => absurd h (by decide)) (fun q _ h => h (43, n, t) rfl) (fun _ => rfl) (fun y hy hk => ⟨rfl, (Mo_cons (fun q => show n ≤ m_md t23 from by omega) (Mo_cons (fun q => show n ≤ m_md t23 from by omega) (Mo_cons (fun q => show n ≤ m_md t23 from by omega) Mo_nil))) y hy hk⟩) (fun (h : 43 = 3 ∨ 43 = 18 ∨ 43 = 41) => absurd h (by decide)) (fun (h : 43 = 18) => absurd h (by decide)) (fun _ h16 => (Or.inr ⟨f_n_t118, (Ab_some (y := (4, m_md t23, 3)) rfl (show n < m_md t23 from by omega)), H50_no la_n_t118 wl_n_t118 (by decide)⟩)) r [] (fun y hy => absurd hy List.not_mem_nil) hS⟩⟩⟩
                          · exact (Aj_up (x := (18, m_md t23, 1)) (Aj_up (x := (5, m_md t23, 3)) (Aj_sub (y := (4, m_md t23, 3)) hJ (Nat.le_of_ble_eq_true rfl)) (Or.inr (Nat.le_of_ble_eq_true rfl))) (Or.inr (Nat.le_of_ble_eq_true rfl)))
                          · show m_dp t118 = (dlt 18 + (dlt 5 + (dlt 4 + sD r)))
                            have : dlt 18 = 0 := rfl; have : dlt 4 = 0 := rfl; have : dlt 43 = 0 := rfl; have : dlt 5 = 0 := rfl; omega
                          · show m_rw t118 = (rho 18 + (rho 5 + (rho 4 + sR r)))
                            have : rho 18 = 0 := rfl; have : rho 4 = 0 := rfl; have : rho 43 = 0 := rfl; have : rho 5 = 0 := rfl; omega
                          · show m_md t118 + (mu7 18 + (mu7 5 + (mu7 4 + sM r))) ≤ 3 * m_at t118 + 7 * (r.length + 1 + 1 + 1) + 10
                            have : mu7 18 = 5 := rfl; have : mu7 4 = 7 := rfl; have : mu7 43 = 4 := rfl; have : mu7 5 = 7 := rfl; omega
                          · show (wt 18 + (wt 5 + (wt 4 + sW r))) + 6 * (4096 - m_at t118) + 4 * (600 - (r.length + 1 + 1 + 1)) < (wt 43 + sW r) + 6 * (4096 - m_at t0) + 4 * (600 - (r.length + 1))
                            have : wt 18 = 0 := rfl; have : wt 4 = 5 := rfl; have : wt 43 = 0 := rfl; have : wt 5 = 5 := rfl; omega
                        · refine Ok_ife (Nat.lt_trans (lo_lt (C_t25.tk hT) _) (by decide)) (by decide) (fun q119 => ?_) (fun q119 => ?_)
                          · refine Kp_push C_t25 (by omega) (fun t120 C_t120 X_t120 a_t120 b_t120 d_t120 w_t120 u_t120 v_t120 j_t120 l_t120 => ?_)
                            have e_t120 := C_t120.2.2.2.1
                            rw [a_t25] at a_t120
                            rw [b_t25] at b_t120
                            rw [d_t25] at d_t120
                            rw [w_t25] at w_t120
                            rw [u_t25] at u_t120
                            rw [v_t25] at v_t120
                            clear d_t25 w_t25 u_t25 v_t25 e_t25 a_t25 b_t25
                            have I_n_t120 := I_n_t25.flat X_t120
                            have f_n_t120 := f_n_t25.ex I_n_t25 (X_t120 0)
                            have u_n_t120 := u_n_t25.ex I_n_t25 (X_t120 0)
                            have I_m_mdt4_t120 := I_m_mdt4_t25.flat X_t120
                            have f_m_mdt4_t120 := f_m_mdt4_t25.ex I_m_mdt4_t25 (X_t120 0)
                            have I_m_mdt23_t120 := I_m_mdt23_t25.flat X_t120
                            have u_m_mdt23_t120 := u_m_mdt23_t25.ex I_m_mdt23_t25 (X_t120 0)
                            have la_n_t120 : m_la t120 n = (m_md t4) + 1 := by rw [j_t120.2.2.1]; exact la_n_t25
                            have wl_n_t120 : m_wh t120 ((m_md t4)) = 56 := by rw [j_t120.1]; exact wl_n_t25
                            clear la_n_t25 wl_n_t25
                            have la_m_mdt4_t120 : m_la t120 (m_md t4) = (m_md t23) + 1 := by rw [j_t120.2.2.1]; exact la_m_mdt4_t25
                            have wl_m_mdt4_t120 : m_wh t120 ((m_md t23)) = 13 := by rw [j_t120.1]; exact wl_m_mdt4_t25
                            clear la_m_mdt4_t25 wl_m_mdt4_t25
                            refine Kp_push C_t120 (by omega) (fun t121 C_t121 X_t121 a_t121 b_t121 d_t121 w_t121 u_t121 v_t121 j_t121 l_t121 => ?_)
                            have e_t121 := C_t121.2.2.2.1
                            rw [a_t120] at a_t121
                            rw [b_t120] at b_t121
                            rw [d_t120] at d_t121
                            rw [w_t120] at w_t121
                            rw [u_t120] at u_t121
                            rw [v_t120] at v_t121
                            clear d_t120 w_t120 u_t120 v_t120 e_t120 a_t120 b_t120
                            have I_n_t121 := I_n_t120.flat X_t121
                            have f_n_t121 := f_n_t120.ex I_n_t120 (X_t121 0)
                            have u_n_t121 := u_n_t120.ex I_n_t120 (X_t121 0)
                            have I_m_mdt4_t121 := I_m_mdt4_t120.flat X_t121
                            have f_m_mdt4_t121 := f_m_mdt4_t120.ex I_m_mdt4_t120 (X_t121 0)
                            have I_m_mdt23_t121 := I_m_mdt23_t120.flat X_t121
                            have u_m_mdt23_t121 := u_m_mdt23_t120.ex I_m_mdt23_t120 (X_t121 0)
                            have la_n_t121 : m_la t121 n = (m_md t4) + 1 := by rw [j_t121.2.2.1]; exact la_n_t120
                            have wl_n_t121 : m_wh t121 ((m_md t4)) = 56 := by rw [j_t121.1]; exact wl_n_t120
                            clear la_n_t120 wl_n_t120
                            have la_m_mdt4_t121 : m_la t121 (m_md t4) = (m_md t23) + 1 := by rw [j_t121.2.2.1]; exact la_m_mdt4_t120
                            have wl_m_mdt4_t121 : m_wh t121 ((m_md t23)) = 13 := by rw [j_t121.1]; exact wl_m_mdt4_t120
                            clear la_m_mdt4_t120 wl_m_mdt4_t120
                            refine Ok_ret (show Ok _ _ _ from ?_)
                            refine Ok_ret (show Ok _ _ _ from ?_)
                            refine Hv_mk (Kv_c (x := (18, m_md t23, 1)) rfl (Kv_c (x := (5, m_md t23, 3)) rfl (Kv_c (x := (4, m_md t23, 3)) rfl hK))) (C_t121.1.2.2.2.2.2.2 hTt) C_t121 hT (by omega) (by omega) (by omega) ?_ ?_ ?_ (by omega) ?_ ?_ ?_
                            · exact ⟨(Io_n (by decide) (by decide) I_m_mdt23_t121.1 I_m_mdt23_t121.2.1 I_m_mdt23_t121.2.2.1 (fun q => absurd q (by decide)) (fun q => absurd q (by decide)) I_m_mdt23_t121.2.2.2), (Nd_0 (by decide) Mo_nil), ⟨(Io_n (by decide) (by decide) I_m_mdt23_t121.1 I_m_mdt23_t121.2.1 I_m_mdt23_t121.2.2.1 (fun q => absurd q (by decide)) (fun q => absurd q (by decide)) I_m_mdt23_t121.2.2.2), (Nd_5 (Mo_cons (fun q => show m_md t23 ≤ m_md t23 from by omega) Mo_nil) (Or.inl ⟨1, rfl⟩)), ⟨(Io_n (by decide) (by decide) I_m_mdt23_t121.1 I_m_mdt23_t121.2.1 I_m_mdt23_t121.2.2.1 (fun q => absurd q (by decide)) (fun q => absurd q (by decide)) I_m_mdt23_t121.2.2.2), (Nd_A (by decide) (Mo_cons (fun q => show m_md t23 ≤ m_md t23 from by omega) (Mo_cons (fun q => show m_md t23 ≤ m_md t23 from by omega) Mo_nil)) (Or.inr ⟨(18, m_md t23, 1), (List.mem_cons_of_mem _ List.mem_cons_self), rfl, Or.inr (Or.inl rfl)⟩)), Stk_step (N := n) (pop := (43, n, t)) (new := [(4, m_md t23, 3), (5, m_md t23, 3), (18, m_md t23, 1)]) F0 C_t121.1.to2 (fun (h : nk 43 = false) => absurd h (by decide)) (fun q _ h => h (43, n, t) rfl) (fun _ => rfl) (fun y hy hk => ⟨rfl, (Mo_cons (fun q => show n ≤ m_md t23 from by omega) (Mo_cons (fun q => show n ≤ m_md t23 from by omega) (Mo_cons (fun q => show n ≤ m_md t23 from by omega) Mo_nil))) y hy hk⟩) (fun (h : 43 = 3 ∨ 43 = 18 ∨ 43 = 41) => absurd h (by decide)) (fun (h : 43 = 18) => absurd h (by decide)) (fun _ h16 => (Or.inr ⟨f_n_t121, (Ab_some (y := (4, m_md t23, 3)) rfl (show n < m_md t23 from by omega)), H50_no la_n_t121 wl_n_t121 (by decide)⟩)) r [] (fun y hy => absurd hy List.not_mem_nil) hS⟩⟩⟩
                            · exact (Aj_up (x := (18, m_md t23, 1)) (Aj_up (x := (5, m_md t23, 3)) (Aj_sub (y := (4, m_md t23, 3)) hJ (Nat.le_of_ble_eq_true rfl)) (Or.inr (Nat.le_of_ble_eq_true rfl))) (Or.inr (Nat.le_of_ble_eq_true rfl)))
                            · show m_dp t121 = (dlt 18 + (dlt 5 + (dlt 4 + sD r)))
                              have : dlt 18 = 0 := rfl; have : dlt 4 = 0 := rfl; have : dlt 43 = 0 := rfl; have : dlt 5 = 0 := rfl; omega
                            · show m_rw t121 = (rho 18 + (rho 5 + (rho 4 + sR r)))
                              have : rho 18 = 0 := rfl; have : rho 4 = 0 := rfl; have : rho 43 = 0 := rfl; have : rho 5 = 0 := rfl; omega
                            · show m_md t121 + (mu7 18 + (mu7 5 + (mu7 4 + sM r))) ≤ 3 * m_at t121 + 7 * (r.length + 1 + 1 + 1) + 10
                              have : mu7 18 = 5 := rfl; have : mu7 4 = 7 := rfl; have : mu7 43 = 4 := rfl; have : mu7 5 = 7 := rfl; omega
                            · show (wt 18 + (wt 5 + (wt 4 + sW r))) + 6 * (4096 - m_at t121) + 4 * (600 - (r.length + 1 + 1 + 1)) < (wt 43 + sW r) + 6 * (4096 - m_at t0) + 4 * (600 - (r.length + 1))
                              have : wt 18 = 0 := rfl; have : wt 4 = 5 := rfl; have : wt 43 = 0 := rfl; have : wt 5 = 5 := rfl; omega
                          · refine Kp_error C_t25 (by omega) (fun t122 C_t122 X_t122 a_t122 b_t122 d_t122 w_t122 u_t122 v_t122 j_t122 l_t122 => ?_)
                            have wb_t122 := w_t122.2
                            have w_t122 := Nat.pos_of_ne_zero w_t122.1
                            have e_t122 := C_t122.2.2.2.1
                            have I_n_t122 := I_n_t25.flat X_t122
                            have f_n_t122 := f_n_t25.ex I_n_t25 (X_t122 0)
                            have u_n_t122 := u_n_t25.ex I_n_t25 (X_t122 0)
                            have I_m_mdt4_t122 := I_m_mdt4_t25.flat X_t122
                            have f_m_mdt4_t122 := f_m_mdt4_t25.ex I_m_mdt4_t25 (X_t122 0)
                            have I_m_mdt23_t122 := I_m_mdt23_t25.flat X_t122
                            have u_m_mdt23_t122 := u_m_mdt23_t25.ex I_m_mdt23_t25 (X_t122 0)
                            have la_n_t122 : m_la t122 n = (m_md t4) + 1 := by rw [j_t122.2.2.1]; exact la_n_t25
                            have wl_n_t122 : m_wh t122 ((m_md t4)) = 56 := by rw [j_t122.1]; exact wl_n_t25
                            clear la_n_t25 wl_n_t25
                            have la_m_mdt4_t122 : m_la t122 (m_md t4) = (m_md t23) + 1 := by rw [j_t122.2.2.1]; exact la_m_mdt4_t25
                            have wl_m_mdt4_t122 : m_wh t122 ((m_md t23)) = 13 := by rw [j_t122.1]; exact wl_m_mdt4_t25
                            clear la_m_mdt4_t25 wl_m_mdt4_t25
                            refine Ok_ret (show Ok _ _ _ from ?_)
                            refine Ok_ret (show Ok _ _ _ from ?_)
                            exact Or.inl ⟨Nat.ne_of_gt (show 0 < m_wr t122 from by omega), by omega, by omega, C_t122.2.2.2.2.2, by omega⟩
    · refine Kp_error C_t0 (by omega) (fun t123 C_t123 X_t123 a_t123 b_t123 d_t123 w_t123 u_t123 v_t123 j_t123 l_t123 => ?_)
      have wb_t123 := w_t123.2
      have w_t123 := Nat.pos_of_ne_zero w_t123.1
      have e_t123 := C_t123.2.2.2.1
      have I_n_t123 := I_n_t0.flat X_t123
      have f_n_t123 := f_n_t0.ex I_n_t0 (X_t123 0)
      have u_n_t123 := u_n_t0.ex I_n_t0 (X_t123 0)
      exact Or.inl ⟨Nat.ne_of_gt (show 0 < m_wr t123 from by omega), by omega, by omega, C_t123.2.2.2.2.2, by omega⟩

