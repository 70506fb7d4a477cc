/-! The steps of the reference, one by one. -/
theorem S_4_t86 {t0 : Mm} {n t : Nat} {r : List It} (H : Hp t0 (4, n, t) r) {E : Mm → Prop} (hk0 : lo t0 (m_at t0) = 86) : Ok (Qh (mz t0 ((4, n, t) :: r))) E (b_X6_step 4 n t t0) := by
  obtain ⟨hK, hT, hc, hw0, ha, hC, hS, hJ, hdp, hdl, hrw, hmd, htd, hln, hm16, hI, hD, hTt⟩ := Hp_out H
  have C_t0 := hC n
  have F0 := C_t0.2.1
  have I_n_t0 : Nq t0 n := ⟨(hI.2.1 rfl).1, (hI.2.1 rfl).2.1, (hI.2.1 rfl).2.2, hI.2.2.2 rfl⟩
  have m_n_t0 := I_n_t0.1
  have ht : t < 4096 := hI.1.1 (show 4 ≠ 42 by decide) (show 4 ≠ 48 by decide)
  have hdp : m_dp t0 = dlt 4 + sD r := hdp
  have hrw : m_rw t0 = rho 4 + sR r := hrw
  have hmd : m_md t0 + mu7 4 + sM r ≤ 3 * m_at t0 + 7 * r.length + 17 := hmd
  have hand : t &&& 1 ≤ 1 := Nat.and_le_right
  have h01 : (0 &&& 1 : Nat) = 0 := rfl
  have h02 : (1 : Nat) * 256 = 256 := rfl
  have hq1 : dlt 4 = 0 := rfl
  have hq2 : rho 4 = 0 := rfl
  have hq3 : mu7 4 = 7 := rfl
  have f_n_t0 : Fz t0 n := (hD.2.1 (show 4 = 2 ∨ 4 = 4 ∨ 4 = 42 ∨ 4 = 50 by decide)).resolve_right (fun ⟨y, hy, _⟩ => absurd hy List.not_mem_nil)
  unfold b_X6_step
  refine Ok_ifl (by decide) (by decide) (fun q => absurd q (by decide)) (fun _ => ?_)
  refine Ok_ife (by decide) (by decide) (fun q => absurd q (by decide)) (fun _ => ?_)
  refine Ok_ife (by decide) (by decide) (fun q => absurd q (by decide)) (fun _ => ?_)
  refine Ok_bnc ?_
  try unfold b_X6_postfix
  refine Kp_look C_t0 hT (by omega) ?_
  refine Ok_ife (Nat.lt_trans (lo_lt (C_t0.tk hT) _) (by decide)) (by decide) (fun q => ?_) (fun q => absurd hk0 q)
  refine Ok_bnc ?_
  try unfold b_X6_dot
  have z_t3 : m_at t0 < m_ct t0 := lo_ne (Nat.ne_of_gt (show 0 < lo t0 (m_at t0) from by omega))
  refine Kp_at C_t0 (fun t3 C_t3 X_t3 a_t3 b_t3 d_t3 w_t3 u_t3 v_t3 j_t3 l_t3 => ?_)
  have e_t3 := C_t3.2.2.2.1
  have I_n_t3 := I_n_t0.flat X_t3
  have f_n_t3 := f_n_t0.ex I_n_t0 (X_t3 0)
  refine Kp_look C_t3 hT (by omega) ?_
  refine Ok_ife (Nat.lt_trans (lo_lt (C_t3.tk hT) _) (by decide)) (by decide) (fun q4 => ?_) (fun q4 => ?_)
  · refine Kp_wrap C_t3 I_n_t3.1 I_n_t3.2.1 f_n_t3 I_n_t3.2.2.1 (by omega) (by omega) (by decide) (fun t5 C_t5 X_t5 a_t5 b_t5 d_t5 w_t5 u_t5 v_t5 j_t5 l_t5 => ?_)
    have e_t5 := C_t5.2.2.2.1
    rw [a_t3] at a_t5
    rw [b_t3] at b_t5
    rw [d_t3] at d_t5
    rw [w_t3] at w_t5
    rw [u_t3] at u_t5
    rw [v_t3] at v_t5
    clear d_t3 w_t3 u_t3 v_t3 e_t3 a_t3
    have I_n_t5 := I_n_t3.le X_t5 (by omega)
    have f_n_t5 := f_n_t3.ex I_n_t3 (X_t5 0 (Nat.zero_le _))
    have I_m_mdt3_t5 : Nq t5 (m_md t3) := Nq.wrn j_t5 (by omega) I_n_t3 (by decide)
    have f_m_mdt3_t5 : Fz t5 (m_md t3) := by unfold Fz; rw [j_t5.2.1]; exact j_t5.2.2.1
    refine Ok_bnc ?_
    try unfold b_X6_name
    refine Kp_look C_t5 hT (by omega) ?_
    refine Ok_ife (Nat.lt_trans (lo_lt (C_t5.tk hT) _) (by decide)) (by decide) (fun q7 => ?_) (fun q7 => ?_)
    · refine Kp_child C_t5 I_m_mdt3_t5.1 I_m_mdt3_t5.2.1 I_m_mdt3_t5.2.2.1 (by omega) (by omega) (by decide) (by decide) (fun t8 C_t8 X_t8 a_t8 b_t8 d_t8 w_t8 u_t8 v_t8 j_t8 l_t8 => ?_)
      have e_t8 := C_t8.2.2.2.1
      rw [a_t5] at a_t8
      rw [b_t5] at b_t8
      rw [d_t5] at d_t8
      rw [w_t5] at w_t8
      rw [u_t5] at u_t8
      rw [v_t5] at v_t8
      clear d_t5 w_t5 u_t5 v_t5 e_t5 a_t5
      have I_n_t8 := I_n_t5.chd X_t8 j_t8
      have f_n_t8 := f_n_t5.ex I_n_t5 (X_t8 0 (Nat.zero_le _))
      have I_m_mdt3_t8 := I_m_mdt3_t5.chd X_t8 j_t8
      have f_m_mdt3_t8 := f_m_mdt3_t5.ex I_m_mdt3_t5 (X_t8 0 (Nat.zero_le _))
      have f_m_mdt3_t8 : Fz t8 (m_md t3) := j_t8.2.2.2.2.1
      have I_m_mdt5_t8 : Nq t8 (m_md t5) := Nq.chn j_t8 (by omega) I_m_mdt3_t5 (by decide)
      have u_m_mdt5_t8 : Up t8 (m_md t5) := Or.inl j_t8.2.1
      have z_t9 : m_at t8 < m_ct t8 := lo_ne (Nat.ne_of_gt (show 0 < lo t8 (m_at t8) from by omega))
      refine Kp_at C_t8 (fun t9 C_t9 X_t9 a_t9 b_t9 d_t9 w_t9 u_t9 v_t9 j_t9 l_t9 => ?_)
      have e_t9 := C_t9.2.2.2.1
      rw [a_t8] at a_t9
      rw [b_t8] at b_t9
      rw [d_t8] at d_t9
      rw [w_t8] at w_t9
      rw [u_t8] at u_t9
      rw [v_t8] at v_t9
      rw [a_t8, e_t8] at z_t9
      clear z_t3
      clear d_t8 w_t8 u_t8 v_t8 e_t8 a_t8 b_t8
      have I_n_t9 := I_n_t8.flat X_t9
      have f_n_t9 := f_n_t8.ex I_n_t8 (X_t9 0)
      have I_m_mdt3_t9 := I_m_mdt3_t8.flat X_t9
      have f_m_mdt3_t9 := f_m_mdt3_t8.ex I_m_mdt3_t8 (X_t9 0)
      have I_m_mdt5_t9 := I_m_mdt5_t8.flat X_t9
      have u_m_mdt5_t9 := u_m_mdt5_t8.ex I_m_mdt5_t8 (X_t9 0)
      refine Ok_ret (show Ok _ _ _ from ?_)
      refine Kp_push C_t9 (by omega) (fun t10 C_t10 X_t10 a_t10 b_t10 d_t10 w_t10 u_t10 v_t10 j_t10 l_t10 => ?_)
      have e_t10 := C_t10.2.2.2.1
      rw [a_t9] at a_t10
      rw [b_t9] at b_t10
      rw [d_t9] at d_t10
      rw [w_t9] at w_t10
      rw [u_t9] at u_t10
      rw [v_t9] at v_t10
      clear d_t9 w_t9 u_t9 v_t9 e_t9 a_t9 b_t9
      have I_n_t10 := I_n_t9.flat X_t10
      have f_n_t10 := f_n_t9.ex I_n_t9 (X_t10 0)
      have I_m_mdt3_t10 := I_m_mdt3_t9.flat X_t10
      have f_m_mdt3_t10 := f_m_mdt3_t9.ex I_m_mdt3_t9 (X_t10 0)
      have I_m_mdt5_t10 := I_m_mdt5_t9.flat X_t10
      have u_m_mdt5_t10 := u_m_mdt5_t9.ex I_m_mdt5_t9 (X_t10 0)
      refine Ok_ret (show Ok _ _ _ from ?_)
      refine Ok_ret (show Ok _ _ _ from ?_)
      refine Hv_mk (Kv_c (x := (4, n, t)) rfl hK) (C_t10.1.2.2.2.2.2.2 hTt) C_t10 hT (by omega) (by omega) (by omega) ?_ ?_ ?_ (by omega) ?_ ?_ ?_
      · exact ⟨(Io_n (by decide) (show t < 4096 from by omega) I_n_t10.1 I_n_t10.2.1 I_n_t10.2.2.1 (fun q => absurd q (by decide)) (fun q => absurd q (by decide)) I_n_t10.2.2.2), (Nd_A (by decide) Mo_nil (Or.inl f_n_t10)), Stk_step (N := n) (pop := (4, n, t)) (new := [(4, n, t)]) F0 C_t10.1.to2 (fun (h : nk 4 = false) => absurd h (by decide)) (fun q _ h => h (4, n, t) rfl) (fun _ => rfl) (fun y hy hk => ⟨rfl, (Mo_cons (fun q => show n ≤ n from by omega) Mo_nil) y hy hk⟩) (fun (h : 4 = 3 ∨ 4 = 18 ∨ 4 = 41) => absurd h (by decide)) (fun (h : 4 = 18) => absurd h (by decide)) (fun (h : 4 = 41 ∨ 4 = 42 ∨ 4 = 43) => absurd h (by decide)) r [] (fun y hy => absurd hy List.not_mem_nil) hS⟩
      · exact (Aj_sub (y := (4, n, t)) hJ (Nat.le_of_ble_eq_true rfl))
      · show m_dp t10 = (dlt 4 + sD r)
        have : dlt 4 = 0 := rfl; omega
      · show m_rw t10 = (rho 4 + sR r)
        have : rho 4 = 0 := rfl; omega
      · show m_md t10 + (mu7 4 + sM r) ≤ 3 * m_at t10 + 7 * (r.length + 1) + 10
        have : mu7 4 = 7 := rfl; omega
      · show (wt 4 + sW r) + 6 * (4096 - m_at t10) + 4 * (600 - (r.length + 1)) < (wt 4 + sW r) + 6 * (4096 - m_at t0) + 4 * (600 - (r.length + 1))
        have : wt 4 = 5 := rfl; omega
    · refine Kp_error C_t5 (by omega) (fun t11 C_t11 X_t11 a_t11 b_t11 d_t11 w_t11 u_t11 v_t11 j_t11 l_t11 => ?_)
      have wb_t11 := w_t11.2
      have w_t11 := Nat.pos_of_ne_zero w_t11.1
      have e_t11 := C_t11.2.2.2.1
      have I_n_t11 := I_n_t5.flat X_t11
      have f_n_t11 := f_n_t5.ex I_n_t5 (X_t11 0)
      have I_m_mdt3_t11 := I_m_mdt3_t5.flat X_t11
      have f_m_mdt3_t11 := f_m_mdt3_t5.ex I_m_mdt3_t5 (X_t11 0)
      refine Kp_child C_t11 I_m_mdt3_t11.1 I_m_mdt3_t11.2.1 I_m_mdt3_t11.2.2.1 (by omega) (by omega) (by decide) (by decide) (fun t12 C_t12 X_t12 a_t12 b_t12 d_t12 w_t12 u_t12 v_t12 j_t12 l_t12 => ?_)
      have e_t12 := C_t12.2.2.2.1
      have I_n_t12 := I_n_t11.chd X_t12 j_t12
      have f_n_t12 := f_n_t11.ex I_n_t11 (X_t12 0 (Nat.zero_le _))
      have I_m_mdt3_t12 := I_m_mdt3_t11.chd X_t12 j_t12
      have f_m_mdt3_t12 := f_m_mdt3_t11.ex I_m_mdt3_t11 (X_t12 0 (Nat.zero_le _))
      have f_m_mdt3_t12 : Fz t12 (m_md t3) := j_t12.2.2.2.2.1
      have I_m_mdt11_t12 : Nq t12 (m_md t11) := Nq.chn j_t12 (by omega) I_m_mdt3_t11 (by decide)
      have u_m_mdt11_t12 : Up t12 (m_md t11) := Or.inl j_t12.2.1
      refine Kp_at C_t12 (fun t13 C_t13 X_t13 a_t13 b_t13 d_t13 w_t13 u_t13 v_t13 j_t13 l_t13 => ?_)
      have e_t13 := C_t13.2.2.2.1
      have I_n_t13 := I_n_t12.flat X_t13
      have f_n_t13 := f_n_t12.ex I_n_t12 (X_t13 0)
      have I_m_mdt3_t13 := I_m_mdt3_t12.flat X_t13
      have f_m_mdt3_t13 := f_m_mdt3_t12.ex I_m_mdt3_t12 (X_t13 0)
      have I_m_mdt11_t13 := I_m_mdt11_t12.flat X_t13
      have u_m_mdt11_t13 := u_m_mdt11_t12.ex I_m_mdt11_t12 (X_t13 0)
      refine Ok_ret (show Ok _ _ _ from ?_)
      refine Kp_push C_t13 (by omega) (fun t14 C_t14 X_t14 a_t14 b_t14 d_t14 w_t14 u_t14 v_t14 j_t14 l_t14 => ?_)
      have e_t14 := C_t14.2.2.2.1
      have I_n_t14 := I_n_t13.flat X_t14
      have f_n_t14 := f_n_t13.ex I_n_t13 (X_t14 0)
      have I_m_mdt3_t14 := I_m_mdt3_t13.flat X_t14
      have f_m_mdt3_t14 := f_m_mdt3_t13.ex I_m_mdt3_t13 (X_t14 0)
      have I_m_mdt11_t14 := I_m_mdt11_t13.flat X_t14
      have u_m_mdt11_t14 := u_m_mdt11_t13.ex I_m_mdt11_t13 (X_t14 0)
      refine Ok_ret (show Ok _ _ _ from ?_)
      refine Ok_ret (show Ok _ _ _ from ?_)
      exact Or.inl ⟨Nat.ne_of_gt (show 0 < m_wr t14 from by omega), by omega, by omega, C_t14.2.2.2.2.2, by omega⟩
  · refine Kp_look C_t3 hT (by omega) ?_
    refine Ok_ife (Nat.lt_trans (lo_lt (C_t3.tk hT) _) (by decide)) (by decide) (fun q15 => ?_) (fun q15 => ?_)
    · refine Kp_more C_t3 (by omega) (by omega) (fun t16 C_t16 X_t16 a_t16 b_t16 d_t16 w_t16 u_t16 v_t16 j_t16 l_t16 => ?_)
      have e_t16 := C_t16.2.2.2.1
      rcases w_t16 with ⟨w_t16, y_t16⟩ | ⟨w_t16, wb_t16⟩
      · rw [a_t3] at a_t16
        rw [b_t3] at b_t16
        rw [d_t3] at d_t16
        rw [w_t3] at w_t16
        rw [u_t3] at u_t16
        rw [v_t3] at v_t16
        rw [d_t16] at y_t16
        clear d_t3 w_t3 u_t3 v_t3 e_t3 a_t3 b_t3
        have I_n_t16 := I_n_t3.flat X_t16
        have f_n_t16 := f_n_t3.ex I_n_t3 (X_t16 0)
        have z_t17 : m_at t16 < m_ct t16 := lo_ne (Nat.ne_of_gt (show 0 < lo t16 (m_at t16) from by omega))
        refine Kp_at C_t16 (fun t17 C_t17 X_t17 a_t17 b_t17 d_t17 w_t17 u_t17 v_t17 j_t17 l_t17 => ?_)
        have e_t17 := C_t17.2.2.2.1
        rw [a_t16] at a_t17
        rw [b_t16] at b_t17
        rw [d_t16] at d_t17
        rw [w_t16] at w_t17
        rw [u_t16] at u_t17
        rw [v_t16] at v_t17
        rw [a_t16, e_t16] at z_t17
        clear z_t3
        clear d_t16 w_t16 u_t16 v_t16 e_t16 a_t16 b_t16
        have I_n_t17 := I_n_t16.flat X_t17
        have f_n_t17 := f_n_t16.ex I_n_t16 (X_t17 0)
        refine Kp_look C_t17 hT (by omega) ?_
        refine Ok_ife (Nat.lt_trans (lo_lt (C_t17.tk hT) _) (by decide)) (by decide) (fun q18 => ?_) (fun q18 => ?_)
        · refine Ok_ck (show t < 2147483648 from by omega) ?_
          refine Ok_ifz (f6_has _ _) (fun q19 => ?_) (fun q19 => ?_)
          · refine Kp_wrap C_t17 I_n_t17.1 I_n_t17.2.1 f_n_t17 I_n_t17.2.2.1 (by omega) (by omega) (by decide) (fun t20 C_t20 X_t20 a_t20 b_t20 d_t20 w_t20 u_t20 v_t20 j_t20 l_t20 => ?_)
            have e_t20 := C_t20.2.2.2.1
            rw [a_t17] at a_t20
            rw [b_t17] at b_t20
            rw [d_t17] at d_t20
            rw [w_t17] at w_t20
            rw [u_t17] at u_t20
            rw [v_t17] at v_t20
            clear d_t17 w_t17 u_t17 v_t17 e_t17 a_t17
            have I_n_t20 := I_n_t17.le X_t20 (by omega)
            have f_n_t20 := f_n_t17.ex I_n_t17 (X_t20 0 (Nat.zero_le _))
            have I_m_mdt17_t20 : Nq t20 (m_md t17) := Nq.wrn j_t20 (by omega) I_n_t17 (by decide)
            have f_m_mdt17_t20 : Fz t20 (m_md t17) := by unfold Fz; rw [j_t20.2.1]; exact j_t20.2.2.1
            refine Kp_push C_t20 (by omega) (fun t21 C_t21 X_t21 a_t21 b_t21 d_t21 w_t21 u_t21 v_t21 j_t21 l_t21 => ?_)
            have e_t21 := C_t21.2.2.2.1
            rw [a_t20] at a_t21
            rw [b_t20] at b_t21
            rw [d_t20] at d_t21
            rw [w_t20] at w_t21
            rw [u_t20] at u_t21
            rw [v_t20] at v_t21
            clear d_t20 w_t20 u_t20 v_t20 e_t20 a_t20 b_t20
            have I_n_t21 := I_n_t20.flat X_t21
            have f_n_t21 := f_n_t20.ex I_n_t20 (X_t21 0)
            have I_m_mdt17_t21 := I_m_mdt17_t20.flat X_t21
            have f_m_mdt17_t21 := f_m_mdt17_t20.ex I_m_mdt17_t20 (X_t21 0)
            refine Kp_push C_t21 (by omega) (fun t22 C_t22 X_t22 a_t22 b_t22 d_t22 w_t22 u_t22 v_t22 j_t22 l_t22 => ?_)
            have e_t22 := C_t22.2.2.2.1
            rw [a_t21] at a_t22
            rw [b_t21] at b_t22
            rw [d_t21] at d_t22
            rw [w_t21] at w_t22
            rw [u_t21] at u_t22
            rw [v_t21] at v_t22
            clear d_t21 w_t21 u_t21 v_t21 e_t21 a_t21 b_t21
            have I_n_t22 := I_n_t21.flat X_t22
            have f_n_t22 := f_n_t21.ex I_n_t21 (X_t22 0)
            have I_m_mdt17_t22 := I_m_mdt17_t21.flat X_t22
            have f_m_mdt17_t22 := f_m_mdt17_t21.ex I_m_mdt17_t21 (X_t22 0)
            refine Kp_push C_t22 (by omega) (fun t23 C_t23 X_t23 a_t23 b_t23 d_t23 w_t23 u_t23 v_t23 j_t23 l_t23 => ?_)
            have e_t23 := C_t23.2.2.2.1
            rw [a_t22] at a_t23
            rw [b_t22] at b_t23
            rw [d_t22] at d_t23
            rw [w_t22] at w_t23
            rw [u_t22] at u_t23
            rw [v_t22] at v_t23
            clear d_t22 w_t22 u_t22 v_t22 e_t22 a_t22 b_t22
            have I_n_t23 := I_n_t22.flat X_t23
            have f_n_t23 := f_n_t22.ex I_n_t22 (X_t23 0)
            have I_m_mdt17_t23 := I_m_mdt17_t22.flat X_t23
            have f_m_mdt17_t23 := f_m_mdt17_t22.ex I_m_mdt17_t22 (X_t23 0)
            refine Ok_ret (show Ok _ _ _ from ?_)
            refine Ok_ret (show Ok _ _ _ from ?_)
            refine Hv_mk (Kv_c (x := (18, m_md t17, 0)) rfl (Kv_c (x := (8, 79, 0)) rfl (Kv_c (x := (4, n, t)) rfl hK))) (C_t23.1.2.2.2.2.2.2 hTt) C_t23 hT (by omega) (by omega) (by omega) ?_ ?_ ?_ (by omega) ?_ ?_ ?_
            · exact ⟨(Io_n (by decide) (by decide) I_m_mdt17_t23.1 I_m_mdt17_t23.2.1 I_m_mdt17_t23.2.2.1 (fun q => absurd q (by decide)) (fun q => absurd q (by decide)) I_m_mdt17_t23.2.2.2), (Nd_0 (by decide) Mo_nil), ⟨(Io_78 (by decide) (by decide) (by decide)), (Nd_x (by decide)), ⟨(Io_n (by decide) (show t < 4096 from by omega) I_n_t23.1 I_n_t23.2.1 I_n_t23.2.2.1 (fun q => absurd q (by decide)) (fun q => absurd q (by decide)) I_n_t23.2.2.2), (Nd_A (by decide) (Mo_cons (fun q => absurd (show nk 8 = true from q) (by decide)) (Mo_cons (fun q => show n ≤ m_md t17 from by omega) Mo_nil)) (Or.inl f_n_t23)), Stk_step (N := n) (pop := (4, n, t)) (new := [(4, n, t), (8, 79, 0), (18, m_md t17, 0)]) F0 C_t23.1.to2 (fun (h : nk 4 = false) => absurd h (by decide)) (fun q _ h => h (4, n, t) rfl) (fun _ => rfl) (fun y hy hk => ⟨rfl, (Mo_cons (fun q => show n ≤ n from by omega) (Mo_cons (fun q => absurd (show nk 8 = true from q) (by decide)) (Mo_cons (fun q => show n ≤ m_md t17 from by omega) Mo_nil))) y hy hk⟩) (fun (h : 4 = 3 ∨ 4 = 18 ∨ 4 = 41) => absurd h (by decide)) (fun (h : 4 = 18) => absurd h (by decide)) (fun (h : 4 = 41 ∨ 4 = 42 ∨ 4 = 43) => absurd h (by decide)) r [] (fun y hy => absurd hy List.not_mem_nil) hS⟩⟩⟩
            · exact (Aj_up (x := (18, m_md t17, 0)) (Aj_up (x := (8, 79, 0)) (Aj_sub (y := (4, n, t)) hJ (Nat.le_of_ble_eq_true rfl)) (Or.inr (Nat.le_of_ble_eq_true rfl))) (Or.inl (Nat.le_of_ble_eq_true rfl)))
            · show m_dp t23 = (dlt 18 + (dlt 8 + (dlt 4 + sD r)))
              have : dlt 18 = 0 := rfl; have : dlt 4 = 0 := rfl; have : dlt 8 = 1 := rfl; omega
            · show m_rw t23 = (rho 18 + (rho 8 + (rho 4 + sR r)))
              have : rho 18 = 0 := rfl; have : rho 4 = 0 := rfl; have : rho 8 = 0 := rfl; omega
            · show m_md t23 + (mu7 18 + (mu7 8 + (mu7 4 + sM r))) ≤ 3 * m_at t23 + 7 * (r.length + 1 + 1 + 1) + 10
              have : mu7 18 = 5 := rfl; have : mu7 4 = 7 := rfl; have : mu7 8 = 4 := rfl; omega
            · show (wt 18 + (wt 8 + (wt 4 + sW r))) + 6 * (4096 - m_at t23) + 4 * (600 - (r.length + 1 + 1 + 1)) < (wt 4 + sW r) + 6 * (4096 - m_at t0) + 4 * (600 - (r.length + 1))
              have : wt 18 = 0 := rfl; have : wt 4 = 5 := rfl; have : wt 8 = 0 := rfl; omega
          · refine Kp_wrap C_t17 I_n_t17.1 I_n_t17.2.1 f_n_t17 I_n_t17.2.2.1 (by omega) (by omega) (by decide) (fun t24 C_t24 X_t24 a_t24 b_t24 d_t24 w_t24 u_t24 v_t24 j_t24 l_t24 => ?_)
            have e_t24 := C_t24.2.2.2.1
            rw [a_t17] at a_t24
            rw [b_t17] at b_t24
            rw [d_t17] at d_t24
            rw [w_t17] at w_t24
            rw [u_t17] at u_t24
            rw [v_t17] at v_t24
            clear d_t17 w_t17 u_t17 v_t17 e_t17 a_t17
            have I_n_t24 := I_n_t17.le X_t24 (by omega)
            have f_n_t24 := f_n_t17.ex I_n_t17 (X_t24 0 (Nat.zero_le _))
            have I_m_mdt17_t24 : Nq t24 (m_md t17) := Nq.wrn j_t24 (by omega) I_n_t17 (by decide)
            have f_m_mdt17_t24 : Fz t24 (m_md t17) := by unfold Fz; rw [j_t24.2.1]; exact j_t24.2.2.1
            have z_t25 : m_at t24 < m_ct t24 := lo_ne (Nat.ne_of_gt (show 0 < lo t24 (m_at t24) from by omega))
            refine Kp_at C_t24 (fun t25 C_t25 X_t25 a_t25 b_t25 d_t25 w_t25 u_t25 v_t25 j_t25 l_t25 => ?_)
            have e_t25 := C_t25.2.2.2.1
            rw [a_t24] at a_t25
            rw [b_t24] at b_t25
            rw [d_t24] at d_t25
            rw [w_t24] at w_t25
            rw [u_t24] at u_t25
            rw [v_t24] at v_t25
            rw [a_t24, e_t24] at z_t25
            clear z_t17
            clear d_t24 w_t24 u_t24 v_t24 e_t24 a_t24 b_t24
            have I_n_t25 := I_n_t24.flat X_t25
            have f_n_t25 := f_n_t24.ex I_n_t24 (X_t25 0)
            have I_m_mdt17_t25 := I_m_mdt17_t24.flat X_t25
            have f_m_mdt17_t25 := f_m_mdt17_t24.ex I_m_mdt17_t24 (X_t25 0)
            refine Kp_push C_t25 (by omega) (fun t26 C_t26 X_t26 a_t26 b_t26 d_t26 w_t26 u_t26 v_t26 j_t26 l_t26 => ?_)
            have e_t26 := C_t26.2.2.2.1
            rw [a_t25] at a_t26
            rw [b_t25] at b_t26
            rw [d_t25] at d_t26
            rw [w_t25] at w_t26
            rw [u_t25] at u_t26
            rw [v_t25] at v_t26
            clear d_t25 w_t25 u_t25 v_t25 e_t25 a_t25 b_t25
            have I_n_t26 := I_n_t25.flat X_t26
            have f_n_t26 := f_n_t25.ex I_n_t25 (X_t26 0)
            have I_m_mdt17_t26 := I_m_mdt17_t25.flat X_t26
            have f_m_mdt17_t26 := f_m_mdt17_t25.ex I_m_mdt17_t25 (X_t26 0)
            refine Kp_push C_t26 (by omega) (fun t27 C_t27 X_t27 a_t27 b_t27 d_t27 w_t27 u_t27 v_t27 j_t27 l_t27 => ?_)
            have e_t27 := C_t27.2.2.2.1
            rw [a_t26] at a_t27
            rw [b_t26] at b_t27
            rw [d_t26] at d_t27
            rw [w_t26] at w_t27
            rw [u_t26] at u_t27
            rw [v_t26] at v_t27
            clear d_t26 w_t26 u_t26 v_t26 e_t26 a_t26 b_t26
            have I_n_t27 := I_n_t26.flat X_t27
            have f_n_t27 := f_n_t26.ex I_n_t26 (X_t27 0)
            have I_m_mdt17_t27 := I_m_mdt17_t26.flat X_t27
            have f_m_mdt17_t27 := f_m_mdt17_t26.ex I_m_mdt17_t26 (X_t27 0)
            refine Ok_ret (show Ok _ _ _ from ?_)
            refine Ok_ret (show Ok _ _ _ from ?_)
            refine Hv_mk (Kv_c (x := (8, 79, 0)) rfl (Kv_c (x := (56, n, 0)) rfl hK)) (C_t27.1.2.2.2.2.2.2 hTt) C_t27 hT (by omega) (by omega) (by omega) ?_ ?_ ?_ (by omega) ?_ ?_ ?_
            · exact ⟨(Io_78 (by decide) (by decide) (by decide)), (Nd_x (by decide)), ⟨(Io_n (by decide) (by decide) I_n_t27.1 I_n_t27.2.1 I_n_t27.2.2.1 (fun q => absurd q (by decide)) (fun q => absurd q (by decide)) I_n_t27.2.2.2), (Nd_56 (Mo_cons (fun q => absurd (show nk 8 = true from q) (by decide)) Mo_nil) (fun q => absurd rfl q)), Stk_step (N := n) (pop := (4, n, t)) (new := [(56, n, 0), (8, 79, 0)]) F0 C_t27.1.to2 (fun (h : nk 4 = false) => absurd h (by decide)) (fun q _ h => h (4, n, t) rfl) (fun _ => rfl) (fun y hy hk => ⟨rfl, (Mo_cons (fun q => show n ≤ n from by omega) (Mo_cons (fun q => absurd (show nk 8 = true from q) (by decide)) Mo_nil)) y hy hk⟩) (fun (h : 4 = 3 ∨ 4 = 18 ∨ 4 = 41) => absurd h (by decide)) (fun (h : 4 = 18) => absurd h (by decide)) (fun (h : 4 = 41 ∨ 4 = 42 ∨ 4 = 43) => absurd h (by decide)) r [] (fun y hy => absurd hy List.not_mem_nil) hS⟩⟩
            · exact (Aj_up (x := (8, 79, 0)) (Aj_sub (y := (56, n, 0)) hJ (Nat.le_of_ble_eq_true rfl)) (Or.inr (Nat.le_of_ble_eq_true rfl)))
            · show m_dp t27 = (dlt 8 + (dlt 56 + sD r))
              have : dlt 4 = 0 := rfl; have : dlt 56 = 0 := rfl; have : dlt 8 = 1 := rfl; omega
            · show m_rw t27 = (rho 8 + (rho 56 + sR r))
              have : rho 4 = 0 := rfl; have : rho 56 = 0 := rfl; have : rho 8 = 0 := rfl; omega
            · show m_md t27 + (mu7 8 + (mu7 56 + sM r)) ≤ 3 * m_at t27 + 7 * (r.length + 1 + 1) + 10
              have : mu7 4 = 7 := rfl; have : mu7 56 = 7 := rfl; have : mu7 8 = 4 := rfl; omega
            · show (wt 8 + (wt 56 + sW r)) + 6 * (4096 - m_at t27) + 4 * (600 - (r.length + 1 + 1)) < (wt 4 + sW r) + 6 * (4096 - m_at t0) + 4 * (600 - (r.length + 1))
              have : wt 4 = 5 := rfl; have : wt 56 = 5 := rfl; have : wt 8 = 0 := rfl; omega
        · refine Kp_wrap C_t17 I_n_t17.1 I_n_t17.2.1 f_n_t17 I_n_t17.2.2.1 (by omega) (by omega) (by decide) (fun t28 C_t28 X_t28 a_t28 b_t28 d_t28 w_t28 u_t28 v_t28 j_t28 l_t28 => ?_)
          have e_t28 := C_t28.2.2.2.1
          rw [a_t17] at a_t28
          rw [b_t17] at b_t28
          rw [d_t17] at d_t28
          rw [w_t17] at w_t28
          rw [u_t17] at u_t28
          rw [v_t17] at v_t28
          clear d_t17 w_t17 u_t17 v_t17 e_t17 a_t17
          have I_n_t28 := I_n_t17.le X_t28 (by omega)
          have f_n_t28 := f_n_t17.ex I_n_t17 (X_t28 0 (Nat.zero_le _))
          have I_m_mdt17_t28 : Nq t28 (m_md t17) := Nq.wrn j_t28 (by omega) I_n_t17 (by decide)
          have f_m_mdt17_t28 : Fz t28 (m_md t17) := by unfold Fz; rw [j_t28.2.1]; exact j_t28.2.2.1
          refine Kp_push C_t28 (by omega) (fun t29 C_t29 X_t29 a_t29 b_t29 d_t29 w_t29 u_t29 v_t29 j_t29 l_t29 => ?_)
          have e_t29 := C_t29.2.2.2.1
          rw [a_t28] at a_t29
          rw [b_t28] at b_t29
          rw [d_t28] at d_t29
          rw [w_t28] at w_t29
          rw [u_t28] at u_t29
          rw [v_t28] at v_t29
          clear d_t28 w_t28 u_t28 v_t28 e_t28 a_t28 b_t28
          have I_n_t29 := I_n_t28.flat X_t29
          have f_n_t29 := f_n_t28.ex I_n_t28 (X_t29 0)
          have I_m_mdt17_t29 := I_m_mdt17_t28.flat X_t29
          have f_m_mdt17_t29 := f_m_mdt17_t28.ex I_m_mdt17_t28 (X_t29 0)
          refine Kp_push C_t29 (by omega) (fun t30 C_t30 X_t30 a_t30 b_t30 d_t30 w_t30 u_t30 v_t30 j_t30 l_t30 => ?_)
          have e_t30 := C_t30.2.2.2.1
          rw [a_t29] at a_t30
          rw [b_t29] at b_t30
          rw [d_t29] at d_t30
          rw [w_t29] at w_t30
          rw [u_t29] at u_t30
          rw [v_t29] at v_t30
          clear d_t29 w_t29 u_t29 v_t29 e_t29 a_t29 b_t29
          have I_n_t30 := I_n_t29.flat X_t30
          have f_n_t30 := f_n_t29.ex I_n_t29 (X_t30 0)
          have I_m_mdt17_t30 := I_m_mdt17_t29.flat X_t30
          have f_m_mdt17_t30 := f_m_mdt17_t29.ex I_m_mdt17_t29 (X_t30 0)
          refine Kp_push C_t30 (by omega) (fun t31 C_t31 X_t31 a_t31 b_t31 d_t31 w_t31 u_t31 v_t31 j_t31 l_t31 => ?_)
          have e_t31 := C_t31.2.2.2.1
          rw [a_t30] at a_t31
          rw [b_t30] at b_t31
          rw [d_t30] at d_t31
          rw [w_t30] at w_t31
          rw [u_t30] at u_t31
          rw [v_t30] at v_t31
          clear d_t30 w_t30 u_t30 v_t30 e_t30 a_t30 b_t30
          have I_n_t31 := I_n_t30.flat X_t31
          have f_n_t31 := f_n_t30.ex I_n_t30 (X_t31 0)
          have I_m_mdt17_t31 := I_m_mdt17_t30.flat X_t31
          have f_m_mdt17_t31 := f_m_mdt17_t30.ex I_m_mdt17_t30 (X_t31 0)
          refine Ok_ret (show Ok _ _ _ from ?_)
          refine Ok_ret (show Ok _ _ _ from ?_)
          refine Hv_mk (Kv_c (x := (18, m_md t17, 0)) rfl (Kv_c (x := (8, 79, 0)) rfl (Kv_c (x := (4, n, t)) rfl hK))) (C_t31.1.2.2.2.2.2.2 hTt) C_t31 hT (by omega) (by omega) (by omega) ?_ ?_ ?_ (by omega) ?_ ?_ ?_
          · exact ⟨(Io_n (by decide) (by decide) I_m_mdt17_t31.1 I_m_mdt17_t31.2.1 I_m_mdt17_t31.2.2.1 (fun q => absurd q (by decide)) (fun q => absurd q (by decide)) I_m_mdt17_t31.2.2.2), (Nd_0 (by decide) Mo_nil), ⟨(Io_78 (by decide) (by decide) (by decide)), (Nd_x (by decide)), ⟨(Io_n (by decide) (show t < 4096 from by omega) I_n_t31.1 I_n_t31.2.1 I_n_t31.2.2.1 (fun q => absurd q (by decide)) (fun q => absurd q (by decide)) I_n_t31.2.2.2), (Nd_A (by decide) (Mo_cons (fun q => absurd (show nk 8 = true from q) (by decide)) (Mo_cons (fun q => show n ≤ m_md t17 from by omega) Mo_nil)) (Or.inl f_n_t31)), Stk_step (N := n) (pop := (4, n, t)) (new := [(4, n, t), (8, 79, 0), (18, m_md t17, 0)]) F0 C_t31.1.to2 (fun (h : nk 4 = false) => absurd h (by decide)) (fun q _ h => h (4, n, t) rfl) (fun _ => rfl) (fun y hy hk => ⟨rfl, (Mo_cons (fun q => show n ≤ n from by omega) (Mo_cons (fun q => absurd (show nk 8 = true from q) (by decide)) (Mo_cons (fun q => show n ≤ m_md t17 from by omega) Mo_nil))) y hy hk⟩) (fun (h : 4 = 3 ∨ 4 = 18 ∨ 4 = 41) => absurd h (by decide)) (fun (h : 4 = 18) => absurd h (by decide)) (fun (h : 4 = 41 ∨ 4 = 42 ∨ 4 = 43) => absurd h (by decide)) r [] (fun y hy => absurd hy List.not_mem_nil) hS⟩⟩⟩
          · exact (Aj_up (x := (18, m_md t17, 0)) (Aj_up (x := (8, 79, 0)) (Aj_sub (y := (4, n, t)) hJ (Nat.le_of_ble_eq_true rfl)) (Or.inr (Nat.le_of_ble_eq_true rfl))) (Or.inl (Nat.le_of_ble_eq_true rfl)))
          · show m_dp t31 = (dlt 18 + (dlt 8 + (dlt 4 + sD r)))
            have : dlt 18 = 0 := rfl; have : dlt 4 = 0 := rfl; have : dlt 8 = 1 := rfl; omega
          · show m_rw t31 = (rho 18 + (rho 8 + (rho 4 + sR r)))
            have : rho 18 = 0 := rfl; have : rho 4 = 0 := rfl; have : rho 8 = 0 := rfl; omega
          · show m_md t31 + (mu7 18 + (mu7 8 + (mu7 4 + sM r))) ≤ 3 * m_at t31 + 7 * (r.length + 1 + 1 + 1) + 10
            have : mu7 18 = 5 := rfl; have : mu7 4 = 7 := rfl; have : mu7 8 = 4 := rfl; omega
          · show (wt 18 + (wt 8 + (wt 4 + sW r))) + 6 * (4096 - m_at t31) + 4 * (600 - (r.length + 1 + 1 + 1)) < (wt 4 + sW r) + 6 * (4096 - m_at t0) + 4 * (600 - (r.length + 1))
            have : wt 18 = 0 := rfl; have : wt 4 = 5 := rfl; have : wt 8 = 0 := rfl; omega
      · have w_t16 := Nat.pos_of_ne_zero w_t16
        have I_n_t16 := I_n_t3.flat X_t16
        have f_n_t16 := f_n_t3.ex I_n_t3 (X_t16 0)
        refine Kp_at C_t16 (fun t32 C_t32 X_t32 a_t32 b_t32 d_t32 w_t32 u_t32 v_t32 j_t32 l_t32 => ?_)
        have e_t32 := C_t32.2.2.2.1
        have I_n_t32 := I_n_t16.flat X_t32
        have f_n_t32 := f_n_t16.ex I_n_t16 (X_t32 0)
        refine Kp_look C_t32 hT (by omega) ?_
        refine Ok_ife (Nat.lt_trans (lo_lt (C_t32.tk hT) _) (by decide)) (by decide) (fun q33 => ?_) (fun q33 => ?_)
        · refine Ok_ck (show t < 2147483648 from by omega) ?_
          refine Ok_ifz (f6_has _ _) (fun q34 => ?_) (fun q34 => ?_)
          · refine Kp_wrap C_t32 I_n_t32.1 I_n_t32.2.1 f_n_t32 I_n_t32.2.2.1 (by omega) (by omega) (by decide) (fun t35 C_t35 X_t35 a_t35 b_t35 d_t35 w_t35 u_t35 v_t35 j_t35 l_t35 => ?_)
            have e_t35 := C_t35.2.2.2.1
            have I_n_t35 := I_n_t32.le X_t35 (by omega)
            have f_n_t35 := f_n_t32.ex I_n_t32 (X_t35 0 (Nat.zero_le _))
            have I_m_mdt32_t35 : Nq t35 (m_md t32) := Nq.wrn j_t35 (by omega) I_n_t32 (by decide)
            have f_m_mdt32_t35 : Fz t35 (m_md t32) := by unfold Fz; rw [j_t35.2.1]; exact j_t35.2.2.1
            refine Kp_push C_t35 (by omega) (fun t36 C_t36 X_t36 a_t36 b_t36 d_t36 w_t36 u_t36 v_t36 j_t36 l_t36 => ?_)
            have e_t36 := C_t36.2.2.2.1
            have I_n_t36 := I_n_t35.flat X_t36
            have f_n_t36 := f_n_t35.ex I_n_t35 (X_t36 0)
            have I_m_mdt32_t36 := I_m_mdt32_t35.flat X_t36
            have f_m_mdt32_t36 := f_m_mdt32_t35.ex I_m_mdt32_t35 (X_t36 0)
            refine Kp_push C_t36 (by omega) (fun t37 C_t37 X_t37 a_t37 b_t37 d_t37 w_t37 u_t37 v_t37 j_t37 l_t37 => ?_)
            have e_t37 := C_t37.2.2.2.1
            have I_n_t37 := I_n_t36.flat X_t37
            have f_n_t37 := f_n_t36.ex I_n_t36 (X_t37 0)
            have I_m_mdt32_t37 := I_m_mdt32_t36.flat X_t37
            have f_m_mdt32_t37 := f_m_mdt32_t36.ex I_m_mdt32_t36 (X_t37 0)
            refine Kp_push C_t37 (by omega) (fun t38 C_t38 X_t38 a_t38 b_t38 d_t38 w_t38 u_t38 v_t38 j_t38 l_t38 => ?_)
            have e_t38 := C_t38.2.2.2.1
            have I_n_t38 := I_n_t37.flat X_t38
            have f_n_t38 := f_n_t37.ex I_n_t37 (X_t38 0)
            have I_m_mdt32_t38 := I_m_mdt32_t37.flat X_t38
            have f_m_mdt32_t38 := f_m_mdt32_t37.ex I_m_mdt32_t37 (X_t38 0)
            refine Ok_ret (show Ok _ _ _ from ?_)
            refine Ok_ret (show Ok _ _ _ from ?_)
            exact Or.inl ⟨Nat.ne_of_gt (show 0 < m_wr t38 from by omega), by omega, by omega, C_t38.2.2.2.2.2, by omega⟩
          · refine Kp_wrap C_t32 I_n_t32.1 I_n_t32.2.1 f_n_t32 I_n_t32.2.2.1 (by omega) (by omega) (by decide) (fun t39 C_t39 X_t39 a_t39 b_t39 d_t39 w_t39 u_t39 v_t39 j_t39 l_t39 => ?_)
            have e_t39 := C_t39.2.2.2.1
            have I_n_t39 := I_n_t32.le X_t39 (by omega)
            have f_n_t39 := f_n_t32.ex I_n_t32 (X_t39 0 (Nat.zero_le _))
            have I_m_mdt32_t39 : Nq t39 (m_md t32) := Nq.wrn j_t39 (by omega) I_n_t32 (by decide)
            have f_m_mdt32_t39 : Fz t39 (m_md t32) := by unfold Fz; rw [j_t39.2.1]; exact j_t39.2.2.1
            refine Kp_at C_t39 (fun t40 C_t40 X_t40 a_t40 b_t40 d_t40 w_t40 u_t40 v_t40 j_t40 l_t40 => ?_)
            have e_t40 := C_t40.2.2.2.1
            have I_n_t40 := I_n_t39.flat X_t40
            have f_n_t40 := f_n_t39.ex I_n_t39 (X_t40 0)
            have I_m_mdt32_t40 := I_m_mdt32_t39.flat X_t40
            have f_m_mdt32_t40 := f_m_mdt32_t39.ex I_m_mdt32_t39 (X_t40 0)
            refine Kp_push C_t40 (by omega) (fun t41 C_t41 X_t41 a_t41 b_t41 d_t41 w_t41 u_t41 v_t41 j_t41 l_t41 => ?_)
            have e_t41 := C_t41.2.2.2.1
            have I_n_t41 := I_n_t40.flat X_t41
            have f_n_t41 := f_n_t40.ex I_n_t40 (X_t41 0)
            have I_m_mdt32_t41 := I_m_mdt32_t40.flat X_t41
            have f_m_mdt32_t41 := f_m_mdt32_t40.ex I_m_mdt32_t40 (X_t41 0)
            refine Kp_push C_t41 (by omega) (fun t42 C_t42 X_t42 a_t42 b_t42 d_t42 w_t42 u_t42 v_t42 j_t42 l_t42 => ?_)
            have e_t42 := C_t42.2.2.2.1
            have I_n_t42 := I_n_t41.flat X_t42
            have f_n_t42 := f_n_t41.ex I_n_t41 (X_t42 0)
            have I_m_mdt32_t42 := I_m_mdt32_t41.flat X_t42
            have f_m_mdt32_t42 := f_m_mdt32_t41.ex I_m_mdt32_t41 (X_t42 0)
            refine Ok_ret (show Ok _ _ _ from ?_)
            refine Ok_ret (show Ok _ _ _ from ?_)
            exact Or.inl ⟨Nat.ne_of_gt (show 0 < m_wr t42 from by omega), by omega, by omega, C_t42.2.2.2.2.2, by omega⟩
        · refine Kp_wrap C_t32 I_n_t32.1 I_n_t32.2.1 f_n_t32 I_n_t32.2.2.1 (by omega) (by omega) (by decide) (fun t43 C_t43 X_t43 a_t43 b_t43 d_t43 w_t43 u_t43 v_t43 j_t43 l_t43 => ?_)
          have e_t43 := C_t43.2.2.2.1
          have I_n_t43 := I_n_t32.le X_t43 (by omega)
          have f_n_t43 := f_n_t32.ex I_n_t32 (X_t43 0 (Nat.zero_le _))
          have I_m_mdt32_t43 : Nq t43 (m_md t32) := Nq.wrn j_t43 (by omega) I_n_t32 (by decide)
          have f_m_mdt32_t43 : Fz t43 (m_md t32) := by unfold Fz; rw [j_t43.2.1]; exact j_t43.2.2.1
          refine Kp_push C_t43 (by omega) (fun t44 C_t44 X_t44 a_t44 b_t44 d_t44 w_t44 u_t44 v_t44 j_t44 l_t44 => ?_)
          have e_t44 := C_t44.2.2.2.1
          have I_n_t44 := I_n_t43.flat X_t44
          have f_n_t44 := f_n_t43.ex I_n_t43 (X_t44 0)
          have I_m_mdt32_t44 := I_m_mdt32_t43.flat X_t44
          have f_m_mdt32_t44 := f_m_mdt32_t43.ex I_m_mdt32_t43 (X_t44 0)
          refine Kp_push C_t44 (by omega) (fun t45 C_t45 X_t45 a_t45 b_t45 d_t45 w_t45 u_t45 v_t45 j_t45 l_t45 => ?_)
          have e_t45 := C_t45.2.2.2.1
          have I_n_t45 := I_n_t44.flat X_t45
          have f_n_t45 := f_n_t44.ex I_n_t44 (X_t45 0)
          have I_m_mdt32_t45 := I_m_mdt32_t44.flat X_t45
          have f_m_mdt32_t45 := f_m_mdt32_t44.ex I_m_mdt32_t44 (X_t45 0)
          refine Kp_push C_t45 (by omega) (fun t46 C_t46 X_t46 a_t46 b_t46 d_t46 w_t46 u_t46 v_t46 j_t46 l_t46 => ?_)
          have e_t46 := C_t46.2.2.2.1
          have I_n_t46 := I_n_t45.flat X_t46
          have f_n_t46 := f_n_t45.ex I_n_t45 (X_t46 0)
          have I_m_mdt32_t46 := I_m_mdt32_t45.flat X_t46
          have f_m_mdt32_t46 := f_m_mdt32_t45.ex I_m_mdt32_t45 (X_t46 0)
          refine Ok_ret (show Ok _ _ _ from ?_)
          refine Ok_ret (show Ok _ _ _ from ?_)
          exact Or.inl ⟨Nat.ne_of_gt (show 0 < m_wr t46 from by omega), by omega, by omega, C_t46.2.2.2.2.2, by omega⟩
    · refine Kp_error C_t3 (by omega) (fun t47 C_t47 X_t47 a_t47 b_t47 d_t47 w_t47 u_t47 v_t47 j_t47 l_t47 => ?_)
      have wb_t47 := w_t47.2
      have w_t47 := Nat.pos_of_ne_zero w_t47.1
      have e_t47 := C_t47.2.2.2.1
      have I_n_t47 := I_n_t3.flat X_t47
      have f_n_t47 := f_n_t3.ex I_n_t3 (X_t47 0)
      refine Ok_ret (show Ok _ _ _ from ?_)
      refine Ok_ret (show Ok _ _ _ from ?_)
      exact Or.inl ⟨Nat.ne_of_gt (show 0 < m_wr t47 from by omega), by omega, by omega, C_t47.2.2.2.2.2, by omega⟩

theorem S_4_t80 {t0 : Mm} {n t : Nat} {r : List It} (H : Hp t0 (4, n, t) r) {E : Mm → Prop} (hk0 : lo t0 (m_at t0) = 80) : Ok (Qh (mz t0 ((4, n, t) :: r))) E (b_X6_step 4 n t t0) := by
  obtain ⟨hK, hT, hc, hw0, ha, hC, hS, hJ, hdp, hdl, hrw, hmd, htd, hln, hm16, hI, hD, hTt⟩ := Hp_out H
  have C_t0 := hC n
  have F0 := C_t0.2.1
  have I_n_t0 : Nq t0 n := ⟨(hI.2.1 rfl).1, (hI.2.1 rfl).2.1, (hI.2.1 rfl).2.2, hI.2.2.2 rfl⟩
  have m_n_t0 := I_n_t0.1
  have ht : t < 4096 := hI.1.1 (show 4 ≠ 42 by decide) (show 4 ≠ 48 by decide)
  have hdp : m_dp t0 = dlt 4 + sD r := hdp
  have hrw : m_rw t0 = rho 4 + sR r := hrw
  have hmd : m_md t0 + mu7 4 + sM r ≤ 3 * m_at t0 + 7 * r.length + 17 := hmd
  have hand : t &&& 1 ≤ 1 := Nat.and_le_right
  have h01 : (0 &&& 1 : Nat) = 0 := rfl
  have h02 : (1 : Nat) * 256 = 256 := rfl
  have hq1 : dlt 4 = 0 := rfl
  have hq2 : rho 4 = 0 := rfl
  have hq3 : mu7 4 = 7 := rfl
  have f_n_t0 : Fz t0 n := (hD.2.1 (show 4 = 2 ∨ 4 = 4 ∨ 4 = 42 ∨ 4 = 50 by decide)).resolve_right (fun ⟨y, hy, _⟩ => absurd hy List.not_mem_nil)
  unfold b_X6_step
  refine Ok_ifl (by decide) (by decide) (fun q => absurd q (by decide)) (fun _ => ?_)
  refine Ok_ife (by decide) (by decide) (fun q => absurd q (by decide)) (fun _ => ?_)
  refine Ok_ife (by decide) (by decide) (fun q => absurd q (by decide)) (fun _ => ?_)
  refine Ok_bnc ?_
  try unfold b_X6_postfix
  refine Kp_look C_t0 hT (by omega) ?_
  refine Ok_ife (Nat.lt_trans (lo_lt (C_t0.tk hT) _) (by decide)) (by decide) (fun q => absurd (hk0.symm.trans q) (by decide)) (fun _ => ?_)
  refine Ok_ife (Nat.lt_trans (lo_lt (C_t0.tk hT) _) (by decide)) (by decide) (fun q => ?_) (fun q => absurd hk0 q)
  refine Kp_wrap C_t0 I_n_t0.1 I_n_t0.2.1 f_n_t0 I_n_t0.2.2.1 (by omega) (by omega) (by decide) (fun t2 C_t2 X_t2 a_t2 b_t2 d_t2 w_t2 u_t2 v_t2 j_t2 l_t2 => ?_)
  have e_t2 := C_t2.2.2.2.1
  have I_n_t2 := I_n_t0.le X_t2 (by omega)
  have f_n_t2 := f_n_t0.ex I_n_t0 (X_t2 0 (Nat.zero_le _))
  have I_m_mdt0_t2 : Nq t2 (m_md t0) := Nq.wrn j_t2 (by omega) I_n_t0 (by decide)
  have f_m_mdt0_t2 : Fz t2 (m_md t0) := by unfold Fz; rw [j_t2.2.1]; exact j_t2.2.2.1
  refine Kp_more C_t2 (by omega) (by omega) (fun t3 C_t3 X_t3 a_t3 b_t3 d_t3 w_t3 u_t3 v_t3 j_t3 l_t3 => ?_)
  have e_t3 := C_t3.2.2.2.1
  rcases w_t3 with ⟨w_t3, y_t3⟩ | ⟨w_t3, wb_t3⟩
  · rw [a_t2] at a_t3
    rw [b_t2] at b_t3
    rw [d_t2] at d_t3
    rw [w_t2] at w_t3
    rw [u_t2] at u_t3
    rw [v_t2] at v_t3
    rw [d_t3] at y_t3
    clear d_t2 w_t2 u_t2 v_t2 e_t2 a_t2 b_t2
    have I_n_t3 := I_n_t2.flat X_t3
    have f_n_t3 := f_n_t2.ex I_n_t2 (X_t3 0)
    have I_m_mdt0_t3 := I_m_mdt0_t2.flat X_t3
    have f_m_mdt0_t3 := f_m_mdt0_t2.ex I_m_mdt0_t2 (X_t3 0)
    have z_t4 : m_at t3 < m_ct t3 := lo_ne (Nat.ne_of_gt (show 0 < lo t3 (m_at t3) from by omega))
    refine Kp_at C_t3 (fun t4 C_t4 X_t4 a_t4 b_t4 d_t4 w_t4 u_t4 v_t4 j_t4 l_t4 => ?_)
    have e_t4 := C_t4.2.2.2.1
    rw [a_t3] at a_t4
    rw [b_t3] at b_t4
    rw [d_t3] at d_t4
    rw [w_t3] at w_t4
    rw [u_t3] at u_t4
    rw [v_t3] at v_t4
    rw [a_t3, e_t3] at z_t4
    clear d_t3 w_t3 u_t3 v_t3 e_t3 a_t3 b_t3
    have I_n_t4 := I_n_t3.flat X_t4
    have f_n_t4 := f_n_t3.ex I_n_t3 (X_t4 0)
    have I_m_mdt0_t4 := I_m_mdt0_t3.flat X_t4
    have f_m_mdt0_t4 := f_m_mdt0_t3.ex I_m_mdt0_t3 (X_t4 0)
    refine Kp_push C_t4 (by omega) (fun t5 C_t5 X_t5 a_t5 b_t5 d_t5 w_t5 u_t5 v_t5 j_t5 l_t5 => ?_)
    have e_t5 := C_t5.2.2.2.1
    rw [a_t4] at a_t5
    rw [b_t4] at b_t5
    rw [d_t4] at d_t5
    rw [w_t4] at w_t5
    rw [u_t4] at u_t5
    rw [v_t4] at v_t5
    clear d_t4 w_t4 u_t4 v_t4 e_t4 a_t4 b_t4
    have I_n_t5 := I_n_t4.flat X_t5
    have f_n_t5 := f_n_t4.ex I_n_t4 (X_t5 0)
    have I_m_mdt0_t5 := I_m_mdt0_t4.flat X_t5
    have f_m_mdt0_t5 := f_m_mdt0_t4.ex I_m_mdt0_t4 (X_t5 0)
    refine Kp_look C_t5 hT (by omega) ?_
    refine Ok_ife (Nat.lt_trans (lo_lt (C_t5.tk hT) _) (by decide)) (by decide) (fun q6 => ?_) (fun q6 => ?_)
    · refine Ok_bnc ?_
      try unfold b_X6_slice
      refine Ok_ck (show (m_md t0) < 65536 from by omega) ?_
      refine Kp_wh C_t5 (by decide) (by decide) (by decide) (by decide) (fun t8 C_t8 X_t8 a_t8 b_t8 d_t8 w_t8 u_t8 v_t8 j_t8 l_t8 => ?_)
      have e_t8 := C_t8.2.2.2.1
      rw [a_t5] at a_t8
      rw [b_t5] at b_t8
      rw [d_t5] at d_t8
      rw [w_t5] at w_t8
      rw [u_t5] at u_t8
      rw [v_t5] at v_t8
      clear d_t5 w_t5 u_t5 v_t5 e_t5 a_t5 b_t5
      have I_n_t8 := I_n_t5.flat X_t8
      have f_n_t8 := f_n_t5.ex I_n_t5 (X_t8 0)
      have I_m_mdt0_t8 := I_m_mdt0_t5.flat X_t8
      have f_m_mdt0_t8 := f_m_mdt0_t5.ex I_m_mdt0_t5 (X_t8 0)
      refine Kp_child C_t8 I_m_mdt0_t8.1 I_m_mdt0_t8.2.1 I_m_mdt0_t8.2.2.1 (by omega) (by omega) (by decide) (by decide) (fun t9 C_t9 X_t9 a_t9 b_t9 d_t9 w_t9 u_t9 v_t9 j_t9 l_t9 => ?_)
      have e_t9 := C_t9.2.2.2.1
      rw [a_t8] at a_t9
      rw [b_t8] at b_t9
      rw [d_t8] at d_t9
      rw [w_t8] at w_t9
      rw [u_t8] at u_t9
      rw [v_t8] at v_t9
      clear d_t8 w_t8 u_t8 v_t8 e_t8 a_t8
      have I_n_t9 := I_n_t8.chd X_t9 j_t9
      have f_n_t9 := f_n_t8.ex I_n_t8 (X_t9 0 (Nat.zero_le _))
      have I_m_mdt0_t9 := I_m_mdt0_t8.chd X_t9 j_t9
      have f_m_mdt0_t9 := f_m_mdt0_t8.ex I_m_mdt0_t8 (X_t9 0 (Nat.zero_le _))
      have f_m_mdt0_t9 : Fz t9 (m_md t0) := j_t9.2.2.2.2.1
      have I_m_mdt8_t9 : Nq t9 (m_md t8) := Nq.chn j_t9 (by omega) I_m_mdt0_t8 (by decide)
      have u_m_mdt8_t9 : Up t9 (m_md t8) := Or.inl j_t9.2.1
      have z_t10 : m_at t9 < m_ct t9 := lo_ne (Nat.ne_of_gt (show 0 < lo t9 (m_at t9) from by omega))
      refine Kp_at C_t9 (fun t10 C_t10 X_t10 a_t10 b_t10 d_t10 w_t10 u_t10 v_t10 j_t10 l_t10 => ?_)
      have e_t10 := C_t10.2.2.2.1
      rw [a_t9] at a_t10
      rw [b_t9] at b_t10
      rw [d_t9] at d_t10
      rw [w_t9] at w_t10
      rw [u_t9] at u_t10
      rw [v_t9] at v_t10
      rw [a_t9, e_t9] at z_t10
      clear z_t4
      clear d_t9 w_t9 u_t9 v_t9 e_t9 a_t9 b_t9
      have I_n_t10 := I_n_t9.flat X_t10
      have f_n_t10 := f_n_t9.ex I_n_t9 (X_t10 0)
      have I_m_mdt0_t10 := I_m_mdt0_t9.flat X_t10
      have f_m_mdt0_t10 := f_m_mdt0_t9.ex I_m_mdt0_t9 (X_t10 0)
      have I_m_mdt8_t10 := I_m_mdt8_t9.flat X_t10
      have u_m_mdt8_t10 := u_m_mdt8_t9.ex I_m_mdt8_t9 (X_t10 0)
      refine Kp_push C_t10 (by omega) (fun t11 C_t11 X_t11 a_t11 b_t11 d_t11 w_t11 u_t11 v_t11 j_t11 l_t11 => ?_)
      have e_t11 := C_t11.2.2.2.1
      rw [a_t10] at a_t11
      rw [b_t10] at b_t11
      rw [d_t10] at d_t11
      rw [w_t10] at w_t11
      rw [u_t10] at u_t11
      rw [v_t10] at v_t11
      clear d_t10 w_t10 u_t10 v_t10 e_t10 a_t10 b_t10
      have I_n_t11 := I_n_t10.flat X_t11
      have f_n_t11 := f_n_t10.ex I_n_t10 (X_t11 0)
      have I_m_mdt0_t11 := I_m_mdt0_t10.flat X_t11
      have f_m_mdt0_t11 := f_m_mdt0_t10.ex I_m_mdt0_t10 (X_t11 0)
      have I_m_mdt8_t11 := I_m_mdt8_t10.flat X_t11
      have u_m_mdt8_t11 := u_m_mdt8_t10.ex I_m_mdt8_t10 (X_t11 0)
      refine Ok_ret (show Ok _ _ _ from ?_)
      refine Ok_ret (show Ok _ _ _ from ?_)
      refine Hv_mk (Kv_c (x := (12, m_md t0, 0)) rfl (Kv_c (x := (4, n, t)) rfl hK)) (C_t11.1.2.2.2.2.2.2 hTt) C_t11 hT (by omega) (by omega) (by omega) ?_ ?_ ?_ (by omega) ?_ ?_ ?_
      · exact ⟨(Io_n (by decide) (by decide) I_m_mdt0_t11.1 I_m_mdt0_t11.2.1 I_m_mdt0_t11.2.2.1 (fun q => absurd q (by decide)) (fun q => absurd q (by decide)) I_m_mdt0_t11.2.2.2), (Nd_0 (by decide) Mo_nil), ⟨(Io_n (by decide) (show t < 4096 from by omega) I_n_t11.1 I_n_t11.2.1 I_n_t11.2.2.1 (fun q => absurd q (by decide)) (fun q => absurd q (by decide)) I_n_t11.2.2.2), (Nd_A (by decide) (Mo_cons (fun q => show n ≤ m_md t0 from by omega) Mo_nil) (Or.inl f_n_t11)), Stk_step (N := n) (pop := (4, n, t)) (new := [(4, n, t), (12, m_md t0, 0)]) F0 C_t11.1.to2 (fun (h : nk 4 = false) => absurd h (by decide)) (fun q _ h => h (4, n, t) rfl) (fun _ => rfl) (fun y hy hk => ⟨rfl, (Mo_cons (fun q => show n ≤ n from by omega) (Mo_cons (fun q => show n ≤ m_md t0 from by omega) Mo_nil)) y hy hk⟩) (fun (h : 4 = 3 ∨ 4 = 18 ∨ 4 = 41) => absurd h (by decide)) (fun (h : 4 = 18) => absurd h (by decide)) (fun (h : 4 = 41 ∨ 4 = 42 ∨ 4 = 43) => absurd h (by decide)) r [] (fun y hy => absurd hy List.not_mem_nil) hS⟩⟩
      · exact (Aj_up (x := (12, m_md t0, 0)) (Aj_sub (y := (4, n, t)) hJ (Nat.le_of_ble_eq_true rfl)) (Or.inr (Nat.le_of_ble_eq_true rfl)))
      · show m_dp t11 = (dlt 12 + (dlt 4 + sD r))
        have : dlt 12 = 1 := rfl; have : dlt 4 = 0 := rfl; omega
      · show m_rw t11 = (rho 12 + (rho 4 + sR r))
        have : rho 12 = 0 := rfl; have : rho 4 = 0 := rfl; omega
      · show m_md t11 + (mu7 12 + (mu7 4 + sM r)) ≤ 3 * m_at t11 + 7 * (r.length + 1 + 1) + 10
        have : mu7 12 = 5 := rfl; have : mu7 4 = 7 := rfl; omega
      · show (wt 12 + (wt 4 + sW r)) + 6 * (4096 - m_at t11) + 4 * (600 - (r.length + 1 + 1)) < (wt 4 + sW r) + 6 * (4096 - m_at t0) + 4 * (600 - (r.length + 1))
        have : wt 12 = 1 := rfl; have : wt 4 = 5 := rfl; omega
    · refine Kp_push C_t5 (by omega) (fun t12 C_t12 X_t12 a_t12 b_t12 d_t12 w_t12 u_t12 v_t12 j_t12 l_t12 => ?_)
      have e_t12 := C_t12.2.2.2.1
      rw [a_t5] at a_t12
      rw [b_t5] at b_t12
      rw [d_t5] at d_t12
      rw [w_t5] at w_t12
      rw [u_t5] at u_t12
      rw [v_t5] at v_t12
      clear d_t5 w_t5 u_t5 v_t5 e_t5 a_t5 b_t5
      have I_n_t12 := I_n_t5.flat X_t12
      have f_n_t12 := f_n_t5.ex I_n_t5 (X_t12 0)
      have I_m_mdt0_t12 := I_m_mdt0_t5.flat X_t12
      have f_m_mdt0_t12 := f_m_mdt0_t5.ex I_m_mdt0_t5 (X_t12 0)
      refine Ok_bnc ?_
      try unfold b_X6_expression
      refine Kp_push C_t12 (by omega) (fun t14 C_t14 X_t14 a_t14 b_t14 d_t14 w_t14 u_t14 v_t14 j_t14 l_t14 => ?_)
      have e_t14 := C_t14.2.2.2.1
      rw [a_t12] at a_t14
      rw [b_t12] at b_t14
      rw [d_t12] at d_t14
      rw [w_t12] at w_t14
      rw [u_t12] at u_t14
      rw [v_t12] at v_t14
      clear d_t12 w_t12 u_t12 v_t12 e_t12 a_t12 b_t12
      have I_n_t14 := I_n_t12.flat X_t14
      have f_n_t14 := f_n_t12.ex I_n_t12 (X_t14 0)
      have I_m_mdt0_t14 := I_m_mdt0_t12.flat X_t14
      have f_m_mdt0_t14 := f_m_mdt0_t12.ex I_m_mdt0_t12 (X_t14 0)
      refine Kp_push C_t14 (by omega) (fun t15 C_t15 X_t15 a_t15 b_t15 d_t15 w_t15 u_t15 v_t15 j_t15 l_t15 => ?_)
      have e_t15 := C_t15.2.2.2.1
      rw [a_t14] at a_t15
      rw [b_t14] at b_t15
      rw [d_t14] at d_t15
      rw [w_t14] at w_t15
      rw [u_t14] at u_t15
      rw [v_t14] at v_t15
      clear d_t14 w_t14 u_t14 v_t14 e_t14 a_t14 b_t14
      have I_n_t15 := I_n_t14.flat X_t15
      have f_n_t15 := f_n_t14.ex I_n_t14 (X_t15 0)
      have I_m_mdt0_t15 := I_m_mdt0_t14.flat X_t15
      have f_m_mdt0_t15 := f_m_mdt0_t14.ex I_m_mdt0_t14 (X_t15 0)
      refine Ok_ret (show Ok _ _ _ from ?_)
      refine Ok_ret (show Ok _ _ _ from ?_)
      refine Hv_mk (Kv_c (x := (3, m_md t0, 0)) rfl (Kv_c (x := (2, m_md t0, 0 ||| (1 * 256))) rfl (Kv_c (x := (11, m_md t0, 0)) rfl (Kv_c (x := (4, n, t)) rfl hK)))) (C_t15.1.2.2.2.2.2.2 hTt) C_t15 hT (by omega) (by omega) (by omega) ?_ ?_ ?_ (by omega) ?_ ?_ ?_
      · exact ⟨(Io_n (by decide) (by decide) I_m_mdt0_t15.1 I_m_mdt0_t15.2.1 I_m_mdt0_t15.2.2.1 (fun q => absurd q (by decide)) (fun q => absurd q (by decide)) I_m_mdt0_t15.2.2.2), (Nd_0 (by decide) Mo_nil), ⟨(Io_2 (by have := or_256 (b := 1) (show 0 < 256 from by omega); omega) (by have := or_256 (b := 1) (show 0 < 256 from by omega); omega) (by have := or_256 (b := 1) (show 0 < 256 from by omega); omega) I_m_mdt0_t15.1 I_m_mdt0_t15.2.1 I_m_mdt0_t15.2.2.1 I_m_mdt0_t15.2.2.2), (Nd_A (by decide) (Mo_cons (fun q => show m_md t0 ≤ m_md t0 from by omega) Mo_nil) (Or.inr ⟨(3, m_md t0, 0), List.mem_cons_self, rfl, Or.inl rfl⟩)), ⟨(Io_n (by decide) (by decide) I_m_mdt0_t15.1 I_m_mdt0_t15.2.1 I_m_mdt0_t15.2.2.1 (fun q => absurd q (by decide)) (fun q => absurd q (by decide)) I_m_mdt0_t15.2.2.2), (Nd_0 (by decide) (Mo_cons (fun q => show m_md t0 ≤ m_md t0 from by omega) (Mo_cons (fun q => show m_md t0 ≤ m_md t0 from by omega) Mo_nil))), ⟨(Io_n (by decide) (show t < 4096 from by omega) I_n_t15.1 I_n_t15.2.1 I_n_t15.2.2.1 (fun q => absurd q (by decide)) (fun q => absurd q (by decide)) I_n_t15.2.2.2), (Nd_A (by decide) (Mo_cons (fun q => show n ≤ m_md t0 from by omega) (Mo_cons (fun q => show n ≤ m_md t0 from by omega) (Mo_cons (fun q => show n ≤ m_md t0 from by omega) Mo_nil))) (Or.inl f_n_t15)), Stk_step (N := n) (pop := (4, n, t)) (new := [(4, n, t), (11, m_md t0, 0), (2, m_md t0, 0 ||| (1 * 256)), (3, m_md t0, 0)]) F0 C_t15.1.to2 (fun (h : nk 4 = false) => absurd h (by decide)) (fun q _ h => h (4, n, t) rfl) (fun _ => rfl) (fun y hy hk => ⟨rfl, (Mo_cons (fun q => show n ≤ n from by omega) (Mo_cons (fun q => show n ≤ m_md t0 from by omega) (Mo_cons (fun q => show n ≤ m_md t0 from by omega) (Mo_cons (fun q => show n ≤ m_md t0 from by omega) Mo_nil)))) y hy hk⟩) (fun (h : 4 = 3 ∨ 4 = 18 ∨ 4 = 41) => absurd h (by decide)) (fun (h : 4 = 18) => absurd h (by decide)) (fun (h : 4 = 41 ∨ 4 = 42 ∨ 4 = 43) => absurd h (by decide)) r [] (fun y hy => absurd hy List.not_mem_nil) hS⟩⟩⟩⟩
      · exact (Aj_up (x := (3, m_md t0, 0)) (Aj_up (x := (2, m_md t0, 0 ||| (1 * 256))) (Aj_up (x := (11, m_md t0, 0)) (Aj_sub (y := (4, n, t)) hJ (Nat.le_of_ble_eq_true rfl)) (Or.inr (Nat.le_of_ble_eq_true rfl))) (Or.inl (Nat.le_of_ble_eq_true rfl))) (Or.inr (show 2 < 9 - (0 ||| (1 * 256)) / 256 from by have := or_256 (b := 1) (show 0 < 256 from by omega); omega)))
      · show m_dp t15 = (dlt 3 + (dlt 2 + (dlt 11 + (dlt 4 + sD r))))
        have : dlt 11 = 1 := rfl; have : dlt 2 = 0 := rfl; have : dlt 3 = 0 := rfl; have : dlt 4 = 0 := rfl; omega
      · show m_rw t15 = (rho 3 + (rho 2 + (rho 11 + (rho 4 + sR r))))
        have : rho 11 = 0 := rfl; have : rho 2 = 0 := rfl; have : rho 3 = 0 := rfl; have : rho 4 = 0 := rfl; omega
      · show m_md t15 + (mu7 3 + (mu7 2 + (mu7 11 + (mu7 4 + sM r)))) ≤ 3 * m_at t15 + 7 * (r.length + 1 + 1 + 1 + 1) + 10
        have : mu7 11 = 4 := rfl; have : mu7 2 = 7 := rfl; have : mu7 3 = 5 := rfl; have : mu7 4 = 7 := rfl; omega
      · show (wt 3 + (wt 2 + (wt 11 + (wt 4 + sW r)))) + 6 * (4096 - m_at t15) + 4 * (600 - (r.length + 1 + 1 + 1 + 1)) < (wt 4 + sW r) + 6 * (4096 - m_at t0) + 4 * (600 - (r.length + 1))
        have : wt 11 = 0 := rfl; have : wt 2 = 5 := rfl; have : wt 3 = 3 := rfl; have : wt 4 = 5 := rfl; omega
  · have w_t3 := Nat.pos_of_ne_zero w_t3
    have I_n_t3 := I_n_t2.flat X_t3
    have f_n_t3 := f_n_t2.ex I_n_t2 (X_t3 0)
    have I_m_mdt0_t3 := I_m_mdt0_t2.flat X_t3
    have f_m_mdt0_t3 := f_m_mdt0_t2.ex I_m_mdt0_t2 (X_t3 0)
    refine Kp_at C_t3 (fun t16 C_t16 X_t16 a_t16 b_t16 d_t16 w_t16 u_t16 v_t16 j_t16 l_t16 => ?_)
    have e_t16 := C_t16.2.2.2.1
    have I_n_t16 := I_n_t3.flat X_t16
    have f_n_t16 := f_n_t3.ex I_n_t3 (X_t16 0)
    have I_m_mdt0_t16 := I_m_mdt0_t3.flat X_t16
    have f_m_mdt0_t16 := f_m_mdt0_t3.ex I_m_mdt0_t3 (X_t16 0)
    refine Kp_push C_t16 (by omega) (fun t17 C_t17 X_t17 a_t17 b_t17 d_t17 w_t17 u_t17 v_t17 j_t17 l_t17 => ?_)
    have e_t17 := C_t17.2.2.2.1
    have I_n_t17 := I_n_t16.flat X_t17
    have f_n_t17 := f_n_t16.ex I_n_t16 (X_t17 0)
    have I_m_mdt0_t17 := I_m_mdt0_t16.flat X_t17
    have f_m_mdt0_t17 := f_m_mdt0_t16.ex I_m_mdt0_t16 (X_t17 0)
    refine Kp_look C_t17 hT (by omega) ?_
    refine Ok_ife (Nat.lt_trans (lo_lt (C_t17.tk hT) _) (by decide)) (by decide) (fun q18 => ?_) (fun q18 => ?_)
    · refine Ok_bnc ?_
      try unfold b_X6_slice
      refine Ok_ck (show (m_md t0) < 65536 from by omega) ?_
      refine Kp_wh C_t17 (by decide) (by decide) (by decide) (by decide) (fun t20 C_t20 X_t20 a_t20 b_t20 d_t20 w_t20 u_t20 v_t20 j_t20 l_t20 => ?_)
      have e_t20 := C_t20.2.2.2.1
      have I_n_t20 := I_n_t17.flat X_t20
      have f_n_t20 := f_n_t17.ex I_n_t17 (X_t20 0)
      have I_m_mdt0_t20 := I_m_mdt0_t17.flat X_t20
      have f_m_mdt0_t20 := f_m_mdt0_t17.ex I_m_mdt0_t17 (X_t20 0)
      refine Kp_child C_t20 I_m_mdt0_t20.1 I_m_mdt0_t20.2.1 I_m_mdt0_t20.2.2.1 (by omega) (by omega) (by decide) (by decide) (fun t21 C_t21 X_t21 a_t21 b_t21 d_t21 w_t21 u_t21 v_t21 j_t21 l_t21 => ?_)
      have e_t21 := C_t21.2.2.2.1
      have I_n_t21 := I_n_t20.chd X_t21 j_t21
      have f_n_t21 := f_n_t20.ex I_n_t20 (X_t21 0 (Nat.zero_le _))
      have I_m_mdt0_t21 := I_m_mdt0_t20.chd X_t21 j_t21
      have f_m_mdt0_t21 := f_m_mdt0_t20.ex I_m_mdt0_t20 (X_t21 0 (Nat.zero_le _))
      have f_m_mdt0_t21 : Fz t21 (m_md t0) := j_t21.2.2.2.2.1
      have I_m_mdt20_t21 : Nq t21 (m_md t20) := Nq.chn j_t21 (by omega) I_m_mdt0_t20 (by decide)
      have u_m_mdt20_t21 : Up t21 (m_md t20) := Or.inl j_t21.2.1
      refine Kp_at C_t21 (fun t22 C_t22 X_t22 a_t22 b_t22 d_t22 w_t22 u_t22 v_t22 j_t22 l_t22 => ?_)
      have e_t22 := C_t22.2.2.2.1
      have I_n_t22 := I_n_t21.flat X_t22
      have f_n_t22 := f_n_t21.ex I_n_t21 (X_t22 0)
      have I_m_mdt0_t22 := I_m_mdt0_t21.flat X_t22
      have f_m_mdt0_t22 := f_m_mdt0_t21.ex I_m_mdt0_t21 (X_t22 0)
      have I_m_mdt20_t22 := I_m_mdt20_t21.flat X_t22
      have u_m_mdt20_t22 := u_m_mdt20_t21.ex I_m_mdt20_t21 (X_t22 0)
      refine Kp_push C_t22 (by omega) (fun t23 C_t23 X_t23 a_t23 b_t23 d_t23 w_t23 u_t23 v_t23 j_t23 l_t23 => ?_)
      have e_t23 := C_t23.2.2.2.1
      have I_n_t23 := I_n_t22.flat X_t23
      have f_n_t23 := f_n_t22.ex I_n_t22 (X_t23 0)
      have I_m_mdt0_t23 := I_m_mdt0_t22.flat X_t23
      have f_m_mdt0_t23 := f_m_mdt0_t22.ex I_m_mdt0_t22 (X_t23 0)
      have I_m_mdt20_t23 := I_m_mdt20_t22.flat X_t23
      have u_m_mdt20_t23 := u_m_mdt20_t22.ex I_m_mdt20_t22 (X_t23 0)
      refine Ok_ret (show Ok _ _ _ from ?_)
      refine Ok_ret (show Ok _ _ _ from ?_)
      exact Or.inl ⟨Nat.ne_of_gt (show 0 < m_wr t23 from by omega), by omega, by omega, C_t23.2.2.2.2.2, by omega⟩
    · refine Kp_push C_t17 (by omega) (fun t24 C_t24 X_t24 a_t24 b_t24 d_t24 w_t24 u_t24 v_t24 j_t24 l_t24 => ?_)
      have e_t24 := C_t24.2.2.2.1
      have I_n_t24 := I_n_t17.flat X_t24
      have f_n_t24 := f_n_t17.ex I_n_t17 (X_t24 0)
      have I_m_mdt0_t24 := I_m_mdt0_t17.flat X_t24
      have f_m_mdt0_t24 := f_m_mdt0_t17.ex I_m_mdt0_t17 (X_t24 0)
      refine Ok_bnc ?_
      try unfold b_X6_expression
      refine Kp_push C_t24 (by omega) (fun t26 C_t26 X_t26 a_t26 b_t26 d_t26 w_t26 u_t26 v_t26 j_t26 l_t26 => ?_)
      have e_t26 := C_t26.2.2.2.1
      have I_n_t26 := I_n_t24.flat X_t26
      have f_n_t26 := f_n_t24.ex I_n_t24 (X_t26 0)
      have I_m_mdt0_t26 := I_m_mdt0_t24.flat X_t26
      have f_m_mdt0_t26 := f_m_mdt0_t24.ex I_m_mdt0_t24 (X_t26 0)
      refine Kp_push C_t26 (by omega) (fun t27 C_t27 X_t27 a_t27 b_t27 d_t27 w_t27 u_t27 v_t27 j_t27 l_t27 => ?_)
      have e_t27 := C_t27.2.2.2.1
      have I_n_t27 := I_n_t26.flat X_t27
      have f_n_t27 := f_n_t26.ex I_n_t26 (X_t27 0)
      have I_m_mdt0_t27 := I_m_mdt0_t26.flat X_t27
      have f_m_mdt0_t27 := f_m_mdt0_t26.ex I_m_mdt0_t26 (X_t27 0)
      refine Ok_ret (show Ok _ _ _ from ?_)
      refine Ok_ret (show Ok _ _ _ from ?_)
      exact Or.inl ⟨Nat.ne_of_gt (show 0 < m_wr t27 from by omega), by omega, by omega, C_t27.2.2.2.2.2, by omega⟩

