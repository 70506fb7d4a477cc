/-! The steps of the reference, one by one. -/
theorem Q_listRest_18_t76aaa {t0 : Mm} {n t : Nat} {r : List It} (H : Hp t0 (43, n, t) r) {E : Mm → Prop} (f y4 : Nat) (h4 : y4 ≤ 1) (hk0 : lo t0 (m_at t0) = 76) (hk1 : f_X6_has t 4 = 0) (hk2 : f_X6_has t 8 = 0) (hk3 : f_X6_has t 16 = 0) : Ok (Qh (mz t0 ((43, n, t) :: r))) E (lp_X6_listRest_18 ((f + 1)) n t ((m_la t0 n - 1)) y4 0 t0) := by
  obtain ⟨hK, hT, hc, hw0, ha, hC, hS, hJ, hdp, hdl, hrw, hmd, htd, hln, hm16, hI, hD, hTt⟩ := Hp_out H
  have C_t0 := hC n
  have F0 := C_t0.2.1
  have I_n_t0 : Nq t0 n := ⟨(hI.2.1 rfl).1, (hI.2.1 rfl).2.1, (hI.2.1 rfl).2.2, hI.2.2.2 rfl⟩
  have m_n_t0 := I_n_t0.1
  have ht : t < 4096 := hI.1.1 (show 43 ≠ 42 by decide) (show 43 ≠ 48 by decide)
  have hdp : m_dp t0 = dlt 43 + sD r := hdp
  have hrw : m_rw t0 = rho 43 + sR r := hrw
  have hmd : m_md t0 + mu7 43 + sM r ≤ 3 * m_at t0 + 7 * r.length + 17 := hmd
  have hand : t &&& 1 ≤ 1 := Nat.and_le_right
  have h01 : (0 &&& 1 : Nat) = 0 := rfl
  have hor0 : (t &&& 1) ||| 0 ≤ 1 := by rw [Nat.or_zero]; exact hand
  have hor2 : (t &&& 1) ||| 2 < 4 := Nat.or_lt_two_pow (n := 2) (by omega) (by decide)
  have h02 : (1 : Nat) * 256 = 256 := rfl
  have hq1 : dlt 43 = 0 := rfl
  have hq2 : rho 43 = 0 := rfl
  have hq3 : mu7 43 = 4 := rfl
  obtain ⟨f5, -, -, g43, w43⟩ := hD.2.2.2.1 rfl
  have f_n_t0 : Fz t0 n := f5
  obtain ⟨hla0, hla2, -, -⟩ := Fo_lp F0 I_n_t0 f_n_t0
  have hla1 : m_la t0 n - 1 < m_md t0 := by omega
  have u_n_t0 : Up t0 n := hI.2.2.1 rfl
  rw [lp_X6_listRest_18]
  refine Ok_ifz0 ?_
  refine Kp_look C_t0 hT (by omega) ?_
  refine Ok_ife (Nat.lt_trans (lo_lt (C_t0.tk hT) _) (by decide)) (by decide) (fun q => absurd (hk0.symm.trans q) (by decide)) (fun _ => ?_)
  refine Kp_look C_t0 hT (by omega) ?_
  refine Ok_ife (Nat.lt_trans (lo_lt (C_t0.tk hT) _) (by decide)) (by decide) (fun q => ?_) (fun q => absurd hk0 q)
  refine Ok_ifz (show y4 < 2147483648 from by omega) (fun q1 => ?_) (fun q1 => ?_)
  · refine Kp_error C_t0 (by omega) (fun t2 C_t2 X_t2 a_t2 b_t2 d_t2 w_t2 u_t2 v_t2 j_t2 l_t2 => ?_)
    have wb_t2 := w_t2.2
    have w_t2 := Nat.pos_of_ne_zero w_t2.1
    have e_t2 := C_t2.2.2.2.1
    have I_n_t2 := I_n_t0.flat X_t2
    have f_n_t2 := f_n_t0.ex I_n_t0 (X_t2 0)
    have u_n_t2 := u_n_t0.ex I_n_t0 (X_t2 0)
    exact Or.inl ⟨Nat.ne_of_gt (show 0 < m_wr t2 from by omega), by omega, by omega, C_t2.2.2.2.2.2, by omega⟩
  · refine Ok_ck (show t < 2147483648 from by omega) ?_
    refine Ok_ifz (f6_has _ _) (fun q3 => ?_) (fun q3 => ?_)
    · refine Ok_ck (show ((m_la t0 n - 1)) < 65536 from by omega) ?_
      refine Kp_wh C_t0 (by decide) (by decide) (by decide) (by decide) (fun t4 C_t4 X_t4 a_t4 b_t4 d_t4 w_t4 u_t4 v_t4 j_t4 l_t4 => ?_)
      have e_t4 := C_t4.2.2.2.1
      have I_n_t4 := I_n_t0.flat X_t4
      have f_n_t4 := f_n_t0.ex I_n_t0 (X_t4 0)
      have u_n_t4 := u_n_t0.ex I_n_t0 (X_t4 0)
      refine Ok_bnc ?_
      try unfold b_X6_define
      refine Ok_bnc ?_
      try unfold b_X6_ranges
      refine Ok_ck (show t < 2147483648 from by omega) ?_
      refine Ok_ifz (f6_has _ _) (fun q => ?_) (fun q => absurd hk1 q)
      refine Ok_ret (show Ok _ _ _ from ?_)
      refine Ok_ifz0 ?_
      refine Kp_wrap C_t4 I_n_t4.1 I_n_t4.2.1 f_n_t4 I_n_t4.2.2.1 (by omega) (by omega) (by decide) (fun t7 C_t7 X_t7 a_t7 b_t7 d_t7 w_t7 u_t7 v_t7 j_t7 l_t7 => ?_)
      have e_t7 := C_t7.2.2.2.1
      rw [a_t4] at a_t7
      rw [b_t4] at b_t7
      rw [d_t4] at d_t7
      rw [w_t4] at w_t7
      rw [u_t4] at u_t7
      rw [v_t4] at v_t7
      clear d_t4 w_t4 u_t4 v_t4 e_t4 a_t4
      have I_n_t7 := I_n_t4.le X_t7 (by omega)
      have f_n_t7 := f_n_t4.ex I_n_t4 (X_t7 0 (Nat.zero_le _))
      have u_n_t7 := u_n_t4.ex I_n_t4 (X_t7 0 (Nat.zero_le _))
      have I_m_mdt4_t7 : Nq t7 (m_md t4) := Nq.wrn j_t7 (by omega) I_n_t4 (by decide)
      have f_m_mdt4_t7 : Fz t7 (m_md t4) := by unfold Fz; rw [j_t7.2.1]; exact j_t7.2.2.1
      have la_n_t7 : m_la t7 n = (m_md t4) + 1 := j_t7.2.2.2.2.2.2.2.1
      have wl_n_t7 : m_wh t7 (m_md t4) = 56 := j_t7.1
      have z_t8 : m_at t7 < m_ct t7 := lo_ne (Nat.ne_of_gt (show 0 < lo t7 (m_at t7) from by omega))
      refine Kp_at C_t7 (fun t8 C_t8 X_t8 a_t8 b_t8 d_t8 w_t8 u_t8 v_t8 j_t8 l_t8 => ?_)
      have e_t8 := C_t8.2.2.2.1
      rw [a_t7] at a_t8
      rw [b_t7] at b_t8
      rw [d_t7] at d_t8
      rw [w_t7] at w_t8
      rw [u_t7] at u_t8
      rw [v_t7] at v_t8
      rw [a_t7, e_t7] at z_t8
      clear d_t7 w_t7 u_t7 v_t7 e_t7 a_t7 b_t7
      have I_n_t8 := I_n_t7.flat X_t8
      have f_n_t8 := f_n_t7.ex I_n_t7 (X_t8 0)
      have u_n_t8 := u_n_t7.ex I_n_t7 (X_t8 0)
      have I_m_mdt4_t8 := I_m_mdt4_t7.flat X_t8
      have f_m_mdt4_t8 := f_m_mdt4_t7.ex I_m_mdt4_t7 (X_t8 0)
      have la_n_t8 : m_la t8 n = (m_md t4) + 1 := by rw [j_t8.2.2.1]; exact la_n_t7
      have wl_n_t8 : m_wh t8 ((m_md t4)) = 56 := by rw [j_t8.1]; exact wl_n_t7
      clear la_n_t7 wl_n_t7
      refine Ok_ck (show t < 2147483648 from by omega) ?_
      refine Ok_ifz (f6_has _ _) (fun q => ?_) (fun q => absurd hk2 q)
      refine Ok_ck (show t < 2147483648 from by omega) ?_
      refine Ok_ifz (f6_has _ _) (fun q => ?_) (fun q => absurd hk3 q)
      refine Ok_ck (show t < 2147483648 from by omega) ?_
      refine Ok_ifz (f6_has _ _) (fun q => ?_) (fun q => absurd hk2 q)
      refine Ok_bnc ?_
      try unfold b_X6_right
      refine Kp_child C_t8 I_m_mdt4_t8.1 I_m_mdt4_t8.2.1 I_m_mdt4_t8.2.2.1 (by omega) (by omega) (by decide) (by decide) (fun t10 C_t10 X_t10 a_t10 b_t10 d_t10 w_t10 u_t10 v_t10 j_t10 l_t10 => ?_)
      have e_t10 := C_t10.2.2.2.1
      rw [a_t8] at a_t10
      rw [b_t8] at b_t10
      rw [d_t8] at d_t10
      rw [w_t8] at w_t10
      rw [u_t8] at u_t10
      rw [v_t8] at v_t10
      clear d_t8 w_t8 u_t8 v_t8 e_t8 a_t8
      have I_n_t10 := I_n_t8.chd X_t10 j_t10
      have f_n_t10 := f_n_t8.ex I_n_t8 (X_t10 0 (Nat.zero_le _))
      have u_n_t10 := u_n_t8.ex I_n_t8 (X_t10 0 (Nat.zero_le _))
      have I_m_mdt4_t10 := I_m_mdt4_t8.chd X_t10 j_t10
      have f_m_mdt4_t10 := f_m_mdt4_t8.ex I_m_mdt4_t8 (X_t10 0 (Nat.zero_le _))
      have la_n_t10 : m_la t10 n = (m_md t4) + 1 := by rw [(j_t10.2.2.2.2.2.2.2.1 n I_n_t8.1 (by omega)).1]; exact la_n_t8
      have wl_n_t10 : m_wh t10 ((m_md t4)) = 56 := by rw [(j_t10.2.2.2.2.2.2.1 ((m_md t4)) (by omega)).2]; exact wl_n_t8
      clear la_n_t8 wl_n_t8
      have f_m_mdt4_t10 : Fz t10 (m_md t4) := j_t10.2.2.2.2.1
      have I_m_mdt8_t10 : Nq t10 (m_md t8) := Nq.chn j_t10 (by omega) I_m_mdt4_t8 (by decide)
      have u_m_mdt8_t10 : Up t10 (m_md t8) := Or.inl j_t10.2.1
      have la_m_mdt4_t10 : m_la t10 (m_md t4) = (m_md t8) + 1 := j_t10.2.2.2.2.2.1
      have wl_m_mdt4_t10 : m_wh t10 (m_md t8) = 13 := j_t10.1
      refine Ok_ck (show t < 2147483648 from by omega) ?_
      refine Ok_ifz (f6_has _ _) (fun q11 => ?_) (fun q11 => ?_)
      · refine Kp_push C_t10 (by omega) (fun t12 C_t12 X_t12 a_t12 b_t12 d_t12 w_t12 u_t12 v_t12 j_t12 l_t12 => ?_)
        have e_t12 := C_t12.2.2.2.1
        rw [a_t10] at a_t12
        rw [b_t10] at b_t12
        rw [d_t10] at d_t12
        rw [w_t10] at w_t12
        rw [u_t10] at u_t12
        rw [v_t10] at v_t12
        clear d_t10 w_t10 u_t10 v_t10 e_t10 a_t10 b_t10
        have I_n_t12 := I_n_t10.flat X_t12
        have f_n_t12 := f_n_t10.ex I_n_t10 (X_t12 0)
        have u_n_t12 := u_n_t10.ex I_n_t10 (X_t12 0)
        have I_m_mdt4_t12 := I_m_mdt4_t10.flat X_t12
        have f_m_mdt4_t12 := f_m_mdt4_t10.ex I_m_mdt4_t10 (X_t12 0)
        have I_m_mdt8_t12 := I_m_mdt8_t10.flat X_t12
        have u_m_mdt8_t12 := u_m_mdt8_t10.ex I_m_mdt8_t10 (X_t12 0)
        have la_n_t12 : m_la t12 n = (m_md t4) + 1 := by rw [j_t12.2.2.1]; exact la_n_t10
        have wl_n_t12 : m_wh t12 ((m_md t4)) = 56 := by rw [j_t12.1]; exact wl_n_t10
        clear la_n_t10 wl_n_t10
        have la_m_mdt4_t12 : m_la t12 (m_md t4) = (m_md t8) + 1 := by rw [j_t12.2.2.1]; exact la_m_mdt4_t10
        have wl_m_mdt4_t12 : m_wh t12 ((m_md t8)) = 13 := by rw [j_t12.1]; exact wl_m_mdt4_t10
        clear la_m_mdt4_t10 wl_m_mdt4_t10
        refine Ok_bnc ?_
        try unfold b_X6_expression
        refine Kp_push C_t12 (by omega) (fun t14 C_t14 X_t14 a_t14 b_t14 d_t14 w_t14 u_t14 v_t14 j_t14 l_t14 => ?_)
        have e_t14 := C_t14.2.2.2.1
        rw [a_t12] at a_t14
        rw [b_t12] at b_t14
        rw [d_t12] at d_t14
        rw [w_t12] at w_t14
        rw [u_t12] at u_t14
        rw [v_t12] at v_t14
        clear d_t12 w_t12 u_t12 v_t12 e_t12 a_t12 b_t12
        have I_n_t14 := I_n_t12.flat X_t14
        have f_n_t14 := f_n_t12.ex I_n_t12 (X_t14 0)
        have u_n_t14 := u_n_t12.ex I_n_t12 (X_t14 0)
        have I_m_mdt4_t14 := I_m_mdt4_t12.flat X_t14
        have f_m_mdt4_t14 := f_m_mdt4_t12.ex I_m_mdt4_t12 (X_t14 0)
        have I_m_mdt8_t14 := I_m_mdt8_t12.flat X_t14
        have u_m_mdt8_t14 := u_m_mdt8_t12.ex I_m_mdt8_t12 (X_t14 0)
        have la_n_t14 : m_la t14 n = (m_md t4) + 1 := by rw [j_t14.2.2.1]; exact la_n_t12
        have wl_n_t14 : m_wh t14 ((m_md t4)) = 56 := by rw [j_t14.1]; exact wl_n_t12
        clear la_n_t12 wl_n_t12
        have la_m_mdt4_t14 : m_la t14 (m_md t4) = (m_md t8) + 1 := by rw [j_t14.2.2.1]; exact la_m_mdt4_t12
        have wl_m_mdt4_t14 : m_wh t14 ((m_md t8)) = 13 := by rw [j_t14.1]; exact wl_m_mdt4_t12
        clear la_m_mdt4_t12 wl_m_mdt4_t12
        refine Kp_push C_t14 (by omega) (fun t15 C_t15 X_t15 a_t15 b_t15 d_t15 w_t15 u_t15 v_t15 j_t15 l_t15 => ?_)
        have e_t15 := C_t15.2.2.2.1
        rw [a_t14] at a_t15
        rw [b_t14] at b_t15
        rw [d_t14] at d_t15
        rw [w_t14] at w_t15
        rw [u_t14] at u_t15
        rw [v_t14] at v_t15
        clear d_t14 w_t14 u_t14 v_t14 e_t14 a_t14 b_t14
        have I_n_t15 := I_n_t14.flat X_t15
        have f_n_t15 := f_n_t14.ex I_n_t14 (X_t15 0)
        have u_n_t15 := u_n_t14.ex I_n_t14 (X_t15 0)
        have I_m_mdt4_t15 := I_m_mdt4_t14.flat X_t15
        have f_m_mdt4_t15 := f_m_mdt4_t14.ex I_m_mdt4_t14 (X_t15 0)
        have I_m_mdt8_t15 := I_m_mdt8_t14.flat X_t15
        have u_m_mdt8_t15 := u_m_mdt8_t14.ex I_m_mdt8_t14 (X_t15 0)
        have la_n_t15 : m_la t15 n = (m_md t4) + 1 := by rw [j_t15.2.2.1]; exact la_n_t14
        have wl_n_t15 : m_wh t15 ((m_md t4)) = 56 := by rw [j_t15.1]; exact wl_n_t14
        clear la_n_t14 wl_n_t14
        have la_m_mdt4_t15 : m_la t15 (m_md t4) = (m_md t8) + 1 := by rw [j_t15.2.2.1]; exact la_m_mdt4_t14
        have wl_m_mdt4_t15 : m_wh t15 ((m_md t8)) = 13 := by rw [j_t15.1]; exact wl_m_mdt4_t14
        clear la_m_mdt4_t14 wl_m_mdt4_t14
        refine Ok_ret (show Ok _ _ _ from ?_)
        refine Ok_ret (show Ok _ _ _ from ?_)
        refine Ok_ret (show Ok _ _ _ from ?_)
        refine Hv_mk (Kv_c (x := (3, m_md t8, (t &&& 1) ||| 0)) rfl (Kv_c (x := (2, m_md t8, ((t &&& 1) ||| 0) ||| (1 * 256))) rfl (Kv_c (x := (32, m_md t8, t &&& 1)) rfl hK))) (C_t15.1.2.2.2.2.2.2 hTt) C_t15 hT (by omega) (by omega) (by omega) ?_ ?_ ?_ (by omega) ?_ ?_ ?_
        · exact ⟨(Io_n (by decide) (show (t &&& 1) ||| 0 < 4096 from by omega) I_m_mdt8_t15.1 I_m_mdt8_t15.2.1 I_m_mdt8_t15.2.2.1 (fun q => absurd q (by decide)) (fun q => absurd q (by decide)) I_m_mdt8_t15.2.2.2), (Nd_0 (by decide) Mo_nil), ⟨(Io_2 (by have := or_256 (b := 1) (show ((t &&& 1) ||| 0) < 256 from by omega); omega) (by have := or_256 (b := 1) (show ((t &&& 1) ||| 0) < 256 from by omega); omega) (by have := or_256 (b := 1) (show ((t &&& 1) ||| 0) < 256 from by omega); omega) I_m_mdt8_t15.1 I_m_mdt8_t15.2.1 I_m_mdt8_t15.2.2.1 I_m_mdt8_t15.2.2.2), (Nd_A (by decide) (Mo_cons (fun q => show m_md t8 ≤ m_md t8 from by omega) Mo_nil) (Or.inr ⟨(3, m_md t8, (t &&& 1) ||| 0), List.mem_cons_self, rfl, Or.inl rfl⟩)), ⟨(Io_n (by decide) (show t &&& 1 < 4096 from by omega) I_m_mdt8_t15.1 I_m_mdt8_t15.2.1 I_m_mdt8_t15.2.2.1 (fun q => absurd q (by decide)) (fun q => absurd q (by decide)) I_m_mdt8_t15.2.2.2), (Nd_0 (by decide) (Mo_cons (fun q => show m_md t8 ≤ m_md t8 from by omega) (Mo_cons (fun q => show m_md t8 ≤ m_md t8 from by omega) Mo_nil))), Stk_step (N := n) (pop := (43, n, t)) (new := [(32, m_md t8, t &&& 1), (2, m_md t8, ((t &&& 1) ||| 0) ||| (1 * 256)), (3, m_md t8, (t &&& 1) ||| 0)]) F0 C_t15.1.to2 (fun (h : nk 43 = false) => absurd h (by decide)) (fun q _ h => h (43, n, t) rfl) (fun _ => rfl) (fun y hy hk => ⟨rfl, (Mo_cons (fun q => show n ≤ m_md t8 from by omega) (Mo_cons (fun q => show n ≤ m_md t8 from by omega) (Mo_cons (fun q => show n ≤ m_md t8 from by omega) Mo_nil))) y hy hk⟩) (fun (h : 43 = 3 ∨ 43 = 18 ∨ 43 = 41) => absurd h (by decide)) (fun (h : 43 = 18) => absurd h (by decide)) (fun _ h16 => (Or.inr ⟨f_n_t15, (Ab_some (y := (32, m_md t8, t &&& 1)) rfl (show n < m_md t8 from by omega)), H50_no la_n_t15 wl_n_t15 (by decide)⟩)) r [] (fun y hy => absurd hy List.not_mem_nil) hS⟩⟩⟩
        · exact (Aj_up (x := (3, m_md t8, (t &&& 1) ||| 0)) (Aj_up (x := (2, m_md t8, ((t &&& 1) ||| 0) ||| (1 * 256))) (Aj_sub (y := (32, m_md t8, t &&& 1)) hJ (Nat.le_of_ble_eq_true rfl)) (Or.inr (show 9 - (((t &&& 1) ||| 0) ||| (1 * 256)) / 256 < 9 from by have := or_256 (b := 1) (show ((t &&& 1) ||| 0) < 256 from by omega); omega))) (Or.inr (show 2 < 9 - (((t &&& 1) ||| 0) ||| (1 * 256)) / 256 from by have := or_256 (b := 1) (show ((t &&& 1) ||| 0) < 256 from by omega); omega)))
        · show m_dp t15 = (dlt 3 + (dlt 2 + (dlt 32 + sD r)))
          have : dlt 2 = 0 := rfl; have : dlt 3 = 0 := rfl; have : dlt 32 = 0 := rfl; have : dlt 43 = 0 := rfl; omega
        · show m_rw t15 = (rho 3 + (rho 2 + (rho 32 + sR r)))
          have : rho 2 = 0 := rfl; have : rho 3 = 0 := rfl; have : rho 32 = 0 := rfl; have : rho 43 = 0 := rfl; omega
        · show m_md t15 + (mu7 3 + (mu7 2 + (mu7 32 + sM r))) ≤ 3 * m_at t15 + 7 * (r.length + 1 + 1 + 1) + 10
          have : mu7 2 = 7 := rfl; have : mu7 3 = 5 := rfl; have : mu7 32 = 7 := rfl; have : mu7 43 = 4 := rfl; omega
        · show (wt 3 + (wt 2 + (wt 32 + sW r))) + 6 * (4096 - m_at t15) + 4 * (600 - (r.length + 1 + 1 + 1)) < (wt 43 + sW r) + 6 * (4096 - m_at t0) + 4 * (600 - (r.length + 1))
          have : wt 2 = 5 := rfl; have : wt 3 = 3 := rfl; have : wt 32 = 5 := rfl; have : wt 43 = 0 := rfl; omega
      · refine Ok_bnc ?_
        try unfold b_X6_expression
        refine Kp_push C_t10 (by omega) (fun t17 C_t17 X_t17 a_t17 b_t17 d_t17 w_t17 u_t17 v_t17 j_t17 l_t17 => ?_)
        have e_t17 := C_t17.2.2.2.1
        rw [a_t10] at a_t17
        rw [b_t10] at b_t17
        rw [d_t10] at d_t17
        rw [w_t10] at w_t17
        rw [u_t10] at u_t17
        rw [v_t10] at v_t17
        clear d_t10 w_t10 u_t10 v_t10 e_t10 a_t10 b_t10
        have I_n_t17 := I_n_t10.flat X_t17
        have f_n_t17 := f_n_t10.ex I_n_t10 (X_t17 0)
        have u_n_t17 := u_n_t10.ex I_n_t10 (X_t17 0)
        have I_m_mdt4_t17 := I_m_mdt4_t10.flat X_t17
        have f_m_mdt4_t17 := f_m_mdt4_t10.ex I_m_mdt4_t10 (X_t17 0)
        have I_m_mdt8_t17 := I_m_mdt8_t10.flat X_t17
        have u_m_mdt8_t17 := u_m_mdt8_t10.ex I_m_mdt8_t10 (X_t17 0)
        have la_n_t17 : m_la t17 n = (m_md t4) + 1 := by rw [j_t17.2.2.1]; exact la_n_t10
        have wl_n_t17 : m_wh t17 ((m_md t4)) = 56 := by rw [j_t17.1]; exact wl_n_t10
        clear la_n_t10 wl_n_t10
        have la_m_mdt4_t17 : m_la t17 (m_md t4) = (m_md t8) + 1 := by rw [j_t17.2.2.1]; exact la_m_mdt4_t10
        have wl_m_mdt4_t17 : m_wh t17 ((m_md t8)) = 13 := by rw [j_t17.1]; exact wl_m_mdt4_t10
        clear la_m_mdt4_t10 wl_m_mdt4_t10
        refine Kp_push C_t17 (by omega) (fun t18 C_t18 X_t18 a_t18 b_t18 d_t18 w_t18 u_t18 v_t18 j_t18 l_t18 => ?_)
        have e_t18 := C_t18.2.2.2.1
        rw [a_t17] at a_t18
        rw [b_t17] at b_t18
        rw [d_t17] at d_t18
        rw [w_t17] at w_t18
        rw [u_t17] at u_t18
        rw [v_t17] at v_t18
        clear d_t17 w_t17 u_t17 v_t17 e_t17 a_t17 b_t17
        have I_n_t18 := I_n_t17.flat X_t18
        have f_n_t18 := f_n_t17.ex I_n_t17 (X_t18 0)
        have u_n_t18 := u_n_t17.ex I_n_t17 (X_t18 0)
        have I_m_mdt4_t18 := I_m_mdt4_t17.flat X_t18
        have f_m_mdt4_t18 := f_m_mdt4_t17.ex I_m_mdt4_t17 (X_t18 0)
        have I_m_mdt8_t18 := I_m_mdt8_t17.flat X_t18
        have u_m_mdt8_t18 := u_m_mdt8_t17.ex I_m_mdt8_t17 (X_t18 0)
        have la_n_t18 : m_la t18 n = (m_md t4) + 1 := by rw [j_t18.2.2.1]; exact la_n_t17
        have wl_n_t18 : m_wh t18 ((m_md t4)) = 56 := by rw [j_t18.1]; exact wl_n_t17
        clear la_n_t17 wl_n_t17
        have la_m_mdt4_t18 : m_la t18 (m_md t4) = (m_md t8) + 1 := by rw [j_t18.2.2.1]; exact la_m_mdt4_t17
        have wl_m_mdt4_t18 : m_wh t18 ((m_md t8)) = 13 := by rw [j_t18.1]; exact wl_m_mdt4_t17
        clear la_m_mdt4_t17 wl_m_mdt4_t17
        refine Ok_ret (show Ok _ _ _ from ?_)
        refine Ok_ret (show Ok _ _ _ from ?_)
        refine Ok_ret (show Ok _ _ _ from ?_)
        refine Hv_mk (Kv_c (x := (3, m_md t8, (t &&& 1) ||| 0)) rfl (Kv_c (x := (2, m_md t8, ((t &&& 1) ||| 0) ||| (1 * 256))) rfl hK)) (C_t18.1.2.2.2.2.2.2 hTt) C_t18 hT (by omega) (by omega) (by omega) ?_ ?_ ?_ (by omega) ?_ ?_ ?_
        · exact ⟨(Io_n (by decide) (show (t &&& 1) ||| 0 < 4096 from by omega) I_m_mdt8_t18.1 I_m_mdt8_t18.2.1 I_m_mdt8_t18.2.2.1 (fun q => absurd q (by decide)) (fun q => absurd q (by decide)) I_m_mdt8_t18.2.2.2), (Nd_0 (by decide) Mo_nil), ⟨(Io_2 (by have := or_256 (b := 1) (show ((t &&& 1) ||| 0) < 256 from by omega); omega) (by have := or_256 (b := 1) (show ((t &&& 1) ||| 0) < 256 from by omega); omega) (by have := or_256 (b := 1) (show ((t &&& 1) ||| 0) < 256 from by omega); omega) I_m_mdt8_t18.1 I_m_mdt8_t18.2.1 I_m_mdt8_t18.2.2.1 I_m_mdt8_t18.2.2.2), (Nd_A (by decide) (Mo_cons (fun q => show m_md t8 ≤ m_md t8 from by omega) Mo_nil) (Or.inr ⟨(3, m_md t8, (t &&& 1) ||| 0), List.mem_cons_self, rfl, Or.inl rfl⟩)), Stk_step (N := n) (pop := (43, n, t)) (new := [(2, m_md t8, ((t &&& 1) ||| 0) ||| (1 * 256)), (3, m_md t8, (t &&& 1) ||| 0)]) F0 C_t18.1.to2 (fun (h : nk 43 = false) => absurd h (by decide)) (fun q _ h => h (43, n, t) rfl) (fun _ => rfl) (fun y hy hk => ⟨rfl, (Mo_cons (fun q => show n ≤ m_md t8 from by omega) (Mo_cons (fun q => show n ≤ m_md t8 from by omega) Mo_nil)) y hy hk⟩) (fun (h : 43 = 3 ∨ 43 = 18 ∨ 43 = 41) => absurd h (by decide)) (fun (h : 43 = 18) => absurd h (by decide)) (fun _ h16 => (Or.inr ⟨f_n_t18, (Ab_some (y := (2, m_md t8, ((t &&& 1) ||| 0) ||| (1 * 256))) rfl (show n < m_md t8 from by omega)), H50_no la_n_t18 wl_n_t18 (by decide)⟩)) r [] (fun y hy => absurd hy List.not_mem_nil) hS⟩⟩
        · exact (Aj_up (x := (3, m_md t8, (t &&& 1) ||| 0)) (Aj_sub (y := (2, m_md t8, ((t &&& 1) ||| 0) ||| (1 * 256))) hJ (show 9 - (((t &&& 1) ||| 0) ||| (1 * 256)) / 256 ≤ 10 from by have := or_256 (b := 1) (show ((t &&& 1) ||| 0) < 256 from by omega); omega)) (Or.inr (show 2 < 9 - (((t &&& 1) ||| 0) ||| (1 * 256)) / 256 from by have := or_256 (b := 1) (show ((t &&& 1) ||| 0) < 256 from by omega); omega)))
        · show m_dp t18 = (dlt 3 + (dlt 2 + sD r))
          have : dlt 2 = 0 := rfl; have : dlt 3 = 0 := rfl; have : dlt 43 = 0 := rfl; omega
        · show m_rw t18 = (rho 3 + (rho 2 + sR r))
          have : rho 2 = 0 := rfl; have : rho 3 = 0 := rfl; have : rho 43 = 0 := rfl; omega
        · show m_md t18 + (mu7 3 + (mu7 2 + sM r)) ≤ 3 * m_at t18 + 7 * (r.length + 1 + 1) + 10
          have : mu7 2 = 7 := rfl; have : mu7 3 = 5 := rfl; have : mu7 43 = 4 := rfl; omega
        · show (wt 3 + (wt 2 + sW r)) + 6 * (4096 - m_at t18) + 4 * (600 - (r.length + 1 + 1)) < (wt 43 + sW r) + 6 * (4096 - m_at t0) + 4 * (600 - (r.length + 1))
          have : wt 2 = 5 := rfl; have : wt 3 = 3 := rfl; have : wt 43 = 0 := rfl; omega
    · refine Kp_error C_t0 (by omega) (fun t19 C_t19 X_t19 a_t19 b_t19 d_t19 w_t19 u_t19 v_t19 j_t19 l_t19 => ?_)
      have wb_t19 := w_t19.2
      have w_t19 := Nat.pos_of_ne_zero w_t19.1
      have e_t19 := C_t19.2.2.2.1
      have I_n_t19 := I_n_t0.flat X_t19
      have f_n_t19 := f_n_t0.ex I_n_t0 (X_t19 0)
      have u_n_t19 := u_n_t0.ex I_n_t0 (X_t19 0)
      exact Or.inl ⟨Nat.ne_of_gt (show 0 < m_wr t19 from by omega), by omega, by omega, C_t19.2.2.2.2.2, by omega⟩

theorem Q_listRest_18_t76aab {t0 : Mm} {n t : Nat} {r : List It} (H : Hp t0 (43, n, t) r) {E : Mm → Prop} (f y4 : Nat) (h4 : y4 ≤ 1) (hk0 : lo t0 (m_at t0) = 76) (hk1 : f_X6_has t 4 = 0) (hk2 : f_X6_has t 8 = 0) (hk3 : f_X6_has t 16 ≠ 0) : Ok (Qh (mz t0 ((43, n, t) :: r))) E (lp_X6_listRest_18 ((f + 1)) n t ((m_la t0 n - 1)) y4 0 t0) := by
  obtain ⟨hK, hT, hc, hw0, ha, hC, hS, hJ, hdp, hdl, hrw, hmd, htd, hln, hm16, hI, hD, hTt⟩ := Hp_out H
  have C_t0 := hC n
  have F0 := C_t0.2.1
  have I_n_t0 : Nq t0 n := ⟨(hI.2.1 rfl).1, (hI.2.1 rfl).2.1, (hI.2.1 rfl).2.2, hI.2.2.2 rfl⟩
  have m_n_t0 := I_n_t0.1
  have ht : t < 4096 := hI.1.1 (show 43 ≠ 42 by decide) (show 43 ≠ 48 by decide)
  have hdp : m_dp t0 = dlt 43 + sD r := hdp
  have hrw : m_rw t0 = rho 43 + sR r := hrw
  have hmd : m_md t0 + mu7 43 + sM r ≤ 3 * m_at t0 + 7 * r.length + 17 := hmd
  have hand : t &&& 1 ≤ 1 := Nat.and_le_right
  have h01 : (0 &&& 1 : Nat) = 0 := rfl
  have hor0 : (t &&& 1) ||| 0 ≤ 1 := by rw [Nat.or_zero]; exact hand
  have hor2 : (t &&& 1) ||| 2 < 4 := Nat.or_lt_two_pow (n := 2) (by omega) (by decide)
  have h02 : (1 : Nat) * 256 = 256 := rfl
  have hq1 : dlt 43 = 0 := rfl
  have hq2 : rho 43 = 0 := rfl
  have hq3 : mu7 43 = 4 := rfl
  obtain ⟨f5, -, -, g43, w43⟩ := hD.2.2.2.1 rfl
  have f_n_t0 : Fz t0 n := f5
  obtain ⟨hla0, hla2, -, -⟩ := Fo_lp F0 I_n_t0 f_n_t0
  have hla1 : m_la t0 n - 1 < m_md t0 := by omega
  have u_n_t0 : Up t0 n := hI.2.2.1 rfl
  rw [lp_X6_listRest_18]
  refine Ok_ifz0 ?_
  refine Kp_look C_t0 hT (by omega) ?_
  refine Ok_ife (Nat.lt_trans (lo_lt (C_t0.tk hT) _) (by decide)) (by decide) (fun q => absurd (hk0.symm.trans q) (by decide)) (fun _ => ?_)
  refine Kp_look C_t0 hT (by omega) ?_
  refine Ok_ife (Nat.lt_trans (lo_lt (C_t0.tk hT) _) (by decide)) (by decide) (fun q => ?_) (fun q => absurd hk0 q)
  refine Ok_ifz (show y4 < 2147483648 from by omega) (fun q1 => ?_) (fun q1 => ?_)
  · refine Kp_error C_t0 (by omega) (fun t2 C_t2 X_t2 a_t2 b_t2 d_t2 w_t2 u_t2 v_t2 j_t2 l_t2 => ?_)
    have wb_t2 := w_t2.2
    have w_t2 := Nat.pos_of_ne_zero w_t2.1
    have e_t2 := C_t2.2.2.2.1
    have I_n_t2 := I_n_t0.flat X_t2
    have f_n_t2 := f_n_t0.ex I_n_t0 (X_t2 0)
    have u_n_t2 := u_n_t0.ex I_n_t0 (X_t2 0)
    exact Or.inl ⟨Nat.ne_of_gt (show 0 < m_wr t2 from by omega), by omega, by omega, C_t2.2.2.2.2.2, by omega⟩
  · refine Ok_ck (show t < 2147483648 from by omega) ?_
    refine Ok_ifz (f6_has _ _) (fun q3 => ?_) (fun q3 => ?_)
    · refine Ok_ck (show ((m_la t0 n - 1)) < 65536 from by omega) ?_
      refine Kp_wh C_t0 (by decide) (by decide) (by decide) (by decide) (fun t4 C_t4 X_t4 a_t4 b_t4 d_t4 w_t4 u_t4 v_t4 j_t4 l_t4 => ?_)
      have e_t4 := C_t4.2.2.2.1
      have I_n_t4 := I_n_t0.flat X_t4
      have f_n_t4 := f_n_t0.ex I_n_t0 (X_t4 0)
      have u_n_t4 := u_n_t0.ex I_n_t0 (X_t4 0)
      refine Ok_bnc ?_
      try unfold b_X6_define
      refine Ok_bnc ?_
      try unfold b_X6_ranges
      refine Ok_ck (show t < 2147483648 from by omega) ?_
      refine Ok_ifz (f6_has _ _) (fun q => ?_) (fun q => absurd hk1 q)
      refine Ok_ret (show Ok _ _ _ from ?_)
      refine Ok_ifz0 ?_
      refine Kp_wrap C_t4 I_n_t4.1 I_n_t4.2.1 f_n_t4 I_n_t4.2.2.1 (by omega) (by omega) (by decide) (fun t7 C_t7 X_t7 a_t7 b_t7 d_t7 w_t7 u_t7 v_t7 j_t7 l_t7 => ?_)
      have e_t7 := C_t7.2.2.2.1
      rw [a_t4] at a_t7
      rw [b_t4] at b_t7
      rw [d_t4] at d_t7
      rw [w_t4] at w_t7
      rw [u_t4] at u_t7
      rw [v_t4] at v_t7
      clear d_t4 w_t4 u_t4 v_t4 e_t4 a_t4
      have I_n_t7 := I_n_t4.le X_t7 (by omega)
      have f_n_t7 := f_n_t4.ex I_n_t4 (X_t7 0 (Nat.zero_le _))
      have u_n_t7 := u_n_t4.ex I_n_t4 (X_t7 0 (Nat.zero_le _))
      have I_m_mdt4_t7 : Nq t7 (m_md t4) := Nq.wrn j_t7 (by omega) I_n_t4 (by decide)
      have f_m_mdt4_t7 : Fz t7 (m_md t4) := by unfold Fz; rw [j_t7.2.1]; exact j_t7.2.2.1
      have la_n_t7 : m_la t7 n = (m_md t4) + 1 := j_t7.2.2.2.2.2.2.2.1
      have wl_n_t7 : m_wh t7 (m_md t4) = 56 := j_t7.1
      have z_t8 : m_at t7 < m_ct t7 := lo_ne (Nat.ne_of_gt (show 0 < lo t7 (m_at t7) from by omega))
      refine Kp_at C_t7 (fun t8 C_t8 X_t8 a_t8 b_t8 d_t8 w_t8 u_t8 v_t8 j_t8 l_t8 => ?_)
      have e_t8 := C_t8.2.2.2.1
      rw [a_t7] at a_t8
      rw [b_t7] at b_t8
      rw [d_t7] at d_t8
      rw [w_t7] at w_t8
      rw [u_t7] at u_t8
      rw [v_t7] at v_t8
      rw [a_t7, e_t7] at z_t8
      clear d_t7 w_t7 u_t7 v_t7 e_t7 a_t7 b_t7
      have I_n_t8 := I_n_t7.flat X_t8
      have f_n_t8 := f_n_t7.ex I_n_t7 (X_t8 0)
      have u_n_t8 := u_n_t7.ex I_n_t7 (X_t8 0)
      have I_m_mdt4_t8 := I_m_mdt4_t7.flat X_t8
      have f_m_mdt4_t8 := f_m_mdt4_t7.ex I_m_mdt4_t7 (X_t8 0)
      have la_n_t8 : m_la t8 n = (m_md t4) + 1 := by rw [j_t8.2.2.1]; exact la_n_t7
      have wl_n_t8 : m_wh t8 ((m_md t4)) = 56 := by rw [j_t8.1]; exact wl_n_t7
      clear la_n_t7 wl_n_t7
      refine Ok_ck (show t < 2147483648 from by omega) ?_
      refine Ok_ifz (f6_has _ _) (fun q => ?_) (fun q => absurd hk2 q)
      refine Ok_ck (show t < 2147483648 from by omega) ?_
      refine Ok_ifz (f6_has _ _) (fun q => absurd q hk3) (fun q => ?_)
      refine Kp_child C_t8 I_m_mdt4_t8.1 I_m_mdt4_t8.2.1 I_m_mdt4_t8.2.2.1 (by omega) (by omega) (by decide) (by decide) (fun t9 C_t9 X_t9 a_t9 b_t9 d_t9 w_t9 u_t9 v_t9 j_t9 l_t9 => ?_)
      have e_t9 := C_t9.2.2.2.1
      rw [a_t8] at a_t9
      rw [b_t8] at b_t9
      rw [d_t8] at d_t9
      rw [w_t8] at w_t9
      rw [u_t8] at u_t9
      rw [v_t8] at v_t9
      clear d_t8 w_t8 u_t8 v_t8 e_t8 a_t8
      have I_n_t9 := I_n_t8.chd X_t9 j_t9
      have f_n_t9 := f_n_t8.ex I_n_t8 (X_t9 0 (Nat.zero_le _))
      have u_n_t9 := u_n_t8.ex I_n_t8 (X_t9 0 (Nat.zero_le _))
      have I_m_mdt4_t9 := I_m_mdt4_t8.chd X_t9 j_t9
      have f_m_mdt4_t9 := f_m_mdt4_t8.ex I_m_mdt4_t8 (X_t9 0 (Nat.zero_le _))
      have la_n_t9 : m_la t9 n = (m_md t4) + 1 := by rw [(j_t9.2.2.2.2.2.2.2.1 n I_n_t8.1 (by omega)).1]; exact la_n_t8
      have wl_n_t9 : m_wh t9 ((m_md t4)) = 56 := by rw [(j_t9.2.2.2.2.2.2.1 ((m_md t4)) (by omega)).2]; exact wl_n_t8
      clear la_n_t8 wl_n_t8
      have f_m_mdt4_t9 : Fz t9 (m_md t4) := j_t9.2.2.2.2.1
      have I_m_mdt8_t9 : Nq t9 (m_md t8) := Nq.chn j_t9 (by omega) I_m_mdt4_t8 (by decide)
      have u_m_mdt8_t9 : Up t9 (m_md t8) := Or.inl j_t9.2.1
      have la_m_mdt4_t9 : m_la t9 (m_md t4) = (m_md t8) + 1 := j_t9.2.2.2.2.2.1
      have wl_m_mdt4_t9 : m_wh t9 (m_md t8) = 13 := j_t9.1
      refine Kp_push C_t9 (by omega) (fun t10 C_t10 X_t10 a_t10 b_t10 d_t10 w_t10 u_t10 v_t10 j_t10 l_t10 => ?_)
      have e_t10 := C_t10.2.2.2.1
      rw [a_t9] at a_t10
      rw [b_t9] at b_t10
      rw [d_t9] at d_t10
      rw [w_t9] at w_t10
      rw [u_t9] at u_t10
      rw [v_t9] at v_t10
      clear d_t9 w_t9 u_t9 v_t9 e_t9 a_t9 b_t9
      have I_n_t10 := I_n_t9.flat X_t10
      have f_n_t10 := f_n_t9.ex I_n_t9 (X_t10 0)
      have u_n_t10 := u_n_t9.ex I_n_t9 (X_t10 0)
      have I_m_mdt4_t10 := I_m_mdt4_t9.flat X_t10
      have f_m_mdt4_t10 := f_m_mdt4_t9.ex I_m_mdt4_t9 (X_t10 0)
      have I_m_mdt8_t10 := I_m_mdt8_t9.flat X_t10
      have u_m_mdt8_t10 := u_m_mdt8_t9.ex I_m_mdt8_t9 (X_t10 0)
      have la_n_t10 : m_la t10 n = (m_md t4) + 1 := by rw [j_t10.2.2.1]; exact la_n_t9
      have wl_n_t10 : m_wh t10 ((m_md t4)) = 56 := by rw [j_t10.1]; exact wl_n_t9
      clear la_n_t9 wl_n_t9
      have la_m_mdt4_t10 : m_la t10 (m_md t4) = (m_md t8) + 1 := by rw [j_t10.2.2.1]; exact la_m_mdt4_t9
      have wl_m_mdt4_t10 : m_wh t10 ((m_md t8)) = 13 := by rw [j_t10.1]; exact wl_m_mdt4_t9
      clear la_m_mdt4_t9 wl_m_mdt4_t9
      refine Ok_bnc ?_
      try unfold b_X6_operand
      refine Kp_look C_t10 hT (by omega) ?_
      refine Ok_ifl (by decide) (Nat.lt_trans (lo_lt (C_t10.tk hT) _) (by decide)) (fun q12 => ?_) (fun q12 => ?_)
      · refine Ok_ifl (by decide) (Nat.lt_trans (lo_lt (C_t10.tk hT) _) (by decide)) (fun q13 => ?_) (fun q13 => ?_)
        · refine Ok_ife (Nat.lt_trans (lo_lt (C_t10.tk hT) _) (by decide)) (by decide) (fun q14 => ?_) (fun q14 => ?_)
          · refine Ok_bnc ?_
            try unfold b_X6_name
            refine Kp_look C_t10 hT (by omega) ?_
            refine Ok_ife (Nat.lt_trans (lo_lt (C_t10.tk hT) _) (by decide)) (by decide) (fun q => ?_) (fun q => absurd q14 q)
            refine Kp_child C_t10 I_m_mdt8_t10.1 I_m_mdt8_t10.2.1 I_m_mdt8_t10.2.2.1 (by omega) (by omega) (by decide) (by decide) (fun t16 C_t16 X_t16 a_t16 b_t16 d_t16 w_t16 u_t16 v_t16 j_t16 l_t16 => ?_)
            have e_t16 := C_t16.2.2.2.1
            rw [a_t10] at a_t16
            rw [b_t10] at b_t16
            rw [d_t10] at d_t16
            rw [w_t10] at w_t16
            rw [u_t10] at u_t16
            rw [v_t10] at v_t16
            clear d_t10 w_t10 u_t10 v_t10 e_t10 a_t10
            have I_n_t16 := I_n_t10.chd X_t16 j_t16
            have f_n_t16 := f_n_t10.ex I_n_t10 (X_t16 0 (Nat.zero_le _))
            have u_n_t16 := u_n_t10.ex I_n_t10 (X_t16 0 (Nat.zero_le _))
            have I_m_mdt4_t16 := I_m_mdt4_t10.chd X_t16 j_t16
            have f_m_mdt4_t16 := f_m_mdt4_t10.ex I_m_mdt4_t10 (X_t16 0 (Nat.zero_le _))
            have I_m_mdt8_t16 := I_m_mdt8_t10.chd X_t16 j_t16
            have u_m_mdt8_t16 := u_m_mdt8_t10.ex I_m_mdt8_t10 (X_t16 0 (Nat.zero_le _))
            have la_n_t16 : m_la t16 n = (m_md t4) + 1 := by rw [(j_t16.2.2.2.2.2.2.2.1 n I_n_t10.1 (by omega)).1]; exact la_n_t10
            have wl_n_t16 : m_wh t16 ((m_md t4)) = 56 := by rw [(j_t16.2.2.2.2.2.2.1 ((m_md t4)) (by omega)).2]; exact wl_n_t10
            clear la_n_t10 wl_n_t10
            have la_m_mdt4_t16 : m_la t16 (m_md t4) = (m_md t8) + 1 := by rw [(j_t16.2.2.2.2.2.2.2.1 (m_md t4) I_m_mdt4_t10.1 (by omega)).1]; exact la_m_mdt4_t10
            have wl_m_mdt4_t16 : m_wh t16 ((m_md t8)) = 13 := by rw [(j_t16.2.2.2.2.2.2.1 ((m_md t8)) (by omega)).2]; exact wl_m_mdt4_t10
            clear la_m_mdt4_t10 wl_m_mdt4_t10
            have f_m_mdt8_t16 : Fz t16 (m_md t8) := j_t16.2.2.2.2.1
            have I_m_mdt10_t16 : Nq t16 (m_md t10) := Nq.chn j_t16 (by omega) I_m_mdt8_t10 (by decide)
            have u_m_mdt10_t16 : Up t16 (m_md t10) := Or.inl j_t16.2.1
            have la_m_mdt8_t16 : m_la t16 (m_md t8) = (m_md t10) + 1 := j_t16.2.2.2.2.2.1
            have wl_m_mdt8_t16 : m_wh t16 (m_md t10) = 5 := j_t16.1
            have z_t17 : m_at t16 < m_ct t16 := lo_ne (Nat.ne_of_gt (show 0 < lo t16 (m_at t16) from by omega))
            refine Kp_at C_t16 (fun t17 C_t17 X_t17 a_t17 b_t17 d_t17 w_t17 u_t17 v_t17 j_t17 l_t17 => ?_)
            have e_t17 := C_t17.2.2.2.1
            rw [a_t16] at a_t17
            rw [b_t16] at b_t17
            rw [d_t16] at d_t17
            rw [w_t16] at w_t17
            rw [u_t16] at u_t17
            rw [v_t16] at v_t17
            rw [a_t16, e_t16] at z_t17
            clear z_t8
            clear d_t16 w_t16 u_t16 v_t16 e_t16 a_t16 b_t16
            have I_n_t17 := I_n_t16.flat X_t17
            have f_n_t17 := f_n_t16.ex I_n_t16 (X_t17 0)
            have u_n_t17 := u_n_t16.ex I_n_t16 (X_t17 0)
            have I_m_mdt4_t17 := I_m_mdt4_t16.flat X_t17
            have f_m_mdt4_t17 := f_m_mdt4_t16.ex I_m_mdt4_t16 (X_t17 0)
            have I_m_mdt8_t17 := I_m_mdt8_t16.flat X_t17
            have f_m_mdt8_t17 := f_m_mdt8_t16.ex I_m_mdt8_t16 (X_t17 0)
            have u_m_mdt8_t17 := u_m_mdt8_t16.ex I_m_mdt8_t16 (X_t17 0)
            have I_m_mdt10_t17 := I_m_mdt10_t16.flat X_t17
            have u_m_mdt10_t17 := u_m_mdt10_t16.ex I_m_mdt10_t16 (X_t17 0)
            have la_n_t17 : m_la t17 n = (m_md t4) + 1 := by rw [j_t17.2.2.1]; exact la_n_t16
            have wl_n_t17 : m_wh t17 ((m_md t4)) = 56 := by rw [j_t17.1]; exact wl_n_t16
            clear la_n_t16 wl_n_t16
            have la_m_mdt4_t17 : m_la t17 (m_md t4) = (m_md t8) + 1 := by rw [j_t17.2.2.1]; exact la_m_mdt4_t16
            have wl_m_mdt4_t17 : m_wh t17 ((m_md t8)) = 13 := by rw [j_t17.1]; exact wl_m_mdt4_t16
            clear la_m_mdt4_t16 wl_m_mdt4_t16
            have la_m_mdt8_t17 : m_la t17 (m_md t8) = (m_md t10) + 1 := by rw [j_t17.2.2.1]; exact la_m_mdt8_t16
            have wl_m_mdt8_t17 : m_wh t17 ((m_md t10)) = 5 := by rw [j_t17.1]; exact wl_m_mdt8_t16
            clear la_m_mdt8_t16 wl_m_mdt8_t16
            refine Ok_ret (show Ok _ _ _ from ?_)
            refine Kp_push C_t17 (by omega) (fun t18 C_t18 X_t18 a_t18 b_t18 d_t18 w_t18 u_t18 v_t18 j_t18 l_t18 => ?_)
            have e_t18 := C_t18.2.2.2.1
            rw [a_t17] at a_t18
            rw [b_t17] at b_t18
            rw [d_t17] at d_t18
            rw [w_t17] at w_t18
            rw [u_t17] at u_t18
            rw [v_t17] at v_t18
            clear d_t17 w_t17 u_t17 v_t17 e_t17 a_t17 b_t17
            have I_n_t18 := I_n_t17.flat X_t18
            have f_n_t18 := f_n_t17.ex I_n_t17 (X_t18 0)
            have u_n_t18 := u_n_t17.ex I_n_t17 (X_t18 0)
            have I_m_mdt4_t18 := I_m_mdt4_t17.flat X_t18
            have f_m_mdt4_t18 := f_m_mdt4_t17.ex I_m_mdt4_t17 (X_t18 0)
            have I_m_mdt8_t18 := I_m_mdt8_t17.flat X_t18
            have f_m_mdt8_t18 := f_m_mdt8_t17.ex I_m_mdt8_t17 (X_t18 0)
            have u_m_mdt8_t18 := u_m_mdt8_t17.ex I_m_mdt8_t17 (X_t18 0)
            have I_m_mdt10_t18 := I_m_mdt10_t17.flat X_t18
            have u_m_mdt10_t18 := u_m_mdt10_t17.ex I_m_mdt10_t17 (X_t18 0)
            have la_n_t18 : m_la t18 n = (m_md t4) + 1 := by rw [j_t18.2.2.1]; exact la_n_t17
            have wl_n_t18 : m_wh t18 ((m_md t4)) = 56 := by rw [j_t18.1]; exact wl_n_t17
            clear la_n_t17 wl_n_t17
            have la_m_mdt4_t18 : m_la t18 (m_md t4) = (m_md t8) + 1 := by rw [j_t18.2.2.1]; exact la_m_mdt4_t17
            have wl_m_mdt4_t18 : m_wh t18 ((m_md t8)) = 13 := by rw [j_t18.1]; exact wl_m_mdt4_t17
            clear la_m_mdt4_t17 wl_m_mdt4_t17
            have la_m_mdt8_t18 : m_la t18 (m_md t8) = (m_md t10) + 1 := by rw [j_t18.2.2.1]; exact la_m_mdt8_t17
            have wl_m_mdt8_t18 : m_wh t18 ((m_md t10)) = 5 := by rw [j_t18.1]; exact wl_m_mdt8_t17
            clear la_m_mdt8_t17 wl_m_mdt8_t17
            refine Ok_ret (show Ok _ _ _ from ?_)
            refine Ok_ret (show Ok _ _ _ from ?_)
            refine Hv_mk (Kv_c (x := (5, m_md t8, 3)) rfl (Kv_c (x := (4, m_md t8, 3)) rfl hK)) (C_t18.1.2.2.2.2.2.2 hTt) C_t18 hT (by omega) (by omega) (by omega) ?_ ?_ ?_ (by omega) ?_ ?_ ?_
            · exact ⟨(Io_n (by decide) (by decide) I_m_mdt8_t18.1 I_m_mdt8_t18.2.1 I_m_mdt8_t18.2.2.1 (fun q => absurd q (by decide)) (fun q => absurd q (by decide)) I_m_mdt8_t18.2.2.2), (Nd_5 Mo_nil (Or.inr (N5_mk f_m_mdt8_t18 (Ab_none rfl) la_m_mdt8_t18 wl_m_mdt8_t18 (Or.inl (by decide))))), ⟨(Io_n (by decide) (by decide) I_m_mdt8_t18.1 I_m_mdt8_t18.2.1 I_m_mdt8_t18.2.2.1 (fun q => absurd q (by decide)) (fun q => absurd q (by decide)) I_m_mdt8_t18.2.2.2), (Nd_A (by decide) (Mo_cons (fun q => show m_md t8 ≤ m_md t8 from by omega) Mo_nil) (Or.inl f_m_mdt8_t18)), Stk_step (N := n) (pop := (43, n, t)) (new := [(4, m_md t8, 3), (5, m_md t8, 3)]) F0 C_t18.1.to2 (fun (h : nk 43 = false) => absurd h (by decide)) (fun q _ h => h (43, n, t) rfl) (fun _ => rfl) (fun y hy hk => ⟨rfl, (Mo_cons (fun q => show n ≤ m_md t8 from by omega) (Mo_cons (fun q => show n ≤ m_md t8 from by omega) Mo_nil)) y hy hk⟩) (fun (h : 43 = 3 ∨ 43 = 18 ∨ 43 = 41) => absurd h (by decide)) (fun (h : 43 = 18) => absurd h (by decide)) (fun _ h16 => (Or.inr ⟨f_n_t18, (Ab_some (y := (4, m_md t8, 3)) rfl (show n < m_md t8 from by omega)), H50_no la_n_t18 wl_n_t18 (by decide)⟩)) r [] (fun y hy => absurd hy List.not_mem_nil) hS⟩⟩
            · exact (Aj_up (x := (5, m_md t8, 3)) (Aj_sub (y := (4, m_md t8, 3)) hJ (Nat.le_of_ble_eq_true rfl)) (Or.inr (Nat.le_of_ble_eq_true rfl)))
            · show m_dp t18 = (dlt 5 + (dlt 4 + sD r))
              have : dlt 4 = 0 := rfl; have : dlt 43 = 0 := rfl; have : dlt 5 = 0 := rfl; omega
            · show m_rw t18 = (rho 5 + (rho 4 + sR r))
              have : rho 4 = 0 := rfl; have : rho 43 = 0 := rfl; have : rho 5 = 0 := rfl; omega
            · show m_md t18 + (mu7 5 + (mu7 4 + sM r)) ≤ 3 * m_at t18 + 7 * (r.length + 1 + 1) + 10
              have : mu7 4 = 7 := rfl; have : mu7 43 = 4 := rfl; have : mu7 5 = 7 := rfl; omega
            · show (wt 5 + (wt 4 + sW r)) + 6 * (4096 - m_at t18) + 4 * (600 - (r.length + 1 + 1)) < (wt 43 + sW r) + 6 * (4096 - m_at t0) + 4 * (600 - (r.length + 1))
              have : wt 4 = 5 := rfl; have : wt 43 = 0 := rfl; have : wt 5 = 5 := rfl; omega
          · refine Ok_ife (Nat.lt_trans (lo_lt (C_t10.tk hT) _) (by decide)) (by decide) (fun q19 => ?_) (fun q19 => ?_)
            · refine Kp_child C_t10 I_m_mdt8_t10.1 I_m_mdt8_t10.2.1 I_m_mdt8_t10.2.2.1 (by omega) (by omega) (by decide) (by decide) (fun t20 C_t20 X_t20 a_t20 b_t20 d_t20 w_t20 u_t20 v_t20 j_t20 l_t20 => ?_)
              have e_t20 := C_t20.2.2.2.1
              rw [a_t10] at a_t20
              rw [b_t10] at b_t20
              rw [d_t10] at d_t20
              rw [w_t10] at w_t20
              rw [u_t10] at u_t20
              rw [v_t10] at v_t20
              clear d_t10 w_t10 u_t10 v_t10 e_t10 a_t10
              have I_n_t20 := I_n_t10.chd X_t20 j_t20
              have f_n_t20 := f_n_t10.ex I_n_t10 (X_t20 0 (Nat.zero_le _))
              have u_n_t20 := u_n_t10.ex I_n_t10 (X_t20 0 (Nat.zero_le _))
              have I_m_mdt4_t20 := I_m_mdt4_t10.chd X_t20 j_t20
              have f_m_mdt4_t20 := f_m_mdt4_t10.ex I_m_mdt4_t10 (X_t20 0 (Nat.zero_le _))
              have I_m_mdt8_t20 := I_m_mdt8_t10.chd X_t20 j_t20
              have u_m_mdt8_t20 := u_m_mdt8_t10.ex I_m_mdt8_t10 (X_t20 0 (Nat.zero_le _))
              have la_n_t20 : m_la t20 n = (m_md t4) + 1 := by rw [(j_t20.2.2.2.2.2.2.2.1 n I_n_t10.1 (by omega)).1]; exact la_n_t10
              have wl_n_t20 : m_wh t20 ((m_md t4)) = 56 := by rw [(j_t20.2.2.2.2.2.2.1 ((m_md t4)) (by omega)).2]; exact wl_n_t10
              clear la_n_t10 wl_n_t10
              have la_m_mdt4_t20 : m_la t20 (m_md t4) = (m_md t8) + 1 := by rw [(j_t20.2.2.2.2.2.2.2.1 (m_md t4) I_m_mdt4_t10.1 (by omega)).1]; exact la_m_mdt4_t10
              have wl_m_mdt4_t20 : m_wh t20 ((m_md t8)) = 13 := by rw [(j_t20.2.2.2.2.2.2.1 ((m_md t8)) (by omega)).2]; exact wl_m_mdt4_t10
              clear la_m_mdt4_t10 wl_m_mdt4_t10
              have f_m_mdt8_t20 : Fz t20 (m_md t8) := j_t20.2.2.2.2.1
              have I_m_mdt10_t20 : Nq t20 (m_md t10) := Nq.chn j_t20 (by omega) I_m_mdt8_t10 (by decide)
              have u_m_mdt10_t20 : Up t20 (m_md t10) := Or.inl j_t20.2.1
              have la_m_mdt8_t20 : m_la t20 (m_md t8) = (m_md t10) + 1 := j_t20.2.2.2.2.2.1
              have wl_m_mdt8_t20 : m_wh t20 (m_md t10) = 89 := j_t20.1
              refine Kp_more C_t20 (by omega) (by omega) (fun t21 C_t21 X_t21 a_t21 b_t21 d_t21 w_t21 u_t21 v_t21 j_t21 l_t21 => ?_)
              have e_t21 := C_t21.2.2.2.1
              rcases w_t21 with ⟨w_t21, y_t21⟩ | ⟨w_t21, wb_t21⟩
              · rw [a_t20] at a_t21
                rw [b_t20] at b_t21
                rw [d_t20] at d_t21
                rw [w_t20] at w_t21
                rw [u_t20] at u_t21
                rw [v_t20] at v_t21
                rw [d_t21] at y_t21
                clear d_t20 w_t20 u_t20 v_t20 e_t20 a_t20 b_t20
                have I_n_t21 := I_n_t20.flat X_t21
                have f_n_t21 := f_n_t20.ex I_n_t20 (X_t21 0)
                have u_n_t21 := u_n_t20.ex I_n_t20 (X_t21 0)
                have I_m_mdt4_t21 := I_m_mdt4_t20.flat X_t21
                have f_m_mdt4_t21 := f_m_mdt4_t20.ex I_m_mdt4_t20 (X_t21 0)
                have I_m_mdt8_t21 := I_m_mdt8_t20.flat X_t21
                have f_m_mdt8_t21 := f_m_mdt8_t20.ex I_m_mdt8_t20 (X_t21 0)
                have u_m_mdt8_t21 := u_m_mdt8_t20.ex I_m_mdt8_t20 (X_t21 0)
                have I_m_mdt10_t21 := I_m_mdt10_t20.flat X_t21
                have u_m_mdt10_t21 := u_m_mdt10_t20.ex I_m_mdt10_t20 (X_t21 0)
                have la_n_t21 : m_la t21 n = (m_md t4) + 1 := by rw [j_t21.2.2.1]; exact la_n_t20
                have wl_n_t21 : m_wh t21 ((m_md t4)) = 56 := by rw [j_t21.1]; exact wl_n_t20
                clear la_n_t20 wl_n_t20
                have la_m_mdt4_t21 : m_la t21 (m_md t4) = (m_md t8) + 1 := by rw [j_t21.2.2.1]; exact la_m_mdt4_t20
                have wl_m_mdt4_t21 : m_wh t21 ((m_md t8)) = 13 := by rw [j_t21.1]; exact wl_m_mdt4_t20
                clear la_m_mdt4_t20 wl_m_mdt4_t20
                have la_m_mdt8_t21 : m_la t21 (m_md t8) = (m_md t10) + 1 := by rw [j_t21.2.2.1]; exact la_m_mdt8_t20
                have wl_m_mdt8_t21 : m_wh t21 ((m_md t10)) = 89 := by rw [j_t21.1]; exact wl_m_mdt8_t20
                clear la_m_mdt8_t20 wl_m_mdt8_t20
                have z_t22 : m_at t21 < m_ct t21 := lo_ne (Nat.ne_of_gt (show 0 < lo t21 (m_at t21) from by omega))
                refine Kp_at C_t21 (fun t22 C_t22 X_t22 a_t22 b_t22 d_t22 w_t22 u_t22 v_t22 j_t22 l_t22 => ?_)
                have e_t22 := C_t22.2.2.2.1
                rw [a_t21] at a_t22
                rw [b_t21] at b_t22
                rw [d_t21] at d_t22
                rw [w_t21] at w_t22
                rw [u_t21] at u_t22
                rw [v_t21] at v_t22
                rw [a_t21, e_t21] at z_t22
                clear z_t8
                clear d_t21 w_t21 u_t21 v_t21 e_t21 a_t21 b_t21
                have I_n_t22 := I_n_t21.flat X_t22
                have f_n_t22 := f_n_t21.ex I_n_t21 (X_t22 0)
                have u_n_t22 := u_n_t21.ex I_n_t21 (X_t22 0)
                have I_m_mdt4_t22 := I_m_mdt4_t21.flat X_t22
                have f_m_mdt4_t22 := f_m_mdt4_t21.ex I_m_mdt4_t21 (X_t22 0)
                have I_m_mdt8_t22 := I_m_mdt8_t21.flat X_t22
                have f_m_mdt8_t22 := f_m_mdt8_t21.ex I_m_mdt8_t21 (X_t22 0)
                have u_m_mdt8_t22 := u_m_mdt8_t21.ex I_m_mdt8_t21 (X_t22 0)
                have I_m_mdt10_t22 := I_m_mdt10_t21.flat X_t22
                have u_m_mdt10_t22 := u_m_mdt10_t21.ex I_m_mdt10_t21 (X_t22 0)
                have la_n_t22 : m_la t22 n = (m_md t4) + 1 := by rw [j_t22.2.2.1]; exact la_n_t21
                have wl_n_t22 : m_wh t22 ((m_md t4)) = 56 := by rw [j_t22.1]; exact wl_n_t21
                clear la_n_t21 wl_n_t21
                have la_m_mdt4_t22 : m_la t22 (m_md t4) = (m_md t8) + 1 := by rw [j_t22.2.2.1]; exact la_m_mdt4_t21
                have wl_m_mdt4_t22 : m_wh t22 ((m_md t8)) = 13 := by rw [j_t22.1]; exact wl_m_mdt4_t21
                clear la_m_mdt4_t21 wl_m_mdt4_t21
                have la_m_mdt8_t22 : m_la t22 (m_md t8) = (m_md t10) + 1 := by rw [j_t22.2.2.1]; exact la_m_mdt8_t21
                have wl_m_mdt8_t22 : m_wh t22 ((m_md t10)) = 89 := by rw [j_t22.1]; exact wl_m_mdt8_t21
                clear la_m_mdt8_t21 wl_m_mdt8_t21
                refine Kp_push C_t22 (by omega) (fun t23 C_t23 X_t23 a_t23 b_t23 d_t23 w_t23 u_t23 v_t23 j_t23 l_t23 => ?_)
                have e_t23 := C_t23.2.2.2.1
                rw [a_t22] at a_t23
                rw [b_t22] at b_t23
                rw [d_t22] at d_t23
                rw [w_t22] at w_t23
                rw [u_t22] at u_t23
                rw [v_t22] at v_t23
                clear d_t22 w_t22 u_t22 v_t22 e_t22 a_t22 b_t22
                have I_n_t23 := I_n_t22.flat X_t23
                have f_n_t23 := f_n_t22.ex I_n_t22 (X_t23 0)
                have u_n_t23 := u_n_t22.ex I_n_t22 (X_t23 0)
                have I_m_mdt4_t23 := I_m_mdt4_t22.flat X_t23
                have f_m_mdt4_t23 := f_m_mdt4_t22.ex I_m_mdt4_t22 (X_t23 0)
                have I_m_mdt8_t23 := I_m_mdt8_t22.flat X_t23
                have f_m_mdt8_t23 := f_m_mdt8_t22.ex I_m_mdt8_t22 (X_t23 0)
                have u_m_mdt8_t23 := u_m_mdt8_t22.ex I_m_mdt8_t22 (X_t23 0)
                have I_m_mdt10_t23 := I_m_mdt10_t22.flat X_t23
                have u_m_mdt10_t23 := u_m_mdt10_t22.ex I_m_mdt10_t22 (X_t23 0)
                have la_n_t23 : m_la t23 n = (m_md t4) + 1 := by rw [j_t23.2.2.1]; exact la_n_t22
                have wl_n_t23 : m_wh t23 ((m_md t4)) = 56 := by rw [j_t23.1]; exact wl_n_t22
                clear la_n_t22 wl_n_t22
                have la_m_mdt4_t23 : m_la t23 (m_md t4) = (m_md t8) + 1 := by rw [j_t23.2.2.1]; exact la_m_mdt4_t22
                have wl_m_mdt4_t23 : m_wh t23 ((m_md t8)) = 13 := by rw [j_t23.1]; exact wl_m_mdt4_t22
                clear la_m_mdt4_t22 wl_m_mdt4_t22
                have la_m_mdt8_t23 : m_la t23 (m_md t8) = (m_md t10) + 1 := by rw [j_t23.2.2.1]; exact la_m_mdt8_t22
                have wl_m_mdt8_t23 : m_wh t23 ((m_md t10)) = 89 := by rw [j_t23.1]; exact wl_m_mdt8_t22
                clear la_m_mdt8_t22 wl_m_mdt8_t22
                refine Ok_bnc ?_
                try unfold b_X6_expression
                refine Kp_push C_t23 (by omega) (fun t25 C_t25 X_t25 a_t25 b_t25 d_t25 w_t25 u_t25 v_t25 j_t25 l_t25 => ?_)
                have e_t25 := C_t25.2.2.2.1
                rw [a_t23] at a_t25
                rw [b_t23] at b_t25
                rw [d_t23] at d_t25
                rw [w_t23] at w_t25
                rw [u_t23] at u_t25
                rw [v_t23] at v_t25
                clear d_t23 w_t23 u_t23 v_t23 e_t23 a_t23 b_t23
                have I_n_t25 := I_n_t23.flat X_t25
                have f_n_t25 := f_n_t23.ex I_n_t23 (X_t25 0)
                have u_n_t25 := u_n_t23.ex I_n_t23 (X_t25 0)
                have I_m_mdt4_t25 := I_m_mdt4_t23.flat X_t25
                have f_m_mdt4_t25 := f_m_mdt4_t23.ex I_m_mdt4_t23 (X_t25 0)
                have I_m_mdt8_t25 := I_m_mdt8_t23.flat X_t25
                have f_m_mdt8_t25 := f_m_mdt8_t23.ex I_m_mdt8_t23 (X_t25 0)
                have u_m_mdt8_t25 := u_m_mdt8_t23.ex I_m_mdt8_t23 (X_t25 0)
                have I_m_mdt10_t25 := I_m_mdt10_t23.flat X_t25
                have u_m_mdt10_t25 := u_m_mdt10_t23.ex I_m_mdt10_t23 (X_t25 0)
                have la_n_t25 : m_la t25 n = (m_md t4) + 1 := by rw [j_t25.2.2.1]; exact la_n_t23
                have wl_n_t25 : m_wh t25 ((m_md t4)) = 56 := by rw [j_t25.1]; exact wl_n_t23
                clear la_n_t23 wl_n_t23
                have la_m_mdt4_t25 : m_la t25 (m_md t4) = (m_md t8) + 1 := by rw [j_t25.2.2.1]; exact la_m_mdt4_t23
                have wl_m_mdt4_t25 : m_wh t25 ((m_md t8)) = 13 := by rw [j_t25.1]; exact wl_m_mdt4_t23
                clear la_m_mdt4_t23 wl_m_mdt4_t23
                have la_m_mdt8_t25 : m_la t25 (m_md t8) = (m_md t10) + 1 := by rw [j_t25.2.2.1]; exact la_m_mdt8_t23
                have wl_m_mdt8_t25 : m_wh t25 ((m_md t10)) = 89 := by rw [j_t25.1]; exact wl_m_mdt8_t23
                clear la_m_mdt8_t23 wl_m_mdt8_t23
                refine Kp_push C_t25 (by omega) (fun t26 C_t26 X_t26 a_t26 b_t26 d_t26 w_t26 u_t26 v_t26 j_t26 l_t26 => ?_)
                have e_t26 := C_t26.2.2.2.1
                rw [a_t25] at a_t26
                rw [b_t25] at b_t26
                rw [d_t25] at d_t26
                rw [w_t25] at w_t26
                rw [u_t25] at u_t26
                rw [v_t25] at v_t26
                clear d_t25 w_t25 u_t25 v_t25 e_t25 a_t25 b_t25
                have I_n_t26 := I_n_t25.flat X_t26
                have f_n_t26 := f_n_t25.ex I_n_t25 (X_t26 0)
                have u_n_t26 := u_n_t25.ex I_n_t25 (X_t26 0)
                have I_m_mdt4_t26 := I_m_mdt4_t25.flat X_t26
                have f_m_mdt4_t26 := f_m_mdt4_t25.ex I_m_mdt4_t25 (X_t26 0)
                have I_m_mdt8_t26 := I_m_mdt8_t25.flat X_t26
                have f_m_mdt8_t26 := f_m_mdt8_t25.ex I_m_mdt8_t25 (X_t26 0)
                have u_m_mdt8_t26 := u_m_mdt8_t25.ex I_m_mdt8_t25 (X_t26 0)
                have I_m_mdt10_t26 := I_m_mdt10_t25.flat X_t26
                have u_m_mdt10_t26 := u_m_mdt10_t25.ex I_m_mdt10_t25 (X_t26 0)
                have la_n_t26 : m_la t26 n = (m_md t4) + 1 := by rw [j_t26.2.2.1]; exact la_n_t25
                have wl_n_t26 : m_wh t26 ((m_md t4)) = 56 := by rw [j_t26.1]; exact wl_n_t25
                clear la_n_t25 wl_n_t25
                have la_m_mdt4_t26 : m_la t26 (m_md t4) = (m_md t8) + 1 := by rw [j_t26.2.2.1]; exact la_m_mdt4_t25
                have wl_m_mdt4_t26 : m_wh t26 ((m_md t8)) = 13 := by rw [j_t26.1]; exact wl_m_mdt4_t25
                clear la_m_mdt4_t25 wl_m_mdt4_t25
                have la_m_mdt8_t26 : m_la t26 (m_md t8) = (m_md t10) + 1 := by rw [j_t26.2.2.1]; exact la_m_mdt8_t25
                have wl_m_mdt8_t26 : m_wh t26 ((m_md t10)) = 89 := by rw [j_t26.1]; exact wl_m_mdt8_t25
                clear la_m_mdt8_t25 wl_m_mdt8_t25
                refine Ok_ret (show Ok _ _ _ from ?_)
                refine Ok_ret (show Ok _ _ _ from ?_)
                refine Ok_ret (show Ok _ _ _ from ?_)
                refine Hv_mk (Kv_c (x := (3, m_md t10, 0)) rfl (Kv_c (x := (2, m_md t10, 0 ||| (1 * 256))) rfl (Kv_c (x := (8, 79, 0)) rfl (Kv_c (x := (4, m_md t8, 3)) rfl hK)))) (C_t26.1.2.2.2.2.2.2 hTt) C_t26 hT (by omega) (by omega) (by omega) ?_ ?_ ?_ (by omega) ?_ ?_ ?_
                · exact ⟨(Io_n (by decide) (by decide) I_m_mdt10_t26.1 I_m_mdt10_t26.2.1 I_m_mdt10_t26.2.2.1 (fun q => absurd q (by decide)) (fun q => absurd q (by decide)) I_m_mdt10_t26.2.2.2), (Nd_0 (by decide) Mo_nil), ⟨(Io_2 (by have := or_256 (b := 1) (show 0 < 256 from by omega); omega) (by have := or_256 (b := 1) (show 0 < 256 from by omega); omega) (by have := or_256 (b := 1) (show 0 < 256 from by omega); omega) I_m_mdt10_t26.1 I_m_mdt10_t26.2.1 I_m_mdt10_t26.2.2.1 I_m_mdt10_t26.2.2.2), (Nd_A (by decide) (Mo_cons (fun q => show m_md t10 ≤ m_md t10 from by omega) Mo_nil) (Or.inr ⟨(3, m_md t10, 0), List.mem_cons_self, rfl, Or.inl rfl⟩)), ⟨(Io_78 (by decide) (by decide) (by decide)), (Nd_x (by decide)), ⟨(Io_n (by decide) (by decide) I_m_mdt8_t26.1 I_m_mdt8_t26.2.1 I_m_mdt8_t26.2.2.1 (fun q => absurd q (by decide)) (fun q => absurd q (by decide)) I_m_mdt8_t26.2.2.2), (Nd_A (by decide) (Mo_cons (fun q => absurd (show nk 8 = true from q) (by decide)) (Mo_cons (fun q => show m_md t8 ≤ m_md t10 from by omega) (Mo_cons (fun q => show m_md t8 ≤ m_md t10 from by omega) Mo_nil))) (Or.inl f_m_mdt8_t26)), Stk_step (N := n) (pop := (43, n, t)) (new := [(4, m_md t8, 3), (8, 79, 0), (2, m_md t10, 0 ||| (1 * 256)), (3, m_md t10, 0)]) F0 C_t26.1.to2 (fun (h : nk 43 = false) => absurd h (by decide)) (fun q _ h => h (43, n, t) rfl) (fun _ => rfl) (fun y hy hk => ⟨rfl, (Mo_cons (fun q => show n ≤ m_md t8 from by omega) (Mo_cons (fun q => absurd (show nk 8 = true from q) (by decide)) (Mo_cons (fun q => show n ≤ m_md t10 from by omega) (Mo_cons (fun q => show n ≤ m_md t10 from by omega) Mo_nil)))) y hy hk⟩) (fun (h : 43 = 3 ∨ 43 = 18 ∨ 43 = 41) => absurd h (by decide)) (fun (h : 43 = 18) => absurd h (by decide)) (fun _ h16 => (Or.inr ⟨f_n_t26, (Ab_some (y := (4, m_md t8, 3)) rfl (show n < m_md t8 from by omega)), H50_no la_n_t26 wl_n_t26 (by decide)⟩)) r [] (fun y hy => absurd hy List.not_mem_nil) hS⟩⟩⟩⟩
                · exact (Aj_up (x := (3, m_md t10, 0)) (Aj_up (x := (2, m_md t10, 0 ||| (1 * 256))) (Aj_up (x := (8, 79, 0)) (Aj_sub (y := (4, m_md t8, 3)) hJ (Nat.le_of_ble_eq_true rfl)) (Or.inr (Nat.le_of_ble_eq_true rfl))) (Or.inl (Nat.le_of_ble_eq_true rfl))) (Or.inr (show 2 < 9 - (0 ||| (1 * 256)) / 256 from by have := or_256 (b := 1) (show 0 < 256 from by omega); omega)))
                · show m_dp t26 = (dlt 3 + (dlt 2 + (dlt 8 + (dlt 4 + sD r))))
                  have : dlt 2 = 0 := rfl; have : dlt 3 = 0 := rfl; have : dlt 4 = 0 := rfl; have : dlt 43 = 0 := rfl; have : dlt 8 = 1 := rfl; omega
                · show m_rw t26 = (rho 3 + (rho 2 + (rho 8 + (rho 4 + sR r))))
                  have : rho 2 = 0 := rfl; have : rho 3 = 0 := rfl; have : rho 4 = 0 := rfl; have : rho 43 = 0 := rfl; have : rho 8 = 0 := rfl; omega
                · show m_md t26 + (mu7 3 + (mu7 2 + (mu7 8 + (mu7 4 + sM r)))) ≤ 3 * m_at t26 + 7 * (r.length + 1 + 1 + 1 + 1) + 10
                  have : mu7 2 = 7 := rfl; have : mu7 3 = 5 := rfl; have : mu7 4 = 7 := rfl; have : mu7 43 = 4 := rfl; have : mu7 8 = 4 := rfl; omega
                · show (wt 3 + (wt 2 + (wt 8 + (wt 4 + sW r)))) + 6 * (4096 - m_at t26) + 4 * (600 - (r.length + 1 + 1 + 1 + 1)) < (wt 43 + sW r) + 6 * (4096 - m_at t0) + 4 * (600 - (r.length + 1))
                  have : wt 2 = 5 := rfl; have : wt 3 = 3 := rfl; have : wt 4 = 5 := rfl; have : wt 43 = 0 := rfl; have : wt 8 = 0 := rfl; omega
              · have w_t21 := Nat.pos_of_ne_zero w_t21
                have I_n_t21 := I_n_t20.flat X_t21
                have f_n_t21 := f_n_t20.ex I_n_t20 (X_t21 0)
                have u_n_t21 := u_n_t20.ex I_n_t20 (X_t21 0)
                have I_m_mdt4_t21 := I_m_mdt4_t20.flat X_t21
                have f_m_mdt4_t21 := f_m_mdt4_t20.ex I_m_mdt4_t20 (X_t21 0)
                have I_m_mdt8_t21 := I_m_mdt8_t20.flat X_t21
                have f_m_mdt8_t21 := f_m_mdt8_t20.ex I_m_mdt8_t20 (X_t21 0)
                have u_m_mdt8_t21 := u_m_mdt8_t20.ex I_m_mdt8_t20 (X_t21 0)
                have I_m_mdt10_t21 := I_m_mdt10_t20.flat X_t21
                have u_m_mdt10_t21 := u_m_mdt10_t20.ex I_m_mdt10_t20 (X_t21 0)
                have la_n_t21 : m_la t21 n = (m_md t4) + 1 := by rw [j_t21.2.2.1]; exact la_n_t20
                have wl_n_t21 : m_wh t21 ((m_md t4)) = 56 := by rw [j_t21.1]; exact wl_n_t20
                clear la_n_t20 wl_n_t20
                have la_m_mdt4_t21 : m_la t21 (m_md t4) = (m_md t8) + 1 := by rw [j_t21.2.2.1]; exact la_m_mdt4_t20
                have wl_m_mdt4_t21 : m_wh t21 ((m_md t8)) = 13 := by rw [j_t21.1]; exact wl_m_mdt4_t20
                clear la_m_mdt4_t20 wl_m_mdt4_t20
                have la_m_mdt8_t21 : m_la t21 (m_md t8) = (m_md t10) + 1 := by rw [j_t21.2.2.1]; exact la_m_mdt8_t20
                have wl_m_mdt8_t21 : m_wh t21 ((m_md t10)) = 89 := by rw [j_t21.1]; exact wl_m_mdt8_t20
                clear la_m_mdt8_t20 wl_m_mdt8_t20
                refine Kp_at C_t21 (fun t27 C_t27 X_t27 a_t27 b_t27 d_t27 w_t27 u_t27 v_t27 j_t27 l_t27 => ?_)
                have e_t27 := C_t27.2.2.2.1
                have I_n_t27 := I_n_t21.flat X_t27
                have f_n_t27 := f_n_t21.ex I_n_t21 (X_t27 0)
                have u_n_t27 := u_n_t21.ex I_n_t21 (X_t27 0)
                have I_m_mdt4_t27 := I_m_mdt4_t21.flat X_t27
                have f_m_mdt4_t27 := f_m_mdt4_t21.ex I_m_mdt4_t21 (X_t27 0)
                have I_m_mdt8_t27 := I_m_mdt8_t21.flat X_t27
                have f_m_mdt8_t27 := f_m_mdt8_t21.ex I_m_mdt8_t21 (X_t27 0)
                have u_m_mdt8_t27 := u_m_mdt8_t21.ex I_m_mdt8_t21 (X_t27 0)
                have I_m_mdt10_t27 := I_m_mdt10_t21.flat X_t27
                have u_m_mdt10_t27 := u_m_mdt10_t21.ex I_m_mdt10_t21 (X_t27 0)
                have la_n_t27 : m_la t27 n = (m_md t4) + 1 := by rw [j_t27.2.2.1]; exact la_n_t21
                have wl_n_t27 : m_wh t27 ((m_md t4)) = 56 := by rw [j_t27.1]; exact wl_n_t21
                clear la_n_t21 wl_n_t21
                have la_m_mdt4_t27 : m_la t27 (m_md t4) = (m_md t8) + 1 := by rw [j_t27.2.2.1]; exact la_m_mdt4_t21
                have wl_m_mdt4_t27 : m_wh t27 ((m_md t8)) = 13 := by rw [j_t27.1]; exact wl_m_mdt4_t21
                clear la_m_mdt4_t21 wl_m_mdt4_t21
                have la_m_mdt8_t27 : m_la t27 (m_md t8) = (m_md t10) + 1 := by rw [j_t27.2.2.1]; exact la_m_mdt8_t21
                have wl_m_mdt8_t27 : m_wh t27 ((m_md t10)) = 89 := by rw [j_t27.1]; exact wl_m_mdt8_t21
                clear la_m_mdt8_t21 wl_m_mdt8_t21
                refine Kp_push C_t27 (by omega) (fun t28 C_t28 X_t28 a_t28 b_t28 d_t28 w_t28 u_t28 v_t28 j_t28 l_t28 => ?_)
                have e_t28 := C_t28.2.2.2.1
                have I_n_t28 := I_n_t27.flat X_t28
                have f_n_t28 := f_n_t27.ex I_n_t27 (X_t28 0)
                have u_n_t28 := u_n_t27.ex I_n_t27 (X_t28 0)
                have I_m_mdt4_t28 := I_m_mdt4_t27.flat X_t28
                have f_m_mdt4_t28 := f_m_mdt4_t27.ex I_m_mdt4_t27 (X_t28 0)
                have I_m_mdt8_t28 := I_m_mdt8_t27.flat X_t28
                have f_m_mdt8_t28 := f_m_mdt8_t27.ex I_m_mdt8_t27 (X_t28 0)
                have u_m_mdt8_t28 := u_m_mdt8_t27.ex I_m_mdt8_t27 (X_t28 0)
                have I_m_mdt10_t28 := I_m_mdt10_t27.flat X_t28
                have u_m_mdt10_t28 := u_m_mdt10_t27.ex I_m_mdt10_t27 (X_t28 0)
                have la_n_t28 : m_la t28 n = (m_md t4) + 1 := by rw [j_t28.2.2.1]; exact la_n_t27
                have wl_n_t28 : m_wh t28 ((m_md t4)) = 56 := by rw [j_t28.1]; exact wl_n_t27
                clear la_n_t27 wl_n_t27
                have la_m_mdt4_t28 : m_la t28 (m_md t4) = (m_md t8) + 1 := by rw [j_t28.2.2.1]; exact la_m_mdt4_t27
                have wl_m_mdt4_t28 : m_wh t28 ((m_md t8)) = 13 := by rw [j_t28.1]; exact wl_m_mdt4_t27
                clear la_m_mdt4_t27 wl_m_mdt4_t27
                have la_m_mdt8_t28 : m_la t28 (m_md t8) = (m_md t10) + 1 := by rw [j_t28.2.2.1]; exact la_m_mdt8_t27
                have wl_m_mdt8_t28 : m_wh t28 ((m_md t10)) = 89 := by rw [j_t28.1]; exact wl_m_mdt8_t27
                clear la_m_mdt8_t27 wl_m_mdt8_t27
                refine Ok_bnc ?_
                try unfold b_X6_expression
                refine Kp_push C_t28 (by omega) (fun t30 C_t30 X_t30 a_t30 b_t30 d_t30 w_t30 u_t30 v_t30 j_t30 l_t30 => ?_)
                have e_t30 := C_t30.2.2.2.1
                have I_n_t30 := I_n_t28.flat X_t30
                have f_n_t30 := f_n_t28.ex I_n_t28 (X_t30 0)
                have u_n_t30 := u_n_t28.ex I_n_t28 (X_t30 0)
                have I_m_mdt4_t30 := I_m_mdt4_t28.flat X_t30
                have f_m_mdt4_t30 := f_m_mdt4_t28.ex I_m_mdt4_t28 (X_t30 0)
                have I_m_mdt8_t30 := I_m_mdt8_t28.flat X_t30
                have f_m_mdt8_t30 := f_m_mdt8_t28.ex I_m_mdt8_t28 (X_t30 0)
                have u_m_mdt8_t30 := u_m_mdt8_t28.ex I_m_mdt8_t28 (X_t30 0)
                have I_m_mdt10_t30 := I_m_mdt10_t28.flat X_t30
                have u_m_mdt10_t30 := u_m_mdt10_t28.ex I_m_mdt10_t28 (X_t30 0)
                have la_n_t30 : m_la t30 n = (m_md t4) + 1 := by rw [j_t30.2.2.1]; exact la_n_t28
                have wl_n_t30 : m_wh t30 ((m_md t4)) = 56 := by rw [j_t30.1]; exact wl_n_t28
                clear la_n_t28 wl_n_t28
                have la_m_mdt4_t30 : m_la t30 (m_md t4) = (m_md t8) + 1 := by rw [j_t30.2.2.1]; exact la_m_mdt4_t28
                have wl_m_mdt4_t30 : m_wh t30 ((m_md t8)) = 13 := by rw [j_t30.1]; exact wl_m_mdt4_t28
                clear la_m_mdt4_t28 wl_m_mdt4_t28
                have la_m_mdt8_t30 : m_la t30 (m_md t8) = (m_md t10) + 1 := by rw [j_t30.2.2.1]; exact la_m_mdt8_t28
                have wl_m_mdt8_t30 : m_wh t30 ((m_md t10)) = 89 := by rw [j_t30.1]; exact wl_m_mdt8_t28
                clear la_m_mdt8_t28 wl_m_mdt8_t28
                refine Kp_push C_t30 (by omega) (fun t31 C_t31 X_t31 a_t31 b_t31 d_t31 w_t31 u_t31 v_t31 j_t31 l_t31 => ?_)
                have e_t31 := C_t31.2.2.2.1
                have I_n_t31 := I_n_t30.flat X_t31
                have f_n_t31 := f_n_t30.ex I_n_t30 (X_t31 0)
                have u_n_t31 := u_n_t30.ex I_n_t30 (X_t31 0)
                have I_m_mdt4_t31 := I_m_mdt4_t30.flat X_t31
                have f_m_mdt4_t31 := f_m_mdt4_t30.ex I_m_mdt4_t30 (X_t31 0)
                have I_m_mdt8_t31 := I_m_mdt8_t30.flat X_t31
                have f_m_mdt8_t31 := f_m_mdt8_t30.ex I_m_mdt8_t30 (X_t31 0)
                have u_m_mdt8_t31 := u_m_mdt8_t30.ex I_m_mdt8_t30 (X_t31 0)
                have I_m_mdt10_t31 := I_m_mdt10_t30.flat X_t31
                have u_m_mdt10_t31 := u_m_mdt10_t30.ex I_m_mdt10_t30 (X_t31 0)
                have la_n_t31 : m_la t31 n = (m_md t4) + 1 := by rw [j_t31.2.2.1]; exact la_n_t30
                have wl_n_t31 : m_wh t31 ((m_md t4)) = 56 := by rw [j_t31.1]; exact wl_n_t30
                clear la_n_t30 wl_n_t30
                have la_m_mdt4_t31 : m_la t31 (m_md t4) = (m_md t8) + 1 := by rw [j_t31.2.2.1]; exact la_m_mdt4_t30
                have wl_m_mdt4_t31 : m_wh t31 ((m_md t8)) = 13 := by rw [j_t31.1]; exact wl_m_mdt4_t30
                clear la_m_mdt4_t30 wl_m_mdt4_t30
                have la_m_mdt8_t31 : m_la t31 (m_md t8) = (m_md t10) + 1 := by rw [j_t31.2.2.1]; exact la_m_mdt8_t30
                have wl_m_mdt8_t31 : m_wh t31 ((m_md t10)) = 89 := by rw [j_t31.1]; exact wl_m_mdt8_t30
                clear la_m_mdt8_t30 wl_m_mdt8_t30
                refine Ok_ret (show Ok _ _ _ from ?_)
                refine Ok_ret (show Ok _ _ _ from ?_)
                refine Ok_ret (show Ok _ _ _ from ?_)
                exact Or.inl ⟨Nat.ne_of_gt (show 0 < m_wr t31 from by omega), by omega, by omega, C_t31.2.2.2.2.2, by omega⟩
            · refine Ok_ife (Nat.lt_trans (lo_lt (C_t10.tk hT) _) (by decide)) (by decide) (fun q32 => ?_) (fun q32 => ?_)
              · refine Kp_child C_t10 I_m_mdt8_t10.1 I_m_mdt8_t10.2.1 I_m_mdt8_t10.2.2.1 (by omega) (by omega) (by decide) (by decide) (fun t33 C_t33 X_t33 a_t33 b_t33 d_t33 w_t33 u_t33 v_t33 j_t33 l_t33 => ?_)
                have e_t33 := C_t33.2.2.2.1
                rw [a_t10] at a_t33
                rw [b_t10] at b_t33
                rw [d_t10] at d_t33
                rw [w_t10] at w_t33
                rw [u_t10] at u_t33
                rw [v_t10] at v_t33
                clear d_t10 w_t10 u_t10 v_t10 e_t10 a_t10
                have I_n_t33 := I_n_t10.chd X_t33 j_t33
                have f_n_t33 := f_n_t10.ex I_n_t10 (X_t33 0 (Nat.zero_le _))
                have u_n_t33 := u_n_t10.ex I_n_t10 (X_t33 0 (Nat.zero_le _))
                have I_m_mdt4_t33 := I_m_mdt4_t10.chd X_t33 j_t33
                have f_m_mdt4_t33 := f_m_mdt4_t10.ex I_m_mdt4_t10 (X_t33 0 (Nat.zero_le _))
                have I_m_mdt8_t33 := I_m_mdt8_t10.chd X_t33 j_t33
                have u_m_mdt8_t33 := u_m_mdt8_t10.ex I_m_mdt8_t10 (X_t33 0 (Nat.zero_le _))
                have la_n_t33 : m_la t33 n = (m_md t4) + 1 := by rw [(j_t33.2.2.2.2.2.2.2.1 n I_n_t10.1 (by omega)).1]; exact la_n_t10
                have wl_n_t33 : m_wh t33 ((m_md t4)) = 56 := by rw [(j_t33.2.2.2.2.2.2.1 ((m_md t4)) (by omega)).2]; exact wl_n_t10
                clear la_n_t10 wl_n_t10
                have la_m_mdt4_t33 : m_la t33 (m_md t4) = (m_md t8) + 1 := by rw [(j_t33.2.2.2.2.2.2.2.1 (m_md t4) I_m_mdt4_t10.1 (by omega)).1]; exact la_m_mdt4_t10
                have wl_m_mdt4_t33 : m_wh t33 ((m_md t8)) = 13 := by rw [(j_t33.2.2.2.2.2.2.1 ((m_md t8)) (by omega)).2]; exact wl_m_mdt4_t10
                clear la_m_mdt4_t10 wl_m_mdt4_t10
                have f_m_mdt8_t33 : Fz t33 (m_md t8) := j_t33.2.2.2.2.1
                have I_m_mdt10_t33 : Nq t33 (m_md t10) := Nq.chn j_t33 (by omega) I_m_mdt8_t10 (by decide)
                have u_m_mdt10_t33 : Up t33 (m_md t10) := Or.inl j_t33.2.1
                have la_m_mdt8_t33 : m_la t33 (m_md t8) = (m_md t10) + 1 := j_t33.2.2.2.2.2.1
                have wl_m_mdt8_t33 : m_wh t33 (m_md t10) = 29 := j_t33.1
                refine Kp_more C_t33 (by omega) (by omega) (fun t34 C_t34 X_t34 a_t34 b_t34 d_t34 w_t34 u_t34 v_t34 j_t34 l_t34 => ?_)
                have e_t34 := C_t34.2.2.2.1
                rcases w_t34 with ⟨w_t34, y_t34⟩ | ⟨w_t34, wb_t34⟩
                · rw [a_t33] at a_t34
                  rw [b_t33] at b_t34
                  rw [d_t33] at d_t34
                  rw [w_t33] at w_t34
                  rw [u_t33] at u_t34
                  rw [v_t33] at v_t34
                  rw [d_t34] at y_t34
                  clear d_t33 w_t33 u_t33 v_t33 e_t33 a_t33 b_t33
                  have I_n_t34 := I_n_t33.flat X_t34
                  have f_n_t34 := f_n_t33.ex I_n_t33 (X_t34 0)
                  have u_n_t34 := u_n_t33.ex I_n_t33 (X_t34 0)
                  have I_m_mdt4_t34 := I_m_mdt4_t33.flat X_t34
                  have f_m_mdt4_t34 := f_m_mdt4_t33.ex I_m_mdt4_t33 (X_t34 0)
                  have I_m_mdt8_t34 := I_m_mdt8_t33.flat X_t34
                  have f_m_mdt8_t34 := f_m_mdt8_t33.ex I_m_mdt8_t33 (X_t34 0)
                  have u_m_mdt8_t34 := u_m_mdt8_t33.ex I_m_mdt8_t33 (X_t34 0)
                  have I_m_mdt10_t34 := I_m_mdt10_t33.flat X_t34
                  have u_m_mdt10_t34 := u_m_mdt10_t33.ex I_m_mdt10_t33 (X_t34 0)
                  have la_n_t34 : m_la t34 n = (m_md t4) + 1 := by rw [j_t34.2.2.1]; exact la_n_t33
                  have wl_n_t34 : m_wh t34 ((m_md t4)) = 56 := by rw [j_t34.1]; exact wl_n_t33
                  clear la_n_t33 wl_n_t33
                  have la_m_mdt4_t34 : m_la t34 (m_md t4) = (m_md t8) + 1 := by rw [j_t34.2.2.1]; exact la_m_mdt4_t33
                  have wl_m_mdt4_t34 : m_wh t34 ((m_md t8)) = 13 := by rw [j_t34.1]; exact wl_m_mdt4_t33
                  clear la_m_mdt4_t33 wl_m_mdt4_t33
                  have la_m_mdt8_t34 : m_la t34 (m_md t8) = (m_md t10) + 1 := by rw [j_t34.2.2.1]; exact la_m_mdt8_t33
                  have wl_m_mdt8_t34 : m_wh t34 ((m_md t10)) = 29 := by rw [j_t34.1]; exact wl_m_mdt8_t33
                  clear la_m_mdt8_t33 wl_m_mdt8_t33
                  have z_t35 : m_at t34 < m_ct t34 := lo_ne (Nat.ne_of_gt (show 0 < lo t34 (m_at t34) from by omega))
                  refine Kp_at C_t34 (fun t35 C_t35 X_t35 a_t35 b_t35 d_t35 w_t35 u_t35 v_t35 j_t35 l_t35 => ?_)
                  have e_t35 := C_t35.2.2.2.1
                  rw [a_t34] at a_t35
                  rw [b_t34] at b_t35
                  rw [d_t34] at d_t35
                  rw [w_t34] at w_t35
                  rw [u_t34] at u_t35
                  rw [v_t34] at v_t35
                  rw [a_t34, e_t34] at z_t35
                  clear z_t8
                  clear d_t34 w_t34 u_t34 v_t34 e_t34 a_t34 b_t34
                  have I_n_t35 := I_n_t34.flat X_t35
                  have f_n_t35 := f_n_t34.ex I_n_t34 (X_t35 0)
                  have u_n_t35 := u_n_t34.ex I_n_t34 (X_t35 0)
                  have I_m_mdt4_t35 := I_m_mdt4_t34.flat X_t35
                  have f_m_mdt4_t35 := f_m_mdt4_t34.ex I_m_mdt4_t34 (X_t35 0)
                  have I_m_mdt8_t35 := I_m_mdt8_t34.flat X_t35
                  have f_m_mdt8_t35 := f_m_mdt8_t34.ex I_m_mdt8_t34 (X_t35 0)
                  have u_m_mdt8_t35 := u_m_mdt8_t34.ex I_m_mdt8_t34 (X_t35 0)
                  have I_m_mdt10_t35 := I_m_mdt10_t34.flat X_t35
                  have u_m_mdt10_t35 := u_m_mdt10_t34.ex I_m_mdt10_t34 (X_t35 0)
                  have la_n_t35 : m_la t35 n = (m_md t4) + 1 := by rw [j_t35.2.2.1]; exact la_n_t34
                  have wl_n_t35 : m_wh t35 ((m_md t4)) = 56 := by rw [j_t35.1]; exact wl_n_t34
                  clear la_n_t34 wl_n_t34
                  have la_m_mdt4_t35 : m_la t35 (m_md t4) = (m_md t8) + 1 := by rw [j_t35.2.2.1]; exact la_m_mdt4_t34
                  have wl_m_mdt4_t35 : m_wh t35 ((m_md t8)) = 13 := by rw [j_t35.1]; exact wl_m_mdt4_t34
                  clear la_m_mdt4_t34 wl_m_mdt4_t34
                  have la_m_mdt8_t35 : m_la t35 (m_md t8) = (m_md t10) + 1 := by rw [j_t35.2.2.1]; exact la_m_mdt8_t34
                  have wl_m_mdt8_t35 : m_wh t35 ((m_md t10)) = 29 := by rw [j_t35.1]; exact wl_m_mdt8_t34
                  clear la_m_mdt8_t34 wl_m_mdt8_t34
                  refine Kp_push C_t35 (by omega) (fun t36 C_t36 X_t36 a_t36 b_t36 d_t36 w_t36 u_t36 v_t36 j_t36 l_t36 => ?_)
                  have e_t36 := C_t36.2.2.2.1
                  rw [a_t35] at a_t36
                  rw [b_t35] at b_t36
                  rw [d_t35] at d_t36
                  rw [w_t35] at w_t36
                  rw [u_t35] at u_t36
                  rw [v_t35] at v_t36
                  clear d_t35 w_t35 u_t35 v_t35 e_t35 a_t35 b_t35
                  have I_n_t36 := I_n_t35.flat X_t36
                  have f_n_t36 := f_n_t35.ex I_n_t35 (X_t36 0)
                  have u_n_t36 := u_n_t35.ex I_n_t35 (X_t36 0)
                  have I_m_mdt4_t36 := I_m_mdt4_t35.flat X_t36
                  have f_m_mdt4_t36 := f_m_mdt4_t35.ex I_m_mdt4_t35 (X_t36 0)
                  have I_m_mdt8_t36 := I_m_mdt8_t35.flat X_t36
                  have f_m_mdt8_t36 := f_m_mdt8_t35.ex I_m_mdt8_t35 (X_t36 0)
                  have u_m_mdt8_t36 := u_m_mdt8_t35.ex I_m_mdt8_t35 (X_t36 0)
                  have I_m_mdt10_t36 := I_m_mdt10_t35.flat X_t36
                  have u_m_mdt10_t36 := u_m_mdt10_t35.ex I_m_mdt10_t35 (X_t36 0)
                  have la_n_t36 : m_la t36 n = (m_md t4) + 1 := by rw [j_t36.2.2.1]; exact la_n_t35
                  have wl_n_t36 : m_wh t36 ((m_md t4)) = 56 := by rw [j_t36.1]; exact wl_n_t35
                  clear la_n_t35 wl_n_t35
                  have la_m_mdt4_t36 : m_la t36 (m_md t4) = (m_md t8) + 1 := by rw [j_t36.2.2.1]; exact la_m_mdt4_t35
                  have wl_m_mdt4_t36 : m_wh t36 ((m_md t8)) = 13 := by rw [j_t36.1]; exact wl_m_mdt4_t35
                  clear la_m_mdt4_t35 wl_m_mdt4_t35
                  have la_m_mdt8_t36 : m_la t36 (m_md t8) = (m_md t10) + 1 := by rw [j_t36.2.2.1]; exact la_m_mdt8_t35
                  have wl_m_mdt8_t36 : m_wh t36 ((m_md t10)) = 29 := by rw [j_t36.1]; exact wl_m_mdt8_t35
                  clear la_m_mdt8_t35 wl_m_mdt8_t35
                  refine Kp_push C_t36 (by omega) (fun t37 C_t37 X_t37 a_t37 b_t37 d_t37 w_t37 u_t37 v_t37 j_t37 l_t37 => ?_)
                  have e_t37 := C_t37.2.2.2.1
                  rw [a_t36] at a_t37
                  rw [b_t36] at b_t37
                  rw [d_t36] at d_t37
                  rw [w_t36] at w_t37
                  rw [u_t36] at u_t37
                  rw [v_t36] at v_t37
                  clear d_t36 w_t36 u_t36 v_t36 e_t36 a_t36 b_t36
                  have I_n_t37 := I_n_t36.flat X_t37
                  have f_n_t37 := f_n_t36.ex I_n_t36 (X_t37 0)
                  have u_n_t37 := u_n_t36.ex I_n_t36 (X_t37 0)
                  have I_m_mdt4_t37 := I_m_mdt4_t36.flat X_t37
                  have f_m_mdt4_t37 := f_m_mdt4_t36.ex I_m_mdt4_t36 (X_t37 0)
                  have I_m_mdt8_t37 := I_m_mdt8_t36.flat X_t37
                  have f_m_mdt8_t37 := f_m_mdt8_t36.ex I_m_mdt8_t36 (X_t37 0)
                  have u_m_mdt8_t37 := u_m_mdt8_t36.ex I_m_mdt8_t36 (X_t37 0)
                  have I_m_mdt10_t37 := I_m_mdt10_t36.flat X_t37
                  have u_m_mdt10_t37 := u_m_mdt10_t36.ex I_m_mdt10_t36 (X_t37 0)
                  have la_n_t37 : m_la t37 n = (m_md t4) + 1 := by rw [j_t37.2.2.1]; exact la_n_t36
                  have wl_n_t37 : m_wh t37 ((m_md t4)) = 56 := by rw [j_t37.1]; exact wl_n_t36
                  clear la_n_t36 wl_n_t36
                  have la_m_mdt4_t37 : m_la t37 (m_md t4) = (m_md t8) + 1 := by rw [j_t37.2.2.1]; exact la_m_mdt4_t36
                  have wl_m_mdt4_t37 : m_wh t37 ((m_md t8)) = 13 := by rw [j_t37.1]; exact wl_m_mdt4_t36
                  clear la_m_mdt4_t36 wl_m_mdt4_t36
                  have la_m_mdt8_t37 : m_la t37 (m_md t8) = (m_md t10) + 1 := by rw [j_t37.2.2.1]; exact la_m_mdt8_t36
                  have wl_m_mdt8_t37 : m_wh t37 ((m_md t10)) = 29 := by rw [j_t37.1]; exact wl_m_mdt8_t36
                  clear la_m_mdt8_t36 wl_m_mdt8_t36
                  refine Ok_ret (show Ok _ _ _ from ?_)
                  refine Ok_ret (show Ok _ _ _ from ?_)
                  refine Hv_mk (Kv_c (x := (21, m_md t10, 0)) rfl (Kv_c (x := (20, m_md t10, 0)) rfl (Kv_c (x := (4, m_md t8, 3)) rfl hK))) (C_t37.1.2.2.2.2.2.2 hTt) C_t37 hT (by omega) (by omega) (by omega) ?_ ?_ ?_ (by omega) ?_ ?_ ?_
                  · exact ⟨(Io_n (by decide) (by decide) I_m_mdt10_t37.1 I_m_mdt10_t37.2.1 I_m_mdt10_t37.2.2.1 (fun q => absurd q (by decide)) (fun q => absurd q (by decide)) I_m_mdt10_t37.2.2.2), (Nd_0 (by decide) Mo_nil), ⟨(Io_n (by decide) (by decide) I_m_mdt10_t37.1 I_m_mdt10_t37.2.1 I_m_mdt10_t37.2.2.1 (fun q => absurd q (by decide)) (fun q => absurd q (by decide)) I_m_mdt10_t37.2.2.2), (Nd_0 (by decide) (Mo_cons (fun q => show m_md t10 ≤ m_md t10 from by omega) Mo_nil)), ⟨(Io_n (by decide) (by decide) I_m_mdt8_t37.1 I_m_mdt8_t37.2.1 I_m_mdt8_t37.2.2.1 (fun q => absurd q (by decide)) (fun q => absurd q (by decide)) I_m_mdt8_t37.2.2.2), (Nd_A (by decide) (Mo_cons (fun q => show m_md t8 ≤ m_md t10 from by omega) (Mo_cons (fun q => show m_md t8 ≤ m_md t10 from by omega) Mo_nil)) (Or.inl f_m_mdt8_t37)), Stk_step (N := n) (pop := (43, n, t)) (new := [(4, m_md t8, 3), (20, m_md t10, 0), (21, m_md t10, 0)]) F0 C_t37.1.to2 (fun (h : nk 43 = false) => absurd h (by decide)) (fun q _ h => h (43, n, t) rfl) (fun _ => rfl) (fun y hy hk => ⟨rfl, (Mo_cons (fun q => show n ≤ m_md t8 from by omega) (Mo_cons (fun q => show n ≤ m_md t10 from by omega) (Mo_cons (fun q => show n ≤ m_md t10 from by omega) Mo_nil))) y hy hk⟩) (fun (h : 43 = 3 ∨ 43 = 18 ∨ 43 = 41) => absurd h (by decide)) (fun (h : 43 = 18) => absurd h (by decide)) (fun _ h16 => (Or.inr ⟨f_n_t37, (Ab_some (y := (4, m_md t8, 3)) rfl (show n < m_md t8 from by omega)), H50_no la_n_t37 wl_n_t37 (by decide)⟩)) r [] (fun y hy => absurd hy List.not_mem_nil) hS⟩⟩⟩
                  · exact (Aj_up (x := (21, m_md t10, 0)) (Aj_up (x := (20, m_md t10, 0)) (Aj_sub (y := (4, m_md t8, 3)) hJ (Nat.le_of_ble_eq_true rfl)) (Or.inr (Nat.le_of_ble_eq_true rfl))) (Or.inl (Nat.le_of_ble_eq_true rfl)))
                  · show m_dp t37 = (dlt 21 + (dlt 20 + (dlt 4 + sD r)))
                    have : dlt 20 = 1 := rfl; have : dlt 21 = 0 := rfl; have : dlt 4 = 0 := rfl; have : dlt 43 = 0 := rfl; omega
                  · show m_rw t37 = (rho 21 + (rho 20 + (rho 4 + sR r)))
                    have : rho 20 = 0 := rfl; have : rho 21 = 0 := rfl; have : rho 4 = 0 := rfl; have : rho 43 = 0 := rfl; omega
                  · show m_md t37 + (mu7 21 + (mu7 20 + (mu7 4 + sM r))) ≤ 3 * m_at t37 + 7 * (r.length + 1 + 1 + 1) + 10
                    have : mu7 20 = 7 := rfl; have : mu7 21 = 3 := rfl; have : mu7 4 = 7 := rfl; have : mu7 43 = 4 := rfl; omega
                  · show (wt 21 + (wt 20 + (wt 4 + sW r))) + 6 * (4096 - m_at t37) + 4 * (600 - (r.length + 1 + 1 + 1)) < (wt 43 + sW r) + 6 * (4096 - m_at t0) + 4 * (600 - (r.length + 1))
                    have : wt 20 = 5 := rfl; have : wt 21 = 2 := rfl; have : wt 4 = 5 := rfl; have : wt 43 = 0 := rfl; omega
                · have w_t34 := Nat.pos_of_ne_zero w_t34
                  have I_n_t34 := I_n_t33.flat X_t34
                  have f_n_t34 := f_n_t33.ex I_n_t33 (X_t34 0)
                  have u_n_t34 := u_n_t33.ex I_n_t33 (X_t34 0)
                  have I_m_mdt4_t34 := I_m_mdt4_t33.flat X_t34
                  have f_m_mdt4_t34 := f_m_mdt4_t33.ex I_m_mdt4_t33 (X_t34 0)
                  have I_m_mdt8_t34 := I_m_mdt8_t33.flat X_t34
                  have f_m_mdt8_t34 := f_m_mdt8_t33.ex I_m_mdt8_t33 (X_t34 0)
                  have u_m_mdt8_t34 := u_m_mdt8_t33.ex I_m_mdt8_t33 (X_t34 0)
                  have I_m_mdt10_t34 := I_m_mdt10_t33.flat X_t34
                  have u_m_mdt10_t34 := u_m_mdt10_t33.ex I_m_mdt10_t33 (X_t34 0)
                  have la_n_t34 : m_la t34 n = (m_md t4) + 1 := by rw [j_t34.2.2.1]; exact la_n_t33
                  have wl_n_t34 : m_wh t34 ((m_md t4)) = 56 := by rw [j_t34.1]; exact wl_n_t33
                  clear la_n_t33 wl_n_t33
                  have la_m_mdt4_t34 : m_la t34 (m_md t4) = (m_md t8) + 1 := by rw [j_t34.2.2.1]; exact la_m_mdt4_t33
                  have wl_m_mdt4_t34 : m_wh t34 ((m_md t8)) = 13 := by rw [j_t34.1]; exact wl_m_mdt4_t33
                  clear la_m_mdt4_t33 wl_m_mdt4_t33
                  have la_m_mdt8_t34 : m_la t34 (m_md t8) = (m_md t10) + 1 := by rw [j_t34.2.2.1]; exact la_m_mdt8_t33
                  have wl_m_mdt8_t34 : m_wh t34 ((m_md t10)) = 29 := by rw [j_t34.1]; exact wl_m_mdt8_t33
                  clear la_m_mdt8_t33 wl_m_mdt8_t33
                  refine Kp_at C_t34 (fun t38 C_t38 X_t38 a_t38 b_t38 d_t38 w_t38 u_t38 v_t38 j_t38 l_t38 => ?_)
                  have e_t38 := C_t38.2.2.2.1
                  have I_n_t38 := I_n_t34.flat X_t38
                  have f_n_t38 := f_n_t34.ex I_n_t34 (X_t38 0)
                  have u_n_t38 := u_n_t34.ex I_n_t34 (X_t38 0)
                  have I_m_mdt4_t38 := I_m_mdt4_t34.flat X_t38
                  have f_m_mdt4_t38 := f_m_mdt4_t34.ex I_m_mdt4_t34 (X_t38 0)
                  have I_m_mdt8_t38 := I_m_mdt8_t34.flat X_t38
                  have f_m_mdt8_t38 := f_m_mdt8_t34.ex I_m_mdt8_t34 (X_t38 0)
                  have u_m_mdt8_t38 := u_m_mdt8_t34.ex I_m_mdt8_t34 (X_t38 0)
                  have I_m_mdt10_t38 := I_m_mdt10_t34.flat X_t38
                  have u_m_mdt10_t38 := u_m_mdt10_t34.ex I_m_mdt10_t34 (X_t38 0)
                  have la_n_t38 : m_la t38 n = (m_md t4) + 1 := by rw [j_t38.2.2.1]; exact la_n_t34
                  have wl_n_t38 : m_wh t38 ((m_md t4)) = 56 := by rw [j_t38.1]; exact wl_n_t34
                  clear la_n_t34 wl_n_t34
                  have la_m_mdt4_t38 : m_la t38 (m_md t4) = (m_md t8) + 1 := by rw [j_t38.2.2.1]; exact la_m_mdt4_t34
                  have wl_m_mdt4_t38 : m_wh t38 ((m_md t8)) = 13 := by rw [j_t38.1]; exact wl_m_mdt4_t34
                  clear la_m_mdt4_t34 wl_m_mdt4_t34
                  have la_m_mdt8_t38 : m_la t38 (m_md t8) = (m_md t10) + 1 := by rw [j_t38.2.2.1]; exact la_m_mdt8_t34
                  have wl_m_mdt8_t38 : m_wh t38 ((m_md t10)) = 29 := by rw [j_t38.1]; exact wl_m_mdt8_t34
                  clear la_m_mdt8_t34 wl_m_mdt8_t34
                  refine Kp_push C_t38 (by omega) (fun t39 C_t39 X_t39 a_t39 b_t39 d_t39 w_t39 u_t39 v_t39 j_t39 l_t39 => ?_)
                  have e_t39 := C_t39.2.2.2.1
                  have I_n_t39 := I_n_t38.flat X_t39
                  have f_n_t39 := f_n_t38.ex I_n_t38 (X_t39 0)
                  have u_n_t39 := u_n_t38.ex I_n_t38 (X_t39 0)
                  have I_m_mdt4_t39 := I_m_mdt4_t38.flat X_t39
                  have f_m_mdt4_t39 := f_m_mdt4_t38.ex I_m_mdt4_t38 (X_t39 0)
                  have I_m_mdt8_t39 := I_m_mdt8_t38.flat X_t39
                  have f_m_mdt8_t39 := f_m_mdt8_t38.ex I_m_mdt8_t38 (X_t39 0)
                  have u_m_mdt8_t39 := u_m_mdt8_t38.ex I_m_mdt8_t38 (X_t39 0)
                  have I_m_mdt10_t39 := I_m_mdt10_t38.flat X_t39
                  have u_m_mdt10_t39 := u_m_mdt10_t38.ex I_m_mdt10_t38 (X_t39 0)
                  have la_n_t39 : m_la t39 n = (m_md t4) + 1 := by rw [j_t39.2.2.1]; exact la_n_t38
                  have wl_n_t39 : m_wh t39 ((m_md t4)) = 56 := by rw [j_t39.1]; exact wl_n_t38
                  clear la_n_t38 wl_n_t38
                  have la_m_mdt4_t39 : m_la t39 (m_md t4) = (m_md t8) + 1 := by rw [j_t39.2.2.1]; exact la_m_mdt4_t38
                  have wl_m_mdt4_t39 : m_wh t39 ((m_md t8)) = 13 := by rw [j_t39.1]; exact wl_m_mdt4_t38
                  clear la_m_mdt4_t38 wl_m_mdt4_t38
                  have la_m_mdt8_t39 : m_la t39 (m_md t8) = (m_md t10) + 1 := by rw [j_t39.2.2.1]; exact la_m_mdt8_t38
                  have wl_m_mdt8_t39 : m_wh t39 ((m_md t10)) = 29 := by rw [j_t39.1]; exact wl_m_mdt8_t38
                  clear la_m_mdt8_t38 wl_m_mdt8_t38
                  refine Kp_push C_t39 (by omega) (fun t40 C_t40 X_t40 a_t40 b_t40 d_t40 w_t40 u_t40 v_t40 j_t40 l_t40 => ?_)
                  have e_t40 := C_t40.2.2.2.1
                  have I_n_t40 := I_n_t39.flat X_t40
                  have f_n_t40 := f_n_t39.ex I_n_t39 (X_t40 0)
                  have u_n_t40 := u_n_t39.ex I_n_t39 (X_t40 0)
                  have I_m_mdt4_t40 := I_m_mdt4_t39.flat X_t40
                  have f_m_mdt4_t40 := f_m_mdt4_t39.ex I_m_mdt4_t39 (X_t40 0)
                  have I_m_mdt8_t40 := I_m_mdt8_t39.flat X_t40
                  have f_m_mdt8_t40 := f_m_mdt8_t39.ex I_m_mdt8_t39 (X_t40 0)
                  have u_m_mdt8_t40 := u_m_mdt8_t39.ex I_m_mdt8_t39 (X_t40 0)
                  have I_m_mdt10_t40 := I_m_mdt10_t39.flat X_t40
                  have u_m_mdt10_t40 := u_m_mdt10_t39.ex I_m_mdt10_t39 (X_t40 0)
                  have la_n_t40 : m_la t40 n = (m_md t4) + 1 := by rw [j_t40.2.2.1]; exact la_n_t39
                  have wl_n_t40 : m_wh t40 ((m_md t4)) = 56 := by rw [j_t40.1]; exact wl_n_t39
                  clear la_n_t39 wl_n_t39
                  have la_m_mdt4_t40 : m_la t40 (m_md t4) = (m_md t8) + 1 := by rw [j_t40.2.2.1]; exact la_m_mdt4_t39
                  have wl_m_mdt4_t40 : m_wh t40 ((m_md t8)) = 13 := by rw [j_t40.1]; exact wl_m_mdt4_t39
                  clear la_m_mdt4_t39 wl_m_mdt4_t39
                  have la_m_mdt8_t40 : m_la t40 (m_md t8) = (m_md t10) + 1 := by rw [j_t40.2.2.1]; exact la_m_mdt8_t39
                  have wl_m_mdt8_t40 : m_wh t40 ((m_md t10)) = 29 := by rw [j_t40.1]; exact wl_m_mdt8_t39
                  clear la_m_mdt8_t39 wl_m_mdt8_t39
                  refine Ok_ret (show Ok _ _ _ from ?_)
                  refine Ok_ret (show Ok _ _ _ from ?_)
                  exact Or.inl ⟨Nat.ne_of_gt (show 0 < m_wr t40 from by omega), by omega, by omega, C_t40.2.2.2.2.2, by omega⟩
              · refine Ok_ife (Nat.lt_trans (lo_lt (C_t10.tk hT) _) (by decide)) (by decide) (fun q41 => ?_) (fun q41 => ?_)
                · refine Kp_push C_t10 (by omega) (fun t42 C_t42 X_t42 a_t42 b_t42 d_t42 w_t42 u_t42 v_t42 j_t42 l_t42 => ?_)
                  have e_t42 := C_t42.2.2.2.1
                  rw [a_t10] at a_t42
                  rw [b_t10] at b_t42
                  rw [d_t10] at d_t42
                  rw [w_t10] at w_t42
                  rw [u_t10] at u_t42
                  rw [v_t10] at v_t42
                  clear d_t10 w_t10 u_t10 v_t10 e_t10 a_t10 b_t10
                  have I_n_t42 := I_n_t10.flat X_t42
                  have f_n_t42 := f_n_t10.ex I_n_t10 (X_t42 0)
                  have u_n_t42 := u_n_t10.ex I_n_t10 (X_t42 0)
                  have I_m_mdt4_t42 := I_m_mdt4_t10.flat X_t42
                  have f_m_mdt4_t42 := f_m_mdt4_t10.ex I_m_mdt4_t10 (X_t42 0)
                  have I_m_mdt8_t42 := I_m_mdt8_t10.flat X_t42
                  have u_m_mdt8_t42 := u_m_mdt8_t10.ex I_m_mdt8_t10 (X_t42 0)
                  have la_n_t42 : m_la t42 n = (m_md t4) + 1 := by rw [j_t42.2.2.1]; exact la_n_t10
                  have wl_n_t42 : m_wh t42 ((m_md t4)) = 56 := by rw [j_t42.1]; exact wl_n_t10
                  clear la_n_t10 wl_n_t10
                  have la_m_mdt4_t42 : m_la t42 (m_md t4) = (m_md t8) + 1 := by rw [j_t42.2.2.1]; exact la_m_mdt4_t10
                  have wl_m_mdt4_t42 : m_wh t42 ((m_md t8)) = 13 := by rw [j_t42.1]; exact wl_m_mdt4_t10
                  clear la_m_mdt4_t10 wl_m_mdt4_t10
                  refine Kp_push C_t42 (by omega) (fun t43 C_t43 X_t43 a_t43 b_t43 d_t43 w_t43 u_t43 v_t43 j_t43 l_t43 => ?_)
                  have e_t43 := C_t43.2.2.2.1
                  rw [a_t42] at a_t43
                  rw [b_t42] at b_t43
                  rw [d_t42] at d_t43
                  rw [w_t42] at w_t43
                  rw [u_t42] at u_t43
                  rw [v_t42] at v_t43
                  clear d_t42 w_t42 u_t42 v_t42 e_t42 a_t42 b_t42
                  have I_n_t43 := I_n_t42.flat X_t43
                  have f_n_t43 := f_n_t42.ex I_n_t42 (X_t43 0)
                  have u_n_t43 := u_n_t42.ex I_n_t42 (X_t43 0)
                  have I_m_mdt4_t43 := I_m_mdt4_t42.flat X_t43
                  have f_m_mdt4_t43 := f_m_mdt4_t42.ex I_m_mdt4_t42 (X_t43 0)
                  have I_m_mdt8_t43 := I_m_mdt8_t42.flat X_t43
                  have u_m_mdt8_t43 := u_m_mdt8_t42.ex I_m_mdt8_t42 (X_t43 0)
                  have la_n_t43 : m_la t43 n = (m_md t4) + 1 := by rw [j_t43.2.2.1]; exact la_n_t42
                  have wl_n_t43 : m_wh t43 ((m_md t4)) = 56 := by rw [j_t43.1]; exact wl_n_t42
                  clear la_n_t42 wl_n_t42
                  have la_m_mdt4_t43 : m_la t43 (m_md t4) = (m_md t8) + 1 := by rw [j_t43.2.2.1]; exact la_m_mdt4_t42
                  have wl_m_mdt4_t43 : m_wh t43 ((m_md t8)) = 13 := by rw [j_t43.1]; exact wl_m_mdt4_t42
                  clear la_m_mdt4_t42 wl_m_mdt4_t42
                  refine Ok_ret (show Ok _ _ _ from ?_)
                  refine Ok_ret (show Ok _ _ _ from ?_)
                  refine Hv_mk (Kv_c (x := (18, m_md t8, 1)) rfl (Kv_c (x := (5, m_md t8, 3)) rfl (Kv_c (x := (4, m_md t8, 3)) rfl hK))) (C_t43.1.2.2.2.2.2.2 hTt) C_t43 hT (by omega) (by omega) (by omega) ?_ ?_ ?_ (by omega) ?_ ?_ ?_
                  · exact ⟨(Io_n (by decide) (by decide) I_m_mdt8_t43.1 I_m_mdt8_t43.2.1 I_m_mdt8_t43.2.2.1 (fun q => absurd q (by decide)) (fun q => absurd q (by decide)) I_m_mdt8_t43.2.2.2), (Nd_0 (by decide) Mo_nil), ⟨(Io_n (by decide) (by decide) I_m_mdt8_t43.1 I_m_mdt8_t43.2.1 I_m_mdt8_t43.2.2.1 (fun q => absurd q (by decide)) (fun q => absurd q (by decide)) I_m_mdt8_t43.2.2.2), (Nd_5 (Mo_cons (fun q => show m_md t8 ≤ m_md t8 from by omega) Mo_nil) (Or.inl ⟨1, rfl⟩)), ⟨(Io_n (by decide) (by decide) I_m_mdt8_t43.1 I_m_mdt8_t43.2.1 I_m_mdt8_t43.2.2.1 (fun q => absurd q (by decide)) (fun q => absurd q (by decide)) I_m_mdt8_t43.2.2.2), (Nd_A (by decide) (Mo_cons (fun q => show m_md t8 ≤ m_md t8 from by omega) (Mo_cons (fun q => show m_md t8 ≤ m_md t8 from by omega) Mo_nil)) (Or.inr ⟨(18, m_md t8, 1), (List.mem_cons_of_mem _ List.mem_cons_self), rfl, Or.inr (Or.inl rfl)⟩)), Stk_step (N := n) (pop := (43, n, t)) (new := [(4, m_md t8, 3), (5, m_md t8, 3), (18, m_md t8, 1)]) F0 C_t43.1.to2 (fun (h : nk 43 = false) => absurd h (by decide)) (fun q _ h => h (43, n, t) rfl) (fun _ => rfl) (fun y hy hk => ⟨rfl, (Mo_cons (fun q => show n ≤ m_md t8 from by omega) (Mo_cons (fun q => show n ≤ m_md t8 from by omega) (Mo_cons (fun q => show n ≤ m_md t8 from by omega) Mo_nil))) y hy hk⟩) (fun (h : 43 = 3 ∨ 43 = 18 ∨ 43 = 41) => absurd h (by decide)) (fun (h : 43 = 18) => absurd h (by decide)) (fun _ h16 => (Or.inr ⟨f_n_t43, (Ab_some (y := (4, m_md t8, 3)) rfl (show n < m_md t8 from by omega)), H50_no la_n_t43 wl_n_t43 (by decide)⟩)) r [] (fun y hy => absurd hy List.not_mem_nil) hS⟩⟩⟩
                  · exact (Aj_up (x := (18, m_md t8, 1)) (Aj_up (x := (5, m_md t8, 3)) (Aj_sub (y := (4, m_md t8, 3)) hJ (Nat.le_of_ble_eq_true rfl)) (Or.inr (Nat.le_of_ble_eq_true rfl))) (Or.inr (Nat.le_of_ble_eq_true rfl)))
                  · show m_dp t43 = (dlt 18 + (dlt 5 + (dlt 4 + sD r)))
                    have : dlt 18 = 0 := rfl; have : dlt 4 = 0 := rfl; have : dlt 43 = 0 := rfl; have : dlt 5 = 0 := rfl; omega
                  · show m_rw t43 = (rho 18 + (rho 5 + (rho 4 + sR r)))
                    have : rho 18 = 0 := rfl; have : rho 4 = 0 := rfl; have : rho 43 = 0 := rfl; have : rho 5 = 0 := rfl; omega
                  · show m_md t43 + (mu7 18 + (mu7 5 + (mu7 4 + sM r))) ≤ 3 * m_at t43 + 7 * (r.length + 1 + 1 + 1) + 10
                    have : mu7 18 = 5 := rfl; have : mu7 4 = 7 := rfl; have : mu7 43 = 4 := rfl; have : mu7 5 = 7 := rfl; omega
                  · show (wt 18 + (wt 5 + (wt 4 + sW r))) + 6 * (4096 - m_at t43) + 4 * (600 - (r.length + 1 + 1 + 1)) < (wt 43 + sW r) + 6 * (4096 - m_at t0) + 4 * (600 - (r.length + 1))
                    have : wt 18 = 0 := rfl; have : wt 4 = 5 := rfl; have : wt 43 = 0 := rfl; have : wt 5 = 5 := rfl; omega
                · refine Ok_ife (Nat.lt_trans (lo_lt (C_t10.tk hT) _) (by decide)) (by decide) (fun q44 => ?_) (fun q44 => ?_)
                  · refine Kp_push C_t10 (by omega) (fun t45 C_t45 X_t45 a_t45 b_t45 d_t45 w_t45 u_t45 v_t45 j_t45 l_t45 => ?_)
                    have e_t45 := C_t45.2.2.2.1
                    rw [a_t10] at a_t45
                    rw [b_t10] at b_t45
                    rw [d_t10] at d_t45
                    rw [w_t10] at w_t45
                    rw [u_t10] at u_t45
                    rw [v_t10] at v_t45
                    clear d_t10 w_t10 u_t10 v_t10 e_t10 a_t10 b_t10
                    have I_n_t45 := I_n_t10.flat X_t45
                    have f_n_t45 := f_n_t10.ex I_n_t10 (X_t45 0)
                    have u_n_t45 := u_n_t10.ex I_n_t10 (X_t45 0)
                    have I_m_mdt4_t45 := I_m_mdt4_t10.flat X_t45
                    have f_m_mdt4_t45 := f_m_mdt4_t10.ex I_m_mdt4_t10 (X_t45 0)
                    have I_m_mdt8_t45 := I_m_mdt8_t10.flat X_t45
                    have u_m_mdt8_t45 := u_m_mdt8_t10.ex I_m_mdt8_t10 (X_t45 0)
                    have la_n_t45 : m_la t45 n = (m_md t4) + 1 := by rw [j_t45.2.2.1]; exact la_n_t10
                    have wl_n_t45 : m_wh t45 ((m_md t4)) = 56 := by rw [j_t45.1]; exact wl_n_t10
                    clear la_n_t10 wl_n_t10
                    have la_m_mdt4_t45 : m_la t45 (m_md t4) = (m_md t8) + 1 := by rw [j_t45.2.2.1]; exact la_m_mdt4_t10
                    have wl_m_mdt4_t45 : m_wh t45 ((m_md t8)) = 13 := by rw [j_t45.1]; exact wl_m_mdt4_t10
                    clear la_m_mdt4_t10 wl_m_mdt4_t10
                    refine Kp_push C_t45 (by omega) (fun t46 C_t46 X_t46 a_t46 b_t46 d_t46 w_t46 u_t46 v_t46 j_t46 l_t46 => ?_)
                    have e_t46 := C_t46.2.2.2.1
                    rw [a_t45] at a_t46
                    rw [b_t45] at b_t46
                    rw [d_t45] at d_t46
                    rw [w_t45] at w_t46
                    rw [u_t45] at u_t46
                    rw [v_t45] at v_t46
                    clear d_t45 w_t45 u_t45 v_t45 e_t45 a_t45 b_t45
                    have I_n_t46 := I_n_t45.flat X_t46
                    have f_n_t46 := f_n_t45.ex I_n_t45 (X_t46 0)
                    have u_n_t46 := u_n_t45.ex I_n_t45 (X_t46 0)
                    have I_m_mdt4_t46 := I_m_mdt4_t45.flat X_t46
                    have f_m_mdt4_t46 := f_m_mdt4_t45.ex I_m_mdt4_t45 (X_t46 0)
                    have I_m_mdt8_t46 := I_m_mdt8_t45.flat X_t46
                    have u_m_mdt8_t46 := u_m_mdt8_t45.ex I_m_mdt8_t45 (X_t46 0)
                    have la_n_t46 : m_la t46 n = (m_md t4) + 1 := by rw [j_t46.2.2.1]; exact la_n_t45
                    have wl_n_t46 : m_wh t46 ((m_md t4)) = 56 := by rw [j_t46.1]; exact wl_n_t45
                    clear la_n_t45 wl_n_t45
                    have la_m_mdt4_t46 : m_la t46 (m_md t4) = (m_md t8) + 1 := by rw [j_t46.2.2.1]; exact la_m_mdt4_t45
                    have wl_m_mdt4_t46 : m_wh t46 ((m_md t8)) = 13 := by rw [j_t46.1]; exact wl_m_mdt4_t45
                    clear la_m_mdt4_t45 wl_m_mdt4_t45
                    refine Ok_ret (show Ok _ _ _ from ?_)
                    refine Ok_ret (show Ok _ _ _ from ?_)
                    refine Hv_mk (Kv_c (x := (18, m_md t8, 1)) rfl (Kv_c (x := (5, m_md t8, 3)) rfl (Kv_c (x := (4, m_md t8, 3)) rfl hK))) (C_t46.1.2.2.2.2.2.2 hTt) C_t46 hT (by omega) (by omega) (by omega) ?_ ?_ ?_ (by omega) ?_ ?_ ?_
                    · exact ⟨(Io_n (by decide) (by decide) I_m_mdt8_t46.1 I_m_mdt8_t46.2.1 I_m_mdt8_t46.2.2.1 (fun q => absurd q (by decide)) (fun q => absurd q (by decide)) I_m_mdt8_t46.2.2.2), (Nd_0 (by decide) Mo_nil), ⟨(Io_n (by decide) (by decide) I_m_mdt8_t46.1 I_m_mdt8_t46.2.1 I_m_mdt8_t46.2.2.1 (fun q => absurd q (by decide)) (fun q => absurd q (by decide)) I_m_mdt8_t46.2.2.2), (Nd_5 (Mo_cons (fun q => show m_md t8 ≤ m_md t8 from by omega) Mo_nil) (Or.inl ⟨1, rfl⟩)), ⟨(Io_n (by decide) (by decide) I_m_mdt8_t46.1 I_m_mdt8_t46.2.1 I_m_mdt8_t46.2.2.1 (fun q => absurd q (by decide)) (fun q => absurd q (by decide)) I_m_mdt8_t46.2.2.2), (Nd_A (by decide) (Mo_cons (fun q => show m_md t8 ≤ m_md t8 from by omega) (Mo_cons (fun q => show m_md t8 ≤ m_md t8 from by omega) Mo_nil)) (Or.inr ⟨(18, m_md t8, 1), (List.mem_cons_of_mem _ List.mem_cons_self), rfl, Or.inr (Or.inl rfl)⟩)), Stk_step (N := n) (pop := (43, n, t)) (new := [(4, m_md t8, 3), (5, m_md t8, 3), (18, m_md t8, 1)]) F0 C_t46.1.to2 (fun (h : nk 43 = false) => absurd h (by decide)) (fun q _ h => h (43, n, t) rfl) (fun _ => rfl) (fun y hy hk => ⟨rfl, (Mo_cons (fun q => show n ≤ m_md t8 from by omega) (Mo_cons (fun q => show n ≤ m_md t8 from by omega) (Mo_cons (fun q => show n ≤ m_md t8 from by omega) Mo_nil))) y hy hk⟩) (fun (h : 43 = 3 ∨ 43 = 18 ∨ 43 = 41) => absurd h (by decide)) (fun (h : 43 = 18) => absurd h (by decide)) (fun _ h16 => (Or.inr ⟨f_n_t46, (Ab_some (y := (4, m_md t8, 3)) rfl (show n < m_md t8 from by omega)), H50_no la_n_t46 wl_n_t46 (by decide)⟩)) r [] (fun y hy => absurd hy List.not_mem_nil) hS⟩⟩⟩
                    · exact (Aj_up (x := (18, m_md t8, 1)) (Aj_up (x := (5, m_md t8, 3)) (Aj_sub (y := (4, m_md t8, 3)) hJ (Nat.le_of_ble_eq_true rfl)) (Or.inr (Nat.le_of_ble_eq_true rfl))) (Or.inr (Nat.le_of_ble_eq_true rfl)))
                    · show m_dp t46 = (dlt 18 + (dlt 5 + (dlt 4 + sD r)))
                      have : dlt 18 = 0 := rfl; have : dlt 4 = 0 := rfl; have : dlt 43 = 0 := rfl; have : dlt 5 = 0 := rfl; omega
                    · show m_rw t46 = (rho 18 + (rho 5 + (rho 4 + sR r)))
                      have : rho 18 = 0 := rfl; have : rho 4 = 0 := rfl; have : rho 43 = 0 := rfl; have : rho 5 = 0 := rfl; omega
                    · show m_md t46 + (mu7 18 + (mu7 5 + (mu7 4 + sM r))) ≤ 3 * m_at t46 + 7 * (r.length + 1 + 1 + 1) + 10
                      have : mu7 18 = 5 := rfl; have : mu7 4 = 7 := rfl; have : mu7 43 = 4 := rfl; have : mu7 5 = 7 := rfl; omega
                    · show (wt 18 + (wt 5 + (wt 4 + sW r))) + 6 * (4096 - m_at t46) + 4 * (600 - (r.length + 1 + 1 + 1)) < (wt 43 + sW r) + 6 * (4096 - m_at t0) + 4 * (600 - (r.length + 1))
                      have : wt 18 = 0 := rfl; have : wt 4 = 5 := rfl; have : wt 43 = 0 := rfl; have : wt 5 = 5 := rfl; omega
                  · refine Ok_ife (Nat.lt_trans (lo_lt (C_t10.tk hT) _) (by decide)) (by decide) (fun q47 => ?_) (fun q47 => ?_)
                    · refine Kp_push C_t10 (by omega) (fun t48 C_t48 X_t48 a_t48 b_t48 d_t48 w_t48 u_t48 v_t48 j_t48 l_t48 => ?_)
                      have e_t48 := C_t48.2.2.2.1
                      rw [a_t10] at a_t48
                      rw [b_t10] at b_t48
                      rw [d_t10] at d_t48
                      rw [w_t10] at w_t48
                      rw [u_t10] at u_t48
                      rw [v_t10] at v_t48
                      clear d_t10 w_t10 u_t10 v_t10 e_t10 a_t10 b_t10
                      have I_n_t48 := I_n_t10.flat X_t48
                      have f_n_t48 := f_n_t10.ex I_n_t10 (X_t48 0)
                      have u_n_t48 := u_n_t10.ex I_n_t10 (X_t48 0)
                      have I_m_mdt4_t48 := I_m_mdt4_t10.flat X_t48
                      have f_m_mdt4_t48 := f_m_mdt4_t10.ex I_m_mdt4_t10 (X_t48 0)
                      have I_m_mdt8_t48 := I_m_mdt8_t10.flat X_t48
                      have u_m_mdt8_t48 := u_m_mdt8_t10.ex I_m_mdt8_t10 (X_t48 0)
                      have la_n_t48 : m_la t48 n = (m_md t4) + 1 := by rw [j_t48.2.2.1]; exact la_n_t10
                      have wl_n_t48 : m_wh t48 ((m_md t4)) = 56 := by rw [j_t48.1]; exact wl_n_t10
                      clear la_n_t10 wl_n_t10
                      have la_m_mdt4_t48 : m_la t48 (m_md t4) = (m_md t8) + 1 := by rw [j_t48.2.2.1]; exact la_m_mdt4_t10
                      have wl_m_mdt4_t48 : m_wh t48 ((m_md t8)) = 13 := by rw [j_t48.1]; exact wl_m_mdt4_t10
                      clear la_m_mdt4_t10 wl_m_mdt4_t10
                      refine Kp_push C_t48 (by omega) (fun t49 C_t49 X_t49 a_t49 b_t49 d_t49 w_t49 u_t49 v_t49 j_t49 l_t49 => ?_)
                      have e_t49 := C_t49.2.2.2.1
                      rw [a_t48] at a_t49
                      rw [b_t48] at b_t49
                      rw [d_t48] at d_t49
                      rw [w_t48] at w_t49
                      rw [u_t48] at u_t49
                      rw [v_t48] at v_t49
                      clear d_t48 w_t48 u_t48 v_t48 e_t48 a_t48 b_t48
                      have I_n_t49 := I_n_t48.flat X_t49
                      have f_n_t49 := f_n_t48.ex I_n_t48 (X_t49 0)
                      have u_n_t49 := u_n_t48.ex I_n_t48 (X_t49 0)
                      have I_m_mdt4_t49 := I_m_mdt4_t48.flat X_t49
                      have f_m_mdt4_t49 := f_m_mdt4_t48.ex I_m_mdt4_t48 (X_t49 0)
                      have I_m_mdt8_t49 := I_m_mdt8_t48.flat X_t49
                      have u_m_mdt8_t49 := u_m_mdt8_t48.ex I_m_mdt8_t48 (X_t49 0)
                      have la_n_t49 : m_la t49 n = (m_md t4) + 1 := by rw [j_t49.2.2.1]; exact la_n_t48
                      have wl_n_t49 : m_wh t49 ((m_md t4)) = 56 := by rw [j_t49.1]; exact wl_n_t48
                      clear la_n_t48 wl_n_t48
                      have la_m_mdt4_t49 : m_la t49 (m_md t4) = (m_md t8) + 1 := by rw [j_t49.2.2.1]; exact la_m_mdt4_t48
                      have wl_m_mdt4_t49 : m_wh t49 ((m_md t8)) = 13 := by rw [j_t49.1]; exact wl_m_mdt4_t48
                      clear la_m_mdt4_t48 wl_m_mdt4_t48
                      refine Ok_ret (show Ok _ _ _ from ?_)
                      refine Ok_ret (show Ok _ _ _ from ?_)
                      refine Hv_mk (Kv_c (x := (18, m_md t8, 1)) rfl (Kv_c (x := (5, m_md t8, 3)) rfl (Kv_c (x := (4, m_md t8, 3)) rfl hK))) (C_t49.1.2.2.2.2.2.2 hTt) C_t49 hT (by omega) (by omega) (by omega) ?_ ?_ ?_ (by omega) ?_ ?_ ?_
                      · exact ⟨(Io_n (by decide) (by decide) I_m_mdt8_t49.1 I_m_mdt8_t49.2.1 I_m_mdt8_t49.2.2.1 (fun q => absurd q (by decide)) (fun q => absurd q (by decide)) I_m_mdt8_t49.2.2.2), (Nd_0 (by decide) Mo_nil), ⟨(Io_n (by decide) (by decide) I_m_mdt8_t49.1 I_m_mdt8_t49.2.1 I_m_mdt8_t49.2.2.1 (fun q => absurd q (by decide)) (fun q => absurd q (by decide)) I_m_mdt8_t49.2.2.2), (Nd_5 (Mo_cons (fun q => show m_md t8 ≤ m_md t8 from by omega) Mo_nil) (Or.inl ⟨1, rfl⟩)), ⟨(Io_n (by decide) (by decide) I_m_mdt8_t49.1 I_m_mdt8_t49.2.1 I_m_mdt8_t49.2.2.1 (fun q => absurd q (by decide)) (fun q => absurd q (by decide)) I_m_mdt8_t49.2.2.2), (Nd_A (by decide) (Mo_cons (fun q => show m_md t8 ≤ m_md t8 from by omega) (Mo_cons (fun q => show m_md t8 ≤ m_md t8 from by omega) Mo_nil)) (Or.inr ⟨(18, m_md t8, 1), (List.mem_cons_of_mem _ List.mem_cons_self), rfl, Or.inr (Or.inl rfl)⟩)), Stk_step (N := n) (pop := (43, n, t)) (new := [(4, m_md t8, 3), (5, m_md t8, 3), (18, m_md t8, 1)]) F0 C_t49.1.to2 (fun (h : nk 43 = false) => absurd h (by decide)) (fun q _ h => h (43, n, t) rfl) (fun _ => rfl) (fun y hy hk => ⟨rfl, (Mo_cons (fun q => show n ≤ m_md t8 from by omega) (Mo_cons (fun q => show n ≤ m_md t8 from by omega) (Mo_cons (fun q => show n ≤ m_md t8 from by omega) Mo_nil))) y hy hk⟩) (fun (h : 43 = 3 ∨ 43 = 18 ∨ 43 = 41) => absurd h (by decide)) (fun (h : 43 = 18) => absurd h (by decide)) (fun _ h16 => (Or.inr ⟨f_n_t49, (Ab_some (y := (4, m_md t8, 3)) rfl (show n < m_md t8 from by omega)), H50_no la_n_t49 wl_n_t49 (by decide)⟩)) r [] (fun y hy => absurd hy List.not_mem_nil) hS⟩⟩⟩
                      · exact (Aj_up (x := (18, m_md t8, 1)) (Aj_up (x := (5, m_md t8, 3)) (Aj_sub (y := (4, m_md t8, 3)) hJ (Nat.le_of_ble_eq_true rfl)) (Or.inr (Nat.le_of_ble_eq_true rfl))) (Or.inr (Nat.le_of_ble_eq_true rfl)))
                      · show m_dp t49 = (dlt 18 + (dlt 5 + (dlt 4 + sD r)))
                        have : dlt 18 = 0 := rfl; have : dlt 4 = 0 := rfl; have : dlt 43 = 0 := rfl; have : dlt 5 = 0 := rfl; omega
                      · show m_rw t49 = (rho 18 + (rho 5 + (rho 4 + sR r)))
                        have : rho 18 = 0 := rfl; have : rho 4 = 0 := rfl; have : rho 43 = 0 := rfl; have : rho 5 = 0 := rfl; omega
                      · show m_md t49 + (mu7 18 + (mu7 5 + (mu7 4 + sM r))) ≤ 3 * m_at t49 + 7 * (r.length + 1 + 1 + 1) + 10
                        have : mu7 18 = 5 := rfl; have : mu7 4 = 7 := rfl; have : mu7 43 = 4 := rfl; have : mu7 5 = 7 := rfl; omega
                      · show (wt 18 + (wt 5 + (wt 4 + sW r))) + 6 * (4096 - m_at t49) + 4 * (600 - (r.length + 1 + 1 + 1)) < (wt 43 + sW r) + 6 * (4096 - m_at t0) + 4 * (600 - (r.length + 1))
                        have : wt 18 = 0 := rfl; have : wt 4 = 5 := rfl; have : wt 43 = 0 := rfl; have : wt 5 = 5 := rfl; omega
                    · refine Ok_ife (Nat.lt_trans (lo_lt (C_t10.tk hT) _) (by decide)) (by decide) (fun q50 => ?_) (fun q50 => ?_)
                      · refine Kp_push C_t10 (by omega) (fun t51 C_t51 X_t51 a_t51 b_t51 d_t51 w_t51 u_t51 v_t51 j_t51 l_t51 => ?_)
                        have e_t51 := C_t51.2.2.2.1
                        rw [a_t10] at a_t51
                        rw [b_t10] at b_t51
                        rw [d_t10] at d_t51
                        rw [w_t10] at w_t51
                        rw [u_t10] at u_t51
                        rw [v_t10] at v_t51
                        clear d_t10 w_t10 u_t10 v_t10 e_t10 a_t10 b_t10
                        have I_n_t51 := I_n_t10.flat X_t51
                        have f_n_t51 := f_n_t10.ex I_n_t10 (X_t51 0)
                        have u_n_t51 := u_n_t10.ex I_n_t10 (X_t51 0)
                        have I_m_mdt4_t51 := I_m_mdt4_t10.flat X_t51
                        have f_m_mdt4_t51 := f_m_mdt4_t10.ex I_m_mdt4_t10 (X_t51 0)
                        have I_m_mdt8_t51 := I_m_mdt8_t10.flat X_t51
                        have u_m_mdt8_t51 := u_m_mdt8_t10.ex I_m_mdt8_t10 (X_t51 0)
                        have la_n_t51 : m_la t51 n = (m_md t4) + 1 := by rw [j_t51.2.2.1]; exact la_n_t10
                        have wl_n_t51 : m_wh t51 ((m_md t4)) = 56 := by rw [j_t51.1]; exact wl_n_t10
                        clear la_n_t10 wl_n_t10
                        have la_m_mdt4_t51 : m_la t51 (m_md t4) = (m_md t8) + 1 := by rw [j_t51.2.2.1]; exact la_m_mdt4_t10
                        have wl_m_mdt4_t51 : m_wh t51 ((m_md t8)) = 13 := by rw [j_t51.1]; exact wl_m_mdt4_t10
                        clear la_m_mdt4_t10 wl_m_mdt4_t10
                        refine Kp_push C_t51 (by omega) (fun t52 C_t52 X_t52 a_t52 b_t52 d_t52 w_t52 u_t52 v_t52 j_t52 l_t52 => ?_)
                        have e_t52 := C_t52.2.2.2.1
                        rw [a_t51] at a_t52
                        rw [b_t51] at b_t52
                        rw [d_t51] at d_t52
                        rw [w_t51] at w_t52
                        rw [u_t51] at u_t52
                        rw [v_t51] at v_t52
                        clear d_t51 w_t51 u_t51 v_t51 e_t51 a_t51 b_t51
                        have I_n_t52 := I_n_t51.flat X_t52
                        have f_n_t52 := f_n_t51.ex I_n_t51 (X_t52 0)
                        have u_n_t52 := u_n_t51.ex I_n_t51 (X_t52 0)
                        have I_m_mdt4_t52 := I_m_mdt4_t51.flat X_t52
                        have f_m_mdt4_t52 := f_m_mdt4_t51.ex I_m_mdt4_t51 (X_t52 0)
                        have I_m_mdt8_t52 := I_m_mdt8_t51.flat X_t52
                        have u_m_mdt8_t52 := u_m_mdt8_t51.ex I_m_mdt8_t51 (X_t52 0)
                        have la_n_t52 : m_la t52 n = (m_md t4) + 1 := by rw [j_t52.2.2.1]; exact la_n_t51
                        have wl_n_t52 : m_wh t52 ((m_md t4)) = 56 := by rw [j_t52.1]; exact wl_n_t51
                        clear la_n_t51 wl_n_t51
                        have la_m_mdt4_t52 : m_la t52 (m_md t4) = (m_md t8) + 1 := by rw [j_t52.2.2.1]; exact la_m_mdt4_t51
                        have wl_m_mdt4_t52 : m_wh t52 ((m_md t8)) = 13 := by rw [j_t52.1]; exact wl_m_mdt4_t51
                        clear la_m_mdt4_t51 wl_m_mdt4_t51
                        refine Ok_ret (show Ok _ _ _ from ?_)
                        refine Ok_ret (show Ok _ _ _ from ?_)
                        refine Hv_mk (Kv_c (x := (18, m_md t8, 1)) rfl (Kv_c (x := (5, m_md t8, 3)) rfl (Kv_c (x := (4, m_md t8, 3)) rfl hK))) (C_t52.1.2.2.2.2.2.2 hTt) C_t52 hT (by omega) (by omega) (by omega) ?_ ?_ ?_ (by omega) ?_ ?_ ?_
                        · exact ⟨(Io_n (by decide) (by decide) I_m_mdt8_t52.1 I_m_mdt8_t52.2.1 I_m_mdt8_t52.2.2.1 (fun q => absurd q (by decide)) (fun q => absurd q (by decide)) I_m_mdt8_t52.2.2.2), (Nd_0 (by decide) Mo_nil), ⟨(Io_n (by decide) (by decide) I_m_mdt8_t52.1 I_m_mdt8_t52.2.1 I_m_mdt8_t52.2.2.1 (fun q => absurd q (by decide)) (fun q => absurd q (by decide)) I_m_mdt8_t52.2.2.2), (Nd_5 (Mo_cons (fun q => show m_md t8 ≤ m_md t8 from by omega) Mo_nil) (Or.inl ⟨1, rfl⟩)), ⟨(Io_n (by decide) (by decide) I_m_mdt8_t52.1 I_m_mdt8_t52.2.1 I_m_mdt8_t52.2.2.1 (fun q => absurd q (by decide)) (fun q => absurd q (by decide)) I_m_mdt8_t52.2.2.2), (Nd_A (by decide) (Mo_cons (fun q => show m_md t8 ≤ m_md t8 from by omega) (Mo_cons (fun q => show m_md t8 ≤ m_md t8 from by omega) Mo_nil)) (Or.inr ⟨(18, m_md t8, 1), (List.mem_cons_of_mem _ List.mem_cons_self), rfl, Or.inr (Or.inl rfl)⟩)), Stk_step (N := n) (pop := (43, n, t)) (new := [(4, m_md t8, 3), (5, m_md t8, 3), (18, m_md t8, 1)]) F0 C_t52.1.to2 (fun (h : nk 43 = false) => absurd h (by decide)) (fun q _ h => h (43, n, t) rfl) (fun _ => rfl) (fun y hy hk => ⟨rfl, (Mo_cons (fun q => show n ≤ m_md t8 from by omega) (Mo_cons (fun q => show n ≤ m_md t8 from by omega) (Mo_cons (fun q => show n ≤ m_md t8 from by omega) Mo_nil))) y hy hk⟩) (fun (h : 43 = 3 ∨ 43 = 18 ∨ 43 = 41) => absurd h (by decide)) (fun (h : 43 = 18) => absurd h (by decide)) (fun _ h16 => (Or.inr ⟨f_n_t52, (Ab_some (y := (4, m_md t8, 3)) rfl (show n < m_md t8 from by omega)), H50_no la_n_t52 wl_n_t52 (by decide)⟩)) r [] (fun y hy => absurd hy List.not_mem_nil) hS⟩⟩⟩
                        · exact (Aj_up (x := (18, m_md t8, 1)) (Aj_up (x := (5, m_md t8, 3)) (Aj_sub (y := (4, m_md t8, 3)) hJ (Nat.le_of_ble_eq_true rfl)) (Or.inr (Nat.le_of_ble_eq_true rfl))) (Or.inr (Nat.le_of_ble_eq_true rfl)))
                        · show m_dp t52 = (dlt 18 + (dlt 5 + (dlt 4 + sD r)))
                          have : dlt 18 = 0 := rfl; have : dlt 4 = 0 := rfl; have : dlt 43 = 0 := rfl; have : dlt 5 = 0 := rfl; omega
                        · show m_rw t52 = (rho 18 + (rho 5 + (rho 4 + sR r)))
                          have : rho 18 = 0 := rfl; have : rho 4 = 0 := rfl; have : rho 43 = 0 := rfl; have : rho 5 = 0 := rfl; omega
                        · show m_md t52 + (mu7 18 + (mu7 5 + (mu7 4 + sM r))) ≤ 3 * m_at t52 + 7 * (r.length + 1 + 1 + 1) + 10
                          have : mu7 18 = 5 := rfl; have : mu7 4 = 7 := rfl; have : mu7 43 = 4 := rfl; have : mu7 5 = 7 := rfl; omega
                        · show (wt 18 + (wt 5 + (wt 4 + sW r))) + 6 * (4096 - m_at t52) + 4 * (600 - (r.length + 1 + 1 + 1)) < (wt 43 + sW r) + 6 * (4096 - m_at t0) + 4 * (600 - (r.length + 1))
                          have : wt 18 = 0 := rfl; have : wt 4 = 5 := rfl; have : wt 43 = 0 := rfl; have : wt 5 = 5 := rfl; omega
                      · refine Ok_ife (Nat.lt_trans (lo_lt (C_t10.tk hT) _) (by decide)) (by decide) (fun q53 => ?_) (fun q53 => ?_)
                        · refine Kp_push C_t10 (by omega) (fun t54 C_t54 X_t54 a_t54 b_t54 d_t54 w_t54 u_t54 v_t54 j_t54 l_t54 => ?_)
                          have e_t54 := C_t54.2.2.2.1
                          rw [a_t10] at a_t54
                          rw [b_t10] at b_t54
                          rw [d_t10] at d_t54
                          rw [w_t10] at w_t54
                          rw [u_t10] at u_t54
                          rw [v_t10] at v_t54
                          clear d_t10 w_t10 u_t10 v_t10 e_t10 a_t10 b_t10
                          have I_n_t54 := I_n_t10.flat X_t54
                          have f_n_t54 := f_n_t10.ex I_n_t10 (X_t54 0)
                          have u_n_t54 := u_n_t10.ex I_n_t10 (X_t54 0)
                          have I_m_mdt4_t54 := I_m_mdt4_t10.flat X_t54
                          have f_m_mdt4_t54 := f_m_mdt4_t10.ex I_m_mdt4_t10 (X_t54 0)
                          have I_m_mdt8_t54 := I_m_mdt8_t10.flat X_t54
                          have u_m_mdt8_t54 := u_m_mdt8_t10.ex I_m_mdt8_t10 (X_t54 0)
                          have la_n_t54 : m_la t54 n = (m_md t4) + 1 := by rw [j_t54.2.2.1]; exact la_n_t10
                          have wl_n_t54 : m_wh t54 ((m_md t4)) = 56 := by rw [j_t54.1]; exact wl_n_t10
                          clear la_n_t10 wl_n_t10
                          have la_m_mdt4_t54 : m_la t54 (m_md t4) = (m_md t8) + 1 := by rw [j_t54.2.2.1]; exact la_m_mdt4_t10
                          have wl_m_mdt4_t54 : m_wh t54 ((m_md t8)) = 13 := by rw [j_t54.1]; exact wl_m_mdt4_t10
                          clear la_m_mdt4_t10 wl_m_mdt4_t10
                          refine Kp_push C_t54 (by omega) (fun t55 C_t55 X_t55 a_t55 b_t55 d_t55 w_t55 u_t55 v_t55 j_t55 l_t55 => ?_)
                          have e_t55 := C_t55.2.2.2.1
                          rw [a_t54] at a_t55
                          rw [b_t54] at b_t55
                          rw [d_t54] at d_t55
                          rw [w_t54] at w_t55
                          rw [u_t54] at u_t55
                          rw [v_t54] at v_t55
                          clear d_t54 w_t54 u_t54 v_t54 e_t54 a_t54 b_t54
                          have I_n_t55 := I_n_t54.flat X_t55
                          have f_n_t55 := f_n_t54.ex I_n_t54 (X_t55 0)
                          have u_n_t55 := u_n_t54.ex I_n_t54 (X_t55 0)
                          have I_m_mdt4_t55 := I_m_mdt4_t54.flat X_t55
                          have f_m_mdt4_t55 := f_m_mdt4_t54.ex I_m_mdt4_t54 (X_t55 0)
                          have I_m_mdt8_t55 := I_m_mdt8_t54.flat X_t55
                          have u_m_mdt8_t55 := u_m_mdt8_t54.ex I_m_mdt8_t54 (X_t55 0)
                          have la_n_t55 : m_la t55 n = (m_md t4) + 1 := by rw [j_t55.2.2.1]; exact la_n_t54
                          have wl_n_t55 : m_wh t55 ((m_md t4)) = 56 := by rw [j_t55.1]; exact wl_n_t54
                          clear la_n_t54 wl_n_t54
                          have la_m_mdt4_t55 : m_la t55 (m_md t4) = (m_md t8) + 1 := by rw [j_t55.2.2.1]; exact la_m_mdt4_t54
                          have wl_m_mdt4_t55 : m_wh t55 ((m_md t8)) = 13 := by rw [j_t55.1]; exact wl_m_mdt4_t54
                          clear la_m_mdt4_t54 wl_m_mdt4_t54
                          refine Ok_ret (show Ok _ _ _ from ?_)
                          refine Ok_ret (show Ok _ _ _ from ?_)
                          refine Hv_mk (Kv_c (x := (18, m_md t8, 1)) rfl (Kv_c (x := (5, m_md t8, 3)) rfl (Kv_c (x := (4, m_md t8, 3)) rfl hK))) (C_t55.1.2.2.2.2.2.2 hTt) C_t55 hT (by omega) (by omega) (by omega) ?_ ?_ ?_ (by omega) ?_ ?_ ?_
                          · exact ⟨(Io_n (by decide) (by decide) I_m_mdt8_t55.1 I_m_mdt8_t55.2.1 I_m_mdt8_t55.2.2.1 (fun q => absurd q (by decide)) (fun q => absurd q (by decide)) I_m_mdt8_t55.2.2.2), (Nd_0 (by decide) Mo_nil), ⟨(Io_n (by decide) (by decide) I_m_mdt8_t55.1 I_m_mdt8_t55.2.1 I_m_mdt8_t55.2.2.1 (fun q => absurd q (by decide)) (fun q => absurd q (by decide)) I_m_mdt8_t55.2.2.2), (Nd_5 (Mo_cons (fun q => show m_md t8 ≤ m_md t8 from by omega) Mo_nil) (Or.inl ⟨1, rfl⟩)), ⟨(Io_n (by decide) (by decide) I_m_mdt8_t55.1 I_m_mdt8_t55.2.1 I_m_mdt8_t55.2.2.1 (fun q => absurd q (by decide)) (fun q => absurd q (by decide)) I_m_mdt8_t55.2.2.2), (Nd_A (by decide) (Mo_cons (fun q => show m_md t8 ≤ m_md t8 from by omega) (Mo_cons (fun q => show m_md t8 ≤ m_md t8 from by omega) Mo_nil)) (Or.inr ⟨(18, m_md t8, 1), (List.mem_cons_of_mem _ List.mem_cons_self), rfl, Or.inr (Or.inl rfl)⟩)), Stk_step (N := n) (pop := (43, n, t)) (new := [(4, m_md t8, 3), (5, m_md t8, 3), (18, m_md t8, 1)]) F0 C_t55.1.to2 (fun (h : nk 43 = false) => absurd h (by decide)) (fun q _ h => h (43, n, t) rfl) (fun _ => rfl) (fun y hy hk => ⟨rfl, (Mo_cons (fun q => show n ≤ m_md t8 from by omega) (Mo_cons (fun q => show n ≤ m_md t8 from by omega) (Mo_cons (fun q => show n ≤ m_md t8 from by omega) Mo_nil))) y hy hk⟩) (fun (h : 43 = 3 ∨ 43 = 18 ∨ 43 = 41) => absurd h (by decide)) (fun (h : 43 = 18) => absurd h (by decide)) (fun _ h16 => (Or.inr ⟨f_n_t55, (Ab_some (y := (4, m_md t8, 3)) rfl (show n < m_md t8 from by omega)), H50_no la_n_t55 wl_n_t55 (by decide)⟩)) r [] (fun y hy => absurd hy List.not_mem_nil) hS⟩⟩⟩
                          · exact (Aj_up (x := (18, m_md t8, 1)) (Aj_up (x := (5, m_md t8, 3)) (Aj_sub (y := (4, m_md t8, 3)) hJ (Nat.le_of_ble_eq_true rfl)) (Or.inr (Nat.le_of_ble_eq_true rfl))) (Or.inr (Nat.le_of_ble_eq_true rfl)))
                          · show m_dp t55 = (dlt 18 + (dlt 5 + (dlt 4 + sD r)))
                            have : dlt 18 = 0 := rfl; have : dlt 4 = 0 := rfl; have : dlt 43 = 0 := rfl; have : dlt 5 = 0 := rfl; omega
                          · show m_rw t55 = (rho 18 + (rho 5 + (rho 4 + sR r)))
                            have : rho 18 = 0 := rfl; have : rho 4 = 0 := rfl; have : rho 43 = 0 := rfl; have : rho 5 = 0 := rfl; omega
                          · show m_md t55 + (mu7 18 + (mu7 5 + (mu7 4 + sM r))) ≤ 3 * m_at t55 + 7 * (r.length + 1 + 1 + 1) + 10
                            have : mu7 18 = 5 := rfl; have : mu7 4 = 7 := rfl; have : mu7 43 = 4 := rfl; have : mu7 5 = 7 := rfl; omega
                          · show (wt 18 + (wt 5 + (wt 4 + sW r))) + 6 * (4096 - m_at t55) + 4 * (600 - (r.length + 1 + 1 + 1)) < (wt 43 + sW r) + 6 * (4096 - m_at t0) + 4 * (600 - (r.length + 1))
                            have : wt 18 = 0 := rfl; have : wt 4 = 5 := rfl; have : wt 43 = 0 := rfl; have : wt 5 = 5 := rfl; omega
                        · refine Ok_ife (Nat.lt_trans (lo_lt (C_t10.tk hT) _) (by decide)) (by decide) (fun q56 => ?_) (fun q56 => ?_)
                          · refine Kp_push C_t10 (by omega) (fun t57 C_t57 X_t57 a_t57 b_t57 d_t57 w_t57 u_t57 v_t57 j_t57 l_t57 => ?_)
                            have e_t57 := C_t57.2.2.2.1
                            rw [a_t10] at a_t57
                            rw [b_t10] at b_t57
                            rw [d_t10] at d_t57
                            rw [w_t10] at w_t57
                            rw [u_t10] at u_t57
                            rw [v_t10] at v_t57
                            clear d_t10 w_t10 u_t10 v_t10 e_t10 a_t10 b_t10
                            have I_n_t57 := I_n_t10.flat X_t57
                            have f_n_t57 := f_n_t10.ex I_n_t10 (X_t57 0)
                            have u_n_t57 := u_n_t10.ex I_n_t10 (X_t57 0)
                            have I_m_mdt4_t57 := I_m_mdt4_t10.flat X_t57
                            have f_m_mdt4_t57 := f_m_mdt4_t10.ex I_m_mdt4_t10 (X_t57 0)
                            have I_m_mdt8_t57 := I_m_mdt8_t10.flat X_t57
                            have u_m_mdt8_t57 := u_m_mdt8_t10.ex I_m_mdt8_t10 (X_t57 0)
                            have la_n_t57 : m_la t57 n = (m_md t4) + 1 := by rw [j_t57.2.2.1]; exact la_n_t10
                            have wl_n_t57 : m_wh t57 ((m_md t4)) = 56 := by rw [j_t57.1]; exact wl_n_t10
                            clear la_n_t10 wl_n_t10
                            have la_m_mdt4_t57 : m_la t57 (m_md t4) = (m_md t8) + 1 := by rw [j_t57.2.2.1]; exact la_m_mdt4_t10
                            have wl_m_mdt4_t57 : m_wh t57 ((m_md t8)) = 13 := by rw [j_t57.1]; exact wl_m_mdt4_t10
                            clear la_m_mdt4_t10 wl_m_mdt4_t10
                            refine Kp_push C_t57 (by omega) (fun t58 C_t58 X_t58 a_t58 b_t58 d_t58 w_t58 u_t58 v_t58 j_t58 l_t58 => ?_)
                            have e_t58 := C_t58.2.2.2.1
                            rw [a_t57] at a_t58
                            rw [b_t57] at b_t58
                            rw [d_t57] at d_t58
                            rw [w_t57] at w_t58
                            rw [u_t57] at u_t58
                            rw [v_t57] at v_t58
                            clear d_t57 w_t57 u_t57 v_t57 e_t57 a_t57 b_t57
                            have I_n_t58 := I_n_t57.flat X_t58
                            have f_n_t58 := f_n_t57.ex I_n_t57 (X_t58 0)
                            have u_n_t58 := u_n_t57.ex I_n_t57 (X_t58 0)
                            have I_m_mdt4_t58 := I_m_mdt4_t57.flat X_t58
                            have f_m_mdt4_t58 := f_m_mdt4_t57.ex I_m_mdt4_t57 (X_t58 0)
                            have I_m_mdt8_t58 := I_m_mdt8_t57.flat X_t58
                            have u_m_mdt8_t58 := u_m_mdt8_t57.ex I_m_mdt8_t57 (X_t58 0)
                            have la_n_t58 : m_la t58 n = (m_md t4) + 1 := by rw [j_t58.2.2.1]; exact la_n_t57
                            have wl_n_t58 : m_wh t58 ((m_md t4)) = 56 := by rw [j_t58.1]; exact wl_n_t57
                            clear la_n_t57 wl_n_t57
                            have la_m_mdt4_t58 : m_la t58 (m_md t4) = (m_md t8) + 1 := by rw [j_t58.2.2.1]; exact la_m_mdt4_t57
                            have wl_m_mdt4_t58 : m_wh t58 ((m_md t8)) = 13 := by rw [j_t58.1]; exact wl_m_mdt4_t57
                            clear la_m_mdt4_t57 wl_m_mdt4_t57
                            refine Ok_ret (show Ok _ _ _ from ?_)
                            refine Ok_ret (show Ok _ _ _ from ?_)
                            refine Hv_mk (Kv_c (x := (18, m_md t8, 1)) rfl (Kv_c (x := (5, m_md t8, 3)) rfl (Kv_c (x := (4, m_md t8, 3)) rfl hK))) (C_t58.1.2.2.2.2.2.2 hTt) C_t58 hT (by omega) (by omega) (by omega) ?_ ?_ ?_ (by omega) ?_ ?_ ?_
                            · exact ⟨(Io_n (by decide) (by decide) I_m_mdt8_t58.1 I_m_mdt8_t58.2.1 I_m_mdt8_t58.2.2.1 (fun q => absurd q (by decide)) (fun q => absurd q (by decide)) I_m_mdt8_t58.2.2.2), (Nd_0 (by decide) Mo_nil), ⟨(Io_n (by decide) (by decide) I_m_mdt8_t58.1 I_m_mdt8_t58.2.1 I_m_mdt8_t58.2.2.1 (fun q => absurd q (by decide)) (fun q => absurd q (by decide)) I_m_mdt8_t58.2.2.2), (Nd_5 (Mo_cons (fun q => show m_md t8 ≤ m_md t8 from by omega) Mo_nil) (Or.inl ⟨1, rfl⟩)), ⟨(Io_n (by decide) (by decide) I_m_mdt8_t58.1 I_m_mdt8_t58.2.1 I_m_mdt8_t58.2.2.1 (fun q => absurd q (by decide)) (fun q => absurd q (by decide)) I_m_mdt8_t58.2.2.2), (Nd_A (by decide) (Mo_cons (fun q => show m_md t8 ≤ m_md t8 from by omega) (Mo_cons (fun q => show m_md t8 ≤ m_md t8 from by omega) Mo_nil)) (Or.inr ⟨(18, m_md t8, 1), (List.mem_cons_of_mem _ List.mem_cons_self), rfl, Or.inr (Or.inl rfl)⟩)), Stk_step (N := n) (pop := (43, n, t)) (new := [(4, m_md t8, 3), (5, m_md t8, 3), (18, m_md t8, 1)]) F0 C_t58.1.to2 (fun (h : nk 43 = false) => absurd h (by decide)) (fun q _ h => h (43, n, t) rfl) (fun _ => rfl) (fun y hy hk => ⟨rfl, (Mo_cons (fun q => show n ≤ m_md t8 from by omega) (Mo_cons (fun q => show n ≤ m_md t8 from by omega) (Mo_cons (fun q => show n ≤ m_md t8 from by omega) Mo_nil))) y hy hk⟩) (fun (h : 43 = 3 ∨ 43 = 18 ∨ 43 = 41) => absurd h (by decide)) (fun (h : 43 = 18) => absurd h (by decide)) (fun _ h16 => (Or.inr ⟨f_n_t58, (Ab_some (y := (4, m_md t8, 3)) rfl (show n < m_md t8 from by omega)), H50_no la_n_t58 wl_n_t58 (by decide)⟩)) r [] (fun y hy => absurd hy List.not_mem_nil) hS⟩⟩⟩
                            · exact (Aj_up (x := (18, m_md t8, 1)) (Aj_up (x := (5, m_md t8, 3)) (Aj_sub (y := (4, m_md t8, 3)) hJ (Nat.le_of_ble_eq_true rfl)) (Or.inr (Nat.le_of_ble_eq_true rfl))) (Or.inr (Nat.le_of_ble_eq_true rfl)))
                            · show m_dp t58 = (dlt 18 + (dlt 5 + (dlt 4 + sD r)))
                              have : dlt 18 = 0 := rfl; have : dlt 4 = 0 := rfl; have : dlt 43 = 0 := rfl; have : dlt 5 = 0 := rfl; omega
                            · show m_rw t58 = (rho 18 + (rho 5 + (rho 4 + sR r)))
                              have : rho 18 = 0 := rfl; have : rho 4 = 0 := rfl; have : rho 43 = 0 := rfl; have : rho 5 = 0 := rfl; omega
                            · show m_md t58 + (mu7 18 + (mu7 5 + (mu7 4 + sM r))) ≤ 3 * m_at t58 + 7 * (r.length + 1 + 1 + 1) + 10
                              have : mu7 18 = 5 := rfl; have : mu7 4 = 7 := rfl; have : mu7 43 = 4 := rfl; have : mu7 5 = 7 := rfl; omega
                            · show (wt 18 + (wt 5 + (wt 4 + sW r))) + 6 * (4096 - m_at t58) + 4 * (600 - (r.length + 1 + 1 + 1)) < (wt 43 + sW r) + 6 * (4096 - m_at t0) + 4 * (600 - (r.length + 1))
                              have : wt 18 = 0 := rfl; have : wt 4 = 5 := rfl; have : wt 43 = 0 := rfl; have : wt 5 = 5 := rfl; omega
                          · refine Kp_error C_t10 (by omega) (fun t59 C_t59 X_t59 a_t59 b_t59 d_t59 w_t59 u_t59 v_t59 j_t59 l_t59 => ?_)
                            have wb_t59 := w_t59.2
                            have w_t59 := Nat.pos_of_ne_zero w_t59.1
                            have e_t59 := C_t59.2.2.2.1
                            have I_n_t59 := I_n_t10.flat X_t59
                            have f_n_t59 := f_n_t10.ex I_n_t10 (X_t59 0)
                            have u_n_t59 := u_n_t10.ex I_n_t10 (X_t59 0)
                            have I_m_mdt4_t59 := I_m_mdt4_t10.flat X_t59
                            have f_m_mdt4_t59 := f_m_mdt4_t10.ex I_m_mdt4_t10 (X_t59 0)
                            have I_m_mdt8_t59 := I_m_mdt8_t10.flat X_t59
                            have u_m_mdt8_t59 := u_m_mdt8_t10.ex I_m_mdt8_t10 (X_t59 0)
                            have la_n_t59 : m_la t59 n = (m_md t4) + 1 := by rw [j_t59.2.2.1]; exact la_n_t10
                            have wl_n_t59 : m_wh t59 ((m_md t4)) = 56 := by rw [j_t59.1]; exact wl_n_t10
                            clear la_n_t10 wl_n_t10
                            have la_m_mdt4_t59 : m_la t59 (m_md t4) = (m_md t8) + 1 := by rw [j_t59.2.2.1]; exact la_m_mdt4_t10
                            have wl_m_mdt4_t59 : m_wh t59 ((m_md t8)) = 13 := by rw [j_t59.1]; exact wl_m_mdt4_t10
                            clear la_m_mdt4_t10 wl_m_mdt4_t10
                            refine Ok_ret (show Ok _ _ _ from ?_)
                            refine Ok_ret (show Ok _ _ _ from ?_)
                            exact Or.inl ⟨Nat.ne_of_gt (show 0 < m_wr t59 from by omega), by omega, by omega, C_t59.2.2.2.2.2, by omega⟩
        · refine Kp_child C_t10 I_m_mdt8_t10.1 I_m_mdt8_t10.2.1 I_m_mdt8_t10.2.2.1 (by omega) (by omega) (by decide) (by decide) (fun t60 C_t60 X_t60 a_t60 b_t60 d_t60 w_t60 u_t60 v_t60 j_t60 l_t60 => ?_)
          have e_t60 := C_t60.2.2.2.1
          rw [a_t10] at a_t60
          rw [b_t10] at b_t60
          rw [d_t10] at d_t60
          rw [w_t10] at w_t60
          rw [u_t10] at u_t60
          rw [v_t10] at v_t60
          clear d_t10 w_t10 u_t10 v_t10 e_t10 a_t10
          have I_n_t60 := I_n_t10.chd X_t60 j_t60
          have f_n_t60 := f_n_t10.ex I_n_t10 (X_t60 0 (Nat.zero_le _))
          have u_n_t60 := u_n_t10.ex I_n_t10 (X_t60 0 (Nat.zero_le _))
          have I_m_mdt4_t60 := I_m_mdt4_t10.chd X_t60 j_t60
          have f_m_mdt4_t60 := f_m_mdt4_t10.ex I_m_mdt4_t10 (X_t60 0 (Nat.zero_le _))
          have I_m_mdt8_t60 := I_m_mdt8_t10.chd X_t60 j_t60
          have u_m_mdt8_t60 := u_m_mdt8_t10.ex I_m_mdt8_t10 (X_t60 0 (Nat.zero_le _))
          have la_n_t60 : m_la t60 n = (m_md t4) + 1 := by rw [(j_t60.2.2.2.2.2.2.2.1 n I_n_t10.1 (by omega)).1]; exact la_n_t10
          have wl_n_t60 : m_wh t60 ((m_md t4)) = 56 := by rw [(j_t60.2.2.2.2.2.2.1 ((m_md t4)) (by omega)).2]; exact wl_n_t10
          clear la_n_t10 wl_n_t10
          have la_m_mdt4_t60 : m_la t60 (m_md t4) = (m_md t8) + 1 := by rw [(j_t60.2.2.2.2.2.2.2.1 (m_md t4) I_m_mdt4_t10.1 (by omega)).1]; exact la_m_mdt4_t10
          have wl_m_mdt4_t60 : m_wh t60 ((m_md t8)) = 13 := by rw [(j_t60.2.2.2.2.2.2.1 ((m_md t8)) (by omega)).2]; exact wl_m_mdt4_t10
          clear la_m_mdt4_t10 wl_m_mdt4_t10
          have f_m_mdt8_t60 : Fz t60 (m_md t8) := j_t60.2.2.2.2.1
          have I_m_mdt10_t60 : Nq t60 (m_md t10) := Nq.chn j_t60 (by omega) I_m_mdt8_t10 (by decide)
          have u_m_mdt10_t60 : Up t60 (m_md t10) := Or.inl j_t60.2.1
          have la_m_mdt8_t60 : m_la t60 (m_md t8) = (m_md t10) + 1 := j_t60.2.2.2.2.2.1
          have wl_m_mdt8_t60 : m_wh t60 (m_md t10) = 88 := j_t60.1
          have z_t61 : m_at t60 < m_ct t60 := lo_ne (Nat.ne_of_gt (show 0 < lo t60 (m_at t60) from by omega))
          refine Kp_at C_t60 (fun t61 C_t61 X_t61 a_t61 b_t61 d_t61 w_t61 u_t61 v_t61 j_t61 l_t61 => ?_)
          have e_t61 := C_t61.2.2.2.1
          rw [a_t60] at a_t61
          rw [b_t60] at b_t61
          rw [d_t60] at d_t61
          rw [w_t60] at w_t61
          rw [u_t60] at u_t61
          rw [v_t60] at v_t61
          rw [a_t60, e_t60] at z_t61
          clear z_t8
          clear d_t60 w_t60 u_t60 v_t60 e_t60 a_t60 b_t60
          have I_n_t61 := I_n_t60.flat X_t61
          have f_n_t61 := f_n_t60.ex I_n_t60 (X_t61 0)
          have u_n_t61 := u_n_t60.ex I_n_t60 (X_t61 0)
          have I_m_mdt4_t61 := I_m_mdt4_t60.flat X_t61
          have f_m_mdt4_t61 := f_m_mdt4_t60.ex I_m_mdt4_t60 (X_t61 0)
          have I_m_mdt8_t61 := I_m_mdt8_t60.flat X_t61
          have f_m_mdt8_t61 := f_m_mdt8_t60.ex I_m_mdt8_t60 (X_t61 0)
          have u_m_mdt8_t61 := u_m_mdt8_t60.ex I_m_mdt8_t60 (X_t61 0)
          have I_m_mdt10_t61 := I_m_mdt10_t60.flat X_t61
          have u_m_mdt10_t61 := u_m_mdt10_t60.ex I_m_mdt10_t60 (X_t61 0)
          have la_n_t61 : m_la t61 n = (m_md t4) + 1 := by rw [j_t61.2.2.1]; exact la_n_t60
          have wl_n_t61 : m_wh t61 ((m_md t4)) = 56 := by rw [j_t61.1]; exact wl_n_t60
          clear la_n_t60 wl_n_t60
          have la_m_mdt4_t61 : m_la t61 (m_md t4) = (m_md t8) + 1 := by rw [j_t61.2.2.1]; exact la_m_mdt4_t60
          have wl_m_mdt4_t61 : m_wh t61 ((m_md t8)) = 13 := by rw [j_t61.1]; exact wl_m_mdt4_t60
          clear la_m_mdt4_t60 wl_m_mdt4_t60
          have la_m_mdt8_t61 : m_la t61 (m_md t8) = (m_md t10) + 1 := by rw [j_t61.2.2.1]; exact la_m_mdt8_t60
          have wl_m_mdt8_t61 : m_wh t61 ((m_md t10)) = 88 := by rw [j_t61.1]; exact wl_m_mdt8_t60
          clear la_m_mdt8_t60 wl_m_mdt8_t60
          refine Ok_ret (show Ok _ _ _ from ?_)
          refine Ok_ret (show Ok _ _ _ from ?_)
          refine Hv_mk (Kv_c (x := (4, m_md t8, 3)) rfl hK) (C_t61.1.2.2.2.2.2.2 hTt) C_t61 hT (by omega) (by omega) (by omega) ?_ ?_ ?_ (by omega) ?_ ?_ ?_
          · exact ⟨(Io_n (by decide) (by decide) I_m_mdt8_t61.1 I_m_mdt8_t61.2.1 I_m_mdt8_t61.2.2.1 (fun q => absurd q (by decide)) (fun q => absurd q (by decide)) I_m_mdt8_t61.2.2.2), (Nd_A (by decide) Mo_nil (Or.inl f_m_mdt8_t61)), Stk_step (N := n) (pop := (43, n, t)) (new := [(4, m_md t8, 3)]) F0 C_t61.1.to2 (fun (h : nk 43 = false) => absurd h (by decide)) (fun q _ h => h (43, n, t) rfl) (fun _ => rfl) (fun y hy hk => ⟨rfl, (Mo_cons (fun q => show n ≤ m_md t8 from by omega) Mo_nil) y hy hk⟩) (fun (h : 43 = 3 ∨ 43 = 18 ∨ 43 = 41) => absurd h (by decide)) (fun (h : 43 = 18) => absurd h (by decide)) (fun _ h16 => (Or.inr ⟨f_n_t61, (Ab_some (y := (4, m_md t8, 3)) rfl (show n < m_md t8 from by omega)), H50_no la_n_t61 wl_n_t61 (by decide)⟩)) r [] (fun y hy => absurd hy List.not_mem_nil) hS⟩
          · exact (Aj_sub (y := (4, m_md t8, 3)) hJ (Nat.le_of_ble_eq_true rfl))
          · show m_dp t61 = (dlt 4 + sD r)
            have : dlt 4 = 0 := rfl; have : dlt 43 = 0 := rfl; omega
          · show m_rw t61 = (rho 4 + sR r)
            have : rho 4 = 0 := rfl; have : rho 43 = 0 := rfl; omega
          · show m_md t61 + (mu7 4 + sM r) ≤ 3 * m_at t61 + 7 * (r.length + 1) + 10
            have : mu7 4 = 7 := rfl; have : mu7 43 = 4 := rfl; omega
          · show (wt 4 + sW r) + 6 * (4096 - m_at t61) + 4 * (600 - (r.length + 1)) < (wt 43 + sW r) + 6 * (4096 - m_at t0) + 4 * (600 - (r.length + 1))
            have : wt 4 = 5 := rfl; have : wt 43 = 0 := rfl; omega
      · refine Ok_ife (Nat.lt_trans (lo_lt (C_t10.tk hT) _) (by decide)) (by decide) (fun q62 => ?_) (fun q62 => ?_)
        · refine Ok_bnc ?_
          try unfold b_X6_name
          refine Kp_look C_t10 hT (by omega) ?_
          refine Ok_ife (Nat.lt_trans (lo_lt (C_t10.tk hT) _) (by decide)) (by decide) (fun q => ?_) (fun q => absurd q62 q)
          refine Kp_child C_t10 I_m_mdt8_t10.1 I_m_mdt8_t10.2.1 I_m_mdt8_t10.2.2.1 (by omega) (by omega) (by decide) (by decide) (fun t64 C_t64 X_t64 a_t64 b_t64 d_t64 w_t64 u_t64 v_t64 j_t64 l_t64 => ?_)
          have e_t64 := C_t64.2.2.2.1
          rw [a_t10] at a_t64
          rw [b_t10] at b_t64
          rw [d_t10] at d_t64
          rw [w_t10] at w_t64
          rw [u_t10] at u_t64
          rw [v_t10] at v_t64
          clear d_t10 w_t10 u_t10 v_t10 e_t10 a_t10
          have I_n_t64 := I_n_t10.chd X_t64 j_t64
          have f_n_t64 := f_n_t10.ex I_n_t10 (X_t64 0 (Nat.zero_le _))
          have u_n_t64 := u_n_t10.ex I_n_t10 (X_t64 0 (Nat.zero_le _))
          have I_m_mdt4_t64 := I_m_mdt4_t10.chd X_t64 j_t64
          have f_m_mdt4_t64 := f_m_mdt4_t10.ex I_m_mdt4_t10 (X_t64 0 (Nat.zero_le _))
          have I_m_mdt8_t64 := I_m_mdt8_t10.chd X_t64 j_t64
          have u_m_mdt8_t64 := u_m_mdt8_t10.ex I_m_mdt8_t10 (X_t64 0 (Nat.zero_le _))
          have la_n_t64 : m_la t64 n = (m_md t4) + 1 := by rw [(j_t64.2.2.2.2.2.2.2.1 n I_n_t10.1 (by omega)).1]; exact la_n_t10
          have wl_n_t64 : m_wh t64 ((m_md t4)) = 56 := by rw [(j_t64.2.2.2.2.2.2.1 ((m_md t4)) (by omega)).2]; exact wl_n_t10
          clear la_n_t10 wl_n_t10
          have la_m_mdt4_t64 : m_la t64 (m_md t4) = (m_md t8) + 1 := by rw [(j_t64.2.2.2.2.2.2.2.1 (m_md t4) I_m_mdt4_t10.1 (by omega)).1]; exact la_m_mdt4_t10
          have wl_m_mdt4_t64 : m_wh t64 ((m_md t8)) = 13 := by rw [(j_t64.2.2.2.2.2.2.1 ((m_md t8)) (by omega)).2]; exact wl_m_mdt4_t10
          clear la_m_mdt4_t10 wl_m_mdt4_t10
          have f_m_mdt8_t64 : Fz t64 (m_md t8) := j_t64.2.2.2.2.1
          have I_m_mdt10_t64 : Nq t64 (m_md t10) := Nq.chn j_t64 (by omega) I_m_mdt8_t10 (by decide)
          have u_m_mdt10_t64 : Up t64 (m_md t10) := Or.inl j_t64.2.1
          have la_m_mdt8_t64 : m_la t64 (m_md t8) = (m_md t10) + 1 := j_t64.2.2.2.2.2.1
          have wl_m_mdt8_t64 : m_wh t64 (m_md t10) = 5 := j_t64.1
          have z_t65 : m_at t64 < m_ct t64 := lo_ne (Nat.ne_of_gt (show 0 < lo t64 (m_at t64) from by omega))
          refine Kp_at C_t64 (fun t65 C_t65 X_t65 a_t65 b_t65 d_t65 w_t65 u_t65 v_t65 j_t65 l_t65 => ?_)
          have e_t65 := C_t65.2.2.2.1
          rw [a_t64] at a_t65
          rw [b_t64] at b_t65
          rw [d_t64] at d_t65
          rw [w_t64] at w_t65
          rw [u_t64] at u_t65
          rw [v_t64] at v_t65
          rw [a_t64, e_t64] at z_t65
          clear z_t8
          clear d_t64 w_t64 u_t64 v_t64 e_t64 a_t64 b_t64
          have I_n_t65 := I_n_t64.flat X_t65
          have f_n_t65 := f_n_t64.ex I_n_t64 (X_t65 0)
          have u_n_t65 := u_n_t64.ex I_n_t64 (X_t65 0)
          have I_m_mdt4_t65 := I_m_mdt4_t64.flat X_t65
          have f_m_mdt4_t65 := f_m_mdt4_t64.ex I_m_mdt4_t64 (X_t65 0)
          have I_m_mdt8_t65 := I_m_mdt8_t64.flat X_t65
          have f_m_mdt8_t65 := f_m_mdt8_t64.ex I_m_mdt8_t64 (X_t65 0)
          have u_m_mdt8_t65 := u_m_mdt8_t64.ex I_m_mdt8_t64 (X_t65 0)
          have I_m_mdt10_t65 := I_m_mdt10_t64.flat X_t65
          have u_m_mdt10_t65 := u_m_mdt10_t64.ex I_m_mdt10_t64 (X_t65 0)
          have la_n_t65 : m_la t65 n = (m_md t4) + 1 := by rw [j_t65.2.2.1]; exact la_n_t64
          have wl_n_t65 : m_wh t65 ((m_md t4)) = 56 := by rw [j_t65.1]; exact wl_n_t64
          clear la_n_t64 wl_n_t64
          have la_m_mdt4_t65 : m_la t65 (m_md t4) = (m_md t8) + 1 := by rw [j_t65.2.2.1]; exact la_m_mdt4_t64
          have wl_m_mdt4_t65 : m_wh t65 ((m_md t8)) = 13 := by rw [j_t65.1]; exact wl_m_mdt4_t64
          clear la_m_mdt4_t64 wl_m_mdt4_t64
          have la_m_mdt8_t65 : m_la t65 (m_md t8) = (m_md t10) + 1 := by rw [j_t65.2.2.1]; exact la_m_mdt8_t64
          have wl_m_mdt8_t65 : m_wh t65 ((m_md t10)) = 5 := by rw [j_t65.1]; exact wl_m_mdt8_t64
          clear la_m_mdt8_t64 wl_m_mdt8_t64
          refine Ok_ret (show Ok _ _ _ from ?_)
          refine Kp_push C_t65 (by omega) (fun t66 C_t66 X_t66 a_t66 b_t66 d_t66 w_t66 u_t66 v_t66 j_t66 l_t66 => ?_)
          have e_t66 := C_t66.2.2.2.1
          rw [a_t65] at a_t66
          rw [b_t65] at b_t66
          rw [d_t65] at d_t66
          rw [w_t65] at w_t66
          rw [u_t65] at u_t66
          rw [v_t65] at v_t66
          clear d_t65 w_t65 u_t65 v_t65 e_t65 a_t65 b_t65
          have I_n_t66 := I_n_t65.flat X_t66
          have f_n_t66 := f_n_t65.ex I_n_t65 (X_t66 0)
          have u_n_t66 := u_n_t65.ex I_n_t65 (X_t66 0)
          have I_m_mdt4_t66 := I_m_mdt4_t65.flat X_t66
          have f_m_mdt4_t66 := f_m_mdt4_t65.ex I_m_mdt4_t65 (X_t66 0)
          have I_m_mdt8_t66 := I_m_mdt8_t65.flat X_t66
          have f_m_mdt8_t66 := f_m_mdt8_t65.ex I_m_mdt8_t65 (X_t66 0)
          have u_m_mdt8_t66 := u_m_mdt8_t65.ex I_m_mdt8_t65 (X_t66 0)
          have I_m_mdt10_t66 := I_m_mdt10_t65.flat X_t66
          have u_m_mdt10_t66 := u_m_mdt10_t65.ex I_m_mdt10_t65 (X_t66 0)
          have la_n_t66 : m_la t66 n = (m_md t4) + 1 := by rw [j_t66.2.2.1]; exact la_n_t65
          have wl_n_t66 : m_wh t66 ((m_md t4)) = 56 := by rw [j_t66.1]; exact wl_n_t65
          clear la_n_t65 wl_n_t65
          have la_m_mdt4_t66 : m_la t66 (m_md t4) = (m_md t8) + 1 := by rw [j_t66.2.2.1]; exact la_m_mdt4_t65
          have wl_m_mdt4_t66 : m_wh t66 ((m_md t8)) = 13 := by rw [j_t66.1]; exact wl_m_mdt4_t65
          clear la_m_mdt4_t65 wl_m_mdt4_t65
          have la_m_mdt8_t66 : m_la t66 (m_md t8) = (m_md t10) + 1 := by rw [j_t66.2.2.1]; exact la_m_mdt8_t65
          have wl_m_mdt8_t66 : m_wh t66 ((m_md t10)) = 5 := by rw [j_t66.1]; exact wl_m_mdt8_t65
          clear la_m_mdt8_t65 wl_m_mdt8_t65
          refine Ok_ret (show Ok _ _ _ from ?_)
          refine Ok_ret (show Ok _ _ _ from ?_)
          refine Hv_mk (Kv_c (x := (5, m_md t8, 3)) rfl (Kv_c (x := (4, m_md t8, 3)) rfl hK)) (C_t66.1.2.2.2.2.2.2 hTt) C_t66 hT (by omega) (by omega) (by omega) ?_ ?_ ?_ (by omega) ?_ ?_ ?_
          · exact ⟨(Io_n (by decide) (by decide) I_m_mdt8_t66.1 I_m_mdt8_t66.2.1 I_m_mdt8_t66.2.2.1 (fun q => absurd q (by decide)) (fun q => absurd q (by decide)) I_m_mdt8_t66.2.2.2), (Nd_5 Mo_nil (Or.inr (N5_mk f_m_mdt8_t66 (Ab_none rfl) la_m_mdt8_t66 wl_m_mdt8_t66 (Or.inl (by decide))))), ⟨(Io_n (by decide) (by decide) I_m_mdt8_t66.1 I_m_mdt8_t66.2.1 I_m_mdt8_t66.2.2.1 (fun q => absurd q (by decide)) (fun q => absurd q (by decide)) I_m_mdt8_t66.2.2.2), (Nd_A (by decide) (Mo_cons (fun q => show m_md t8 ≤ m_md t8 from by omega) Mo_nil) (Or.inl f_m_mdt8_t66)), Stk_step (N := n) (pop := (43, n, t)) (new := [(4, m_md t8, 3), (5, m_md t8, 3)]) F0 C_t66.1.to2 (fun (h : nk 43 = false) => absurd h (by decide)) (fun q _ h => h (43, n, t) rfl) (fun _ => rfl) (fun y hy hk => ⟨rfl, (Mo_cons (fun q => show n ≤ m_md t8 from by omega) (Mo_cons (fun q => show n ≤ m_md t8 from by omega) Mo_nil)) y hy hk⟩) (fun (h : 43 = 3 ∨ 43 = 18 ∨ 43 = 41) => absurd h (by decide)) (fun (h : 43 = 18) => absurd h (by decide)) (fun _ h16 => (Or.inr ⟨f_n_t66, (Ab_some (y := (4, m_md t8, 3)) rfl (show n < m_md t8 from by omega)), H50_no la_n_t66 wl_n_t66 (by decide)⟩)) r [] (fun y hy => absurd hy List.not_mem_nil) hS⟩⟩
          · exact (Aj_up (x := (5, m_md t8, 3)) (Aj_sub (y := (4, m_md t8, 3)) hJ (Nat.le_of_ble_eq_true rfl)) (Or.inr (Nat.le_of_ble_eq_true rfl)))
          · show m_dp t66 = (dlt 5 + (dlt 4 + sD r))
            have : dlt 4 = 0 := rfl; have : dlt 43 = 0 := rfl; have : dlt 5 = 0 := rfl; omega
          · show m_rw t66 = (rho 5 + (rho 4 + sR r))
            have : rho 4 = 0 := rfl; have : rho 43 = 0 := rfl; have : rho 5 = 0 := rfl; omega
          · show m_md t66 + (mu7 5 + (mu7 4 + sM r)) ≤ 3 * m_at t66 + 7 * (r.length + 1 + 1) + 10
            have : mu7 4 = 7 := rfl; have : mu7 43 = 4 := rfl; have : mu7 5 = 7 := rfl; omega
          · show (wt 5 + (wt 4 + sW r)) + 6 * (4096 - m_at t66) + 4 * (600 - (r.length + 1 + 1)) < (wt 43 + sW r) + 6 * (4096 - m_at t0) + 4 * (600 - (r.length + 1))
            have : wt 4 = 5 := rfl; have : wt 43 = 0 := rfl; have : wt 5 = 5 := rfl; omega
        · refine Ok_ife (Nat.lt_trans (lo_lt (C_t10.tk hT) _) (by decide)) (by decide) (fun q67 => ?_) (fun q67 => ?_)
          · refine Kp_child C_t10 I_m_mdt8_t10.1 I_m_mdt8_t10.2.1 I_m_mdt8_t10.2.2.1 (by omega) (by omega) (by decide) (by decide) (fun t68 C_t68 X_t68 a_t68 b_t68 d_t68 w_t68 u_t68 v_t68 j_t68 l_t68 => ?_)
            have e_t68 := C_t68.2.2.2.1
            rw [a_t10] at a_t68
            rw [b_t10] at b_t68
            rw [d_t10] at d_t68
            rw [w_t10] at w_t68
            rw [u_t10] at u_t68
            rw [v_t10] at v_t68
            clear d_t10 w_t10 u_t10 v_t10 e_t10 a_t10
            have I_n_t68 := I_n_t10.chd X_t68 j_t68
            have f_n_t68 := f_n_t10.ex I_n_t10 (X_t68 0 (Nat.zero_le _))
            have u_n_t68 := u_n_t10.ex I_n_t10 (X_t68 0 (Nat.zero_le _))
            have I_m_mdt4_t68 := I_m_mdt4_t10.chd X_t68 j_t68
            have f_m_mdt4_t68 := f_m_mdt4_t10.ex I_m_mdt4_t10 (X_t68 0 (Nat.zero_le _))
            have I_m_mdt8_t68 := I_m_mdt8_t10.chd X_t68 j_t68
            have u_m_mdt8_t68 := u_m_mdt8_t10.ex I_m_mdt8_t10 (X_t68 0 (Nat.zero_le _))
            have la_n_t68 : m_la t68 n = (m_md t4) + 1 := by rw [(j_t68.2.2.2.2.2.2.2.1 n I_n_t10.1 (by omega)).1]; exact la_n_t10
            have wl_n_t68 : m_wh t68 ((m_md t4)) = 56 := by rw [(j_t68.2.2.2.2.2.2.1 ((m_md t4)) (by omega)).2]; exact wl_n_t10
            clear la_n_t10 wl_n_t10
            have la_m_mdt4_t68 : m_la t68 (m_md t4) = (m_md t8) + 1 := by rw [(j_t68.2.2.2.2.2.2.2.1 (m_md t4) I_m_mdt4_t10.1 (by omega)).1]; exact la_m_mdt4_t10
            have wl_m_mdt4_t68 : m_wh t68 ((m_md t8)) = 13 := by rw [(j_t68.2.2.2.2.2.2.1 ((m_md t8)) (by omega)).2]; exact wl_m_mdt4_t10
            clear la_m_mdt4_t10 wl_m_mdt4_t10
            have f_m_mdt8_t68 : Fz t68 (m_md t8) := j_t68.2.2.2.2.1
            have I_m_mdt10_t68 : Nq t68 (m_md t10) := Nq.chn j_t68 (by omega) I_m_mdt8_t10 (by decide)
            have u_m_mdt10_t68 : Up t68 (m_md t10) := Or.inl j_t68.2.1
            have la_m_mdt8_t68 : m_la t68 (m_md t8) = (m_md t10) + 1 := j_t68.2.2.2.2.2.1
            have wl_m_mdt8_t68 : m_wh t68 (m_md t10) = 89 := j_t68.1
            refine Kp_more C_t68 (by omega) (by omega) (fun t69 C_t69 X_t69 a_t69 b_t69 d_t69 w_t69 u_t69 v_t69 j_t69 l_t69 => ?_)
            have e_t69 := C_t69.2.2.2.1
            rcases w_t69 with ⟨w_t69, y_t69⟩ | ⟨w_t69, wb_t69⟩
            · rw [a_t68] at a_t69
              rw [b_t68] at b_t69
              rw [d_t68] at d_t69
              rw [w_t68] at w_t69
              rw [u_t68] at u_t69
              rw [v_t68] at v_t69
              rw [d_t69] at y_t69
              clear d_t68 w_t68 u_t68 v_t68 e_t68 a_t68 b_t68
              have I_n_t69 := I_n_t68.flat X_t69
              have f_n_t69 := f_n_t68.ex I_n_t68 (X_t69 0)
              have u_n_t69 := u_n_t68.ex I_n_t68 (X_t69 0)
              have I_m_mdt4_t69 := I_m_mdt4_t68.flat X_t69
              have f_m_mdt4_t69 := f_m_mdt4_t68.ex I_m_mdt4_t68 (X_t69 0)
              have I_m_mdt8_t69 := I_m_mdt8_t68.flat X_t69
              have f_m_mdt8_t69 := f_m_mdt8_t68.ex I_m_mdt8_t68 (X_t69 0)
              have u_m_mdt8_t69 := u_m_mdt8_t68.ex I_m_mdt8_t68 (X_t69 0)
              have I_m_mdt10_t69 := I_m_mdt10_t68.flat X_t69
              have u_m_mdt10_t69 := u_m_mdt10_t68.ex I_m_mdt10_t68 (X_t69 0)
              have la_n_t69 : m_la t69 n = (m_md t4) + 1 := by rw [j_t69.2.2.1]; exact la_n_t68
              have wl_n_t69 : m_wh t69 ((m_md t4)) = 56 := by rw [j_t69.1]; exact wl_n_t68
              clear la_n_t68 wl_n_t68
              have la_m_mdt4_t69 : m_la t69 (m_md t4) = (m_md t8) + 1 := by rw [j_t69.2.2.1]; exact la_m_mdt4_t68
              have wl_m_mdt4_t69 : m_wh t69 ((m_md t8)) = 13 := by rw [j_t69.1]; exact wl_m_mdt4_t68
              clear la_m_mdt4_t68 wl_m_mdt4_t68
              have la_m_mdt8_t69 : m_la t69 (m_md t8) = (m_md t10) + 1 := by rw [j_t69.2.2.1]; exact la_m_mdt8_t68
              have wl_m_mdt8_t69 : m_wh t69 ((m_md t10)) = 89 := by rw [j_t69.1]; exact wl_m_mdt8_t68
              clear la_m_mdt8_t68 wl_m_mdt8_t68
              have z_t70 : m_at t69 < m_ct t69 := lo_ne (Nat.ne_of_gt (show 0 < lo t69 (m_at t69) from by omega))
              refine Kp_at C_t69 (fun t70 C_t70 X_t70 a_t70 b_t70 d_t70 w_t70 u_t70 v_t70 j_t70 l_t70 => ?_)
              have e_t70 := C_t70.2.2.2.1
              rw [a_t69] at a_t70
              rw [b_t69] at b_t70
              rw [d_t69] at d_t70
              rw [w_t69] at w_t70
              rw [u_t69] at u_t70
              rw [v_t69] at v_t70
              rw [a_t69, e_t69] at z_t70
              clear z_t8
              clear d_t69 w_t69 u_t69 v_t69 e_t69 a_t69 b_t69
              have I_n_t70 := I_n_t69.flat X_t70
              have f_n_t70 := f_n_t69.ex I_n_t69 (X_t70 0)
              have u_n_t70 := u_n_t69.ex I_n_t69 (X_t70 0)
              have I_m_mdt4_t70 := I_m_mdt4_t69.flat X_t70
              have f_m_mdt4_t70 := f_m_mdt4_t69.ex I_m_mdt4_t69 (X_t70 0)
              have I_m_mdt8_t70 := I_m_mdt8_t69.flat X_t70
              have f_m_mdt8_t70 := f_m_mdt8_t69.ex I_m_mdt8_t69 (X_t70 0)
              have u_m_mdt8_t70 := u_m_mdt8_t69.ex I_m_mdt8_t69 (X_t70 0)
              have I_m_mdt10_t70 := I_m_mdt10_t69.flat X_t70
              have u_m_mdt10_t70 := u_m_mdt10_t69.ex I_m_mdt10_t69 (X_t70 0)
              have la_n_t70 : m_la t70 n = (m_md t4) + 1 := by rw [j_t70.2.2.1]; exact la_n_t69
              have wl_n_t70 : m_wh t70 ((m_md t4)) = 56 := by rw [j_t70.1]; exact wl_n_t69
              clear la_n_t69 wl_n_t69
              have la_m_mdt4_t70 : m_la t70 (m_md t4) = (m_md t8) + 1 := by rw [j_t70.2.2.1]; exact la_m_mdt4_t69
              have wl_m_mdt4_t70 : m_wh t70 ((m_md t8)) = 13 := by rw [j_t70.1]; exact wl_m_mdt4_t69
              clear la_m_mdt4_t69 wl_m_mdt4_t69
              have la_m_mdt8_t70 : m_la t70 (m_md t8) = (m_md t10) + 1 := by rw [j_t70.2.2.1]; exact la_m_mdt8_t69
              have wl_m_mdt8_t70 : m_wh t70 ((m_md t10)) = 89 := by rw [j_t70.1]; exact wl_m_mdt8_t69
              clear la_m_mdt8_t69 wl_m_mdt8_t69
              refine Kp_push C_t70 (by omega) (fun t71 C_t71 X_t71 a_t71 b_t71 d_t71 w_t71 u_t71 v_t71 j_t71 l_t71 => ?_)
              have e_t71 := C_t71.2.2.2.1
              rw [a_t70] at a_t71
              rw [b_t70] at b_t71
              rw [d_t70] at d_t71
              rw [w_t70] at w_t71
              rw [u_t70] at u_t71
              rw [v_t70] at v_t71
              clear d_t70 w_t70 u_t70 v_t70 e_t70 a_t70 b_t70
              have I_n_t71 := I_n_t70.flat X_t71
              have f_n_t71 := f_n_t70.ex I_n_t70 (X_t71 0)
              have u_n_t71 := u_n_t70.ex I_n_t70 (X_t71 0)
              have I_m_mdt4_t71 := I_m_mdt4_t70.flat X_t71
              have f_m_mdt4_t71 := f_m_mdt4_t70.ex I_m_mdt4_t70 (X_t71 0)
              have I_m_mdt8_t71 := I_m_mdt8_t70.flat X_t71
              have f_m_mdt8_t71 := f_m_mdt8_t70.ex I_m_mdt8_t70 (X_t71 0)
              have u_m_mdt8_t71 := u_m_mdt8_t70.ex I_m_mdt8_t70 (X_t71 0)
              have I_m_mdt10_t71 := I_m_mdt10_t70.flat X_t71
              have u_m_mdt10_t71 := u_m_mdt10_t70.ex I_m_mdt10_t70 (X_t71 0)
              have la_n_t71 : m_la t71 n = (m_md t4) + 1 := by rw [j_t71.2.2.1]; exact la_n_t70
              have wl_n_t71 : m_wh t71 ((m_md t4)) = 56 := by rw [j_t71.1]; exact wl_n_t70
              clear la_n_t70 wl_n_t70
              have la_m_mdt4_t71 : m_la t71 (m_md t4) = (m_md t8) + 1 := by rw [j_t71.2.2.1]; exact la_m_mdt4_t70
              have wl_m_mdt4_t71 : m_wh t71 ((m_md t8)) = 13 := by rw [j_t71.1]; exact wl_m_mdt4_t70
              clear la_m_mdt4_t70 wl_m_mdt4_t70
              have la_m_mdt8_t71 : m_la t71 (m_md t8) = (m_md t10) + 1 := by rw [j_t71.2.2.1]; exact la_m_mdt8_t70
              have wl_m_mdt8_t71 : m_wh t71 ((m_md t10)) = 89 := by rw [j_t71.1]; exact wl_m_mdt8_t70
              clear la_m_mdt8_t70 wl_m_mdt8_t70
              refine Ok_bnc ?_
              try unfold b_X6_expression
              refine Kp_push C_t71 (by omega) (fun t73 C_t73 X_t73 a_t73 b_t73 d_t73 w_t73 u_t73 v_t73 j_t73 l_t73 => ?_)
              have e_t73 := C_t73.2.2.2.1
              rw [a_t71] at a_t73
              rw [b_t71] at b_t73
              rw [d_t71] at d_t73
              rw [w_t71] at w_t73
              rw [u_t71] at u_t73
              rw [v_t71] at v_t73
              clear d_t71 w_t71 u_t71 v_t71 e_t71 a_t71 b_t71
              have I_n_t73 := I_n_t71.flat X_t73
              have f_n_t73 := f_n_t71.ex I_n_t71 (X_t73 0)
              have u_n_t73 := u_n_t71.ex I_n_t71 (X_t73 0)
              have I_m_mdt4_t73 := I_m_mdt4_t71.flat X_t73
              have f_m_mdt4_t73 := f_m_mdt4_t71.ex I_m_mdt4_t71 (X_t73 0)
              have I_m_mdt8_t73 := I_m_mdt8_t71.flat X_t73
              have f_m_mdt8_t73 := f_m_mdt8_t71.ex I_m_mdt8_t71 (X_t73 0)
              have u_m_mdt8_t73 := u_m_mdt8_t71.ex I_m_mdt8_t71 (X_t73 0)
              have I_m_mdt10_t73 := I_m_mdt10_t71.flat X_t73
              have u_m_mdt10_t73 := u_m_mdt10_t71.ex I_m_mdt10_t71 (X_t73 0)
              have la_n_t73 : m_la t73 n = (m_md t4) + 1 := by rw [j_t73.2.2.1]; exact la_n_t71
              have wl_n_t73 : m_wh t73 ((m_md t4)) = 56 := by rw [j_t73.1]; exact wl_n_t71
              clear la_n_t71 wl_n_t71
              have la_m_mdt4_t73 : m_la t73 (m_md t4) = (m_md t8) + 1 := by rw [j_t73.2.2.1]; exact la_m_mdt4_t71
              have wl_m_mdt4_t73 : m_wh t73 ((m_md t8)) = 13 := by rw [j_t73.1]; exact wl_m_mdt4_t71
              clear la_m_mdt4_t71 wl_m_mdt4_t71
              have la_m_mdt8_t73 : m_la t73 (m_md t8) = (m_md t10) + 1 := by rw [j_t73.2.2.1]; exact la_m_mdt8_t71
              have wl_m_mdt8_t73 : m_wh t73 ((m_md t10)) = 89 := by rw [j_t73.1]; exact wl_m_mdt8_t71
              clear la_m_mdt8_t71 wl_m_mdt8_t71
              refine Kp_push C_t73 (by omega) (fun t74 C_t74 X_t74 a_t74 b_t74 d_t74 w_t74 u_t74 v_t74 j_t74 l_t74 => ?_)
              have e_t74 := C_t74.2.2.2.1
              rw [a_t73] at a_t74
              rw [b_t73] at b_t74
              rw [d_t73] at d_t74
              rw [w_t73] at w_t74
              rw [u_t73] at u_t74
              rw [v_t73] at v_t74
              clear d_t73 w_t73 u_t73 v_t73 e_t73 a_t73 b_t73
              have I_n_t74 := I_n_t73.flat X_t74
              have f_n_t74 := f_n_t73.ex I_n_t73 (X_t74 0)
              have u_n_t74 := u_n_t73.ex I_n_t73 (X_t74 0)
              have I_m_mdt4_t74 := I_m_mdt4_t73.flat X_t74
              have f_m_mdt4_t74 := f_m_mdt4_t73.ex I_m_mdt4_t73 (X_t74 0)
              have I_m_mdt8_t74 := I_m_mdt8_t73.flat X_t74
              have f_m_mdt8_t74 := f_m_mdt8_t73.ex I_m_mdt8_t73 (X_t74 0)
              have u_m_mdt8_t74 := u_m_mdt8_t73.ex I_m_mdt8_t73 (X_t74 0)
              have I_m_mdt10_t74 := I_m_mdt10_t73.flat X_t74
              have u_m_mdt10_t74 := u_m_mdt10_t73.ex I_m_mdt10_t73 (X_t74 0)
              have la_n_t74 : m_la t74 n = (m_md t4) + 1 := by rw [j_t74.2.2.1]; exact la_n_t73
              have wl_n_t74 : m_wh t74 ((m_md t4)) = 56 := by rw [j_t74.1]; exact wl_n_t73
              clear la_n_t73 wl_n_t73
              have la_m_mdt4_t74 : m_la t74 (m_md t4) = (m_md t8) + 1 := by rw [j_t74.2.2.1]; exact la_m_mdt4_t73
              have wl_m_mdt4_t74 : m_wh t74 ((m_md t8)) = 13 := by rw [j_t74.1]; exact wl_m_mdt4_t73
              clear la_m_mdt4_t73 wl_m_mdt4_t73
              have la_m_mdt8_t74 : m_la t74 (m_md t8) = (m_md t10) + 1 := by rw [j_t74.2.2.1]; exact la_m_mdt8_t73
              have wl_m_mdt8_t74 : m_wh t74 ((m_md t10)) = 89 := by rw [j_t74.1]; exact wl_m_mdt8_t73
              clear la_m_mdt8_t73 wl_m_mdt8_t73
              refine Ok_ret (show Ok _ _ _ from ?_)
              refine Ok_ret (show Ok _ _ _ from ?_)
              refine Ok_ret (show Ok _ _ _ from ?_)
              refine Hv_mk (Kv_c (x := (3, m_md t10, 0)) rfl (Kv_c (x := (2, m_md t10, 0 ||| (1 * 256))) rfl (Kv_c (x := (8, 79, 0)) rfl (Kv_c (x := (4, m_md t8, 3)) rfl hK)))) (C_t74.1.2.2.2.2.2.2 hTt) C_t74 hT (by omega) (by omega) (by omega) ?_ ?_ ?_ (by omega) ?_ ?_ ?_
              · exact ⟨(Io_n (by decide) (by decide) I_m_mdt10_t74.1 I_m_mdt10_t74.2.1 I_m_mdt10_t74.2.2.1 (fun q => absurd q (by decide)) (fun q => absurd q (by decide)) I_m_mdt10_t74.2.2.2), (Nd_0 (by decide) Mo_nil), ⟨(Io_2 (by have := or_256 (b := 1) (show 0 < 256 from by omega); omega) (by have := or_256 (b := 1) (show 0 < 256 from by omega); omega) (by have := or_256 (b := 1) (show 0 < 256 from by omega); omega) I_m_mdt10_t74.1 I_m_mdt10_t74.2.1 I_m_mdt10_t74.2.2.1 I_m_mdt10_t74.2.2.2), (Nd_A (by decide) (Mo_cons (fun q => show m_md t10 ≤ m_md t10 from by omega) Mo_nil) (Or.inr ⟨(3, m_md t10, 0), List.mem_cons_self, rfl, Or.inl rfl⟩)), ⟨(Io_78 (by decide) (by decide) (by decide)), (Nd_x (by decide)), ⟨(Io_n (by decide) (by decide) I_m_mdt8_t74.1 I_m_mdt8_t74.2.1 I_m_mdt8_t74.2.2.1 (fun q => absurd q (by decide)) (fun q => absurd q (by decide)) I_m_mdt8_t74.2.2.2), (Nd_A (by decide) (Mo_cons (fun q => absurd (show nk 8 = true from q) (by decide)) (Mo_cons (fun q => show m_md t8 ≤ m_md t10 from by omega) (Mo_cons (fun q => show m_md t8 ≤ m_md t10 from by omega) Mo_nil))) (Or.inl f_m_mdt8_t74)), Stk_step (N := n) (pop := (43, n, t)) (new := [(4, m_md t8, 3), (8, 79, 0), (2, m_md t10, 0 ||| (1 * 256)), (3, m_md t10, 0)]) F0 C_t74.1.to2 (fun (h : nk 43 = false) => absurd h (by decide)) (fun q _ h => h (43, n, t) rfl) (fun _ => rfl) (fun y hy hk => ⟨rfl, (Mo_cons (fun q => show n ≤ m_md t8 from by omega) (Mo_cons (fun q => absurd (show nk 8 = true from q) (by decide)) (Mo_cons (fun q => show n ≤ m_md t10 from by omega) (Mo_cons (fun q => show n ≤ m_md t10 from by omega) Mo_nil)))) y hy hk⟩) (fun (h : 43 = 3 ∨ 43 = 18 ∨ 43 = 41) => absurd h (by decide)) (fun (h : 43 = 18) => absurd h (by decide)) (fun _ h16 => (Or.inr ⟨f_n_t74, (Ab_some (y := (4, m_md t8, 3)) rfl (show n < m_md t8 from by omega)), H50_no la_n_t74 wl_n_t74 (by decide)⟩)) r [] (fun y hy => absurd hy List.not_mem_nil) hS⟩⟩⟩⟩
              · exact (Aj_up (x := (3, m_md t10, 0)) (Aj_up (x := (2, m_md t10, 0 ||| (1 * 256))) (Aj_up (x := (8, 79, 0)) (Aj_sub (y := (4, m_md t8, 3)) hJ (Nat.le_of_ble_eq_true rfl)) (Or.inr (Nat.le_of_ble_eq_true rfl))) (Or.inl (Nat.le_of_ble_eq_true rfl))) (Or.inr (show 2 < 9 - (0 ||| (1 * 256)) / 256 from by have := or_256 (b := 1) (show 0 < 256 from by omega); omega)))
              · show m_dp t74 = (dlt 3 + (dlt 2 + (dlt 8 + (dlt 4 + sD r))))
                have : dlt 2 = 0 := rfl; have : dlt 3 = 0 := rfl; have : dlt 4 = 0 := rfl; have : dlt 43 = 0 := rfl; have : dlt 8 = 1 := rfl; omega
              · show m_rw t74 = (rho 3 + (rho 2 + (rho 8 + (rho 4 + sR r))))
                have : rho 2 = 0 := rfl; have : rho 3 = 0 := rfl; have : rho 4 = 0 := rfl; have : rho 43 = 0 := rfl; have : rho 8 = 0 := rfl; omega
              · show m_md t74 + (mu7 3 + (mu7 2 + (mu7 8 + (mu7 4 + sM r)))) ≤ 3 * m_at t74 + 7 * (r.length + 1 + 1 + 1 + 1) + 10
                have : mu7 2 = 7 := rfl; have : mu7 3 = 5 := rfl; have : mu7 4 = 7 := rfl; have : mu7 43 = 4 := rfl; have : mu7 8 = 4 := rfl; omega
              · show (wt 3 + (wt 2 + (wt 8 + (wt 4 + sW r)))) + 6 * (4096 - m_at t74) + 4 * (600 - (r.length + 1 + 1 + 1 + 1)) < (wt 43 + sW r) + 6 * (4096 - m_at t0) + 4 * (600 - (r.length + 1))
                have : wt 2 = 5 := rfl; have : wt 3 = 3 := rfl; have : wt 4 = 5 := rfl; have : wt 43 = 0 := rfl; have : wt 8 = 0 := rfl; omega
            · have w_t69 := Nat.pos_of_ne_zero w_t69
              have I_n_t69 := I_n_t68.flat X_t69
              have f_n_t69 := f_n_t68.ex I_n_t68 (X_t69 0)
              have u_n_t69 := u_n_t68.ex I_n_t68 (X_t69 0)
              have I_m_mdt4_t69 := I_m_mdt4_t68.flat X_t69
              have f_m_mdt4_t69 := f_m_mdt4_t68.ex I_m_mdt4_t68 (X_t69 0)
              have I_m_mdt8_t69 := I_m_mdt8_t68.flat X_t69
              have f_m_mdt8_t69 := f_m_mdt8_t68.ex I_m_mdt8_t68 (X_t69 0)
              have u_m_mdt8_t69 := u_m_mdt8_t68.ex I_m_mdt8_t68 (X_t69 0)
              have I_m_mdt10_t69 := I_m_mdt10_t68.flat X_t69
              have u_m_mdt10_t69 := u_m_mdt10_t68.ex I_m_mdt10_t68 (X_t69 0)
              have la_n_t69 : m_la t69 n = (m_md t4) + 1 := by rw [j_t69.2.2.1]; exact la_n_t68
              have wl_n_t69 : m_wh t69 ((m_md t4)) = 56 := by rw [j_t69.1]; exact wl_n_t68
              clear la_n_t68 wl_n_t68
              have la_m_mdt4_t69 : m_la t69 (m_md t4) = (m_md t8) + 1 := by rw [j_t69.2.2.1]; exact la_m_mdt4_t68
              have wl_m_mdt4_t69 : m_wh t69 ((m_md t8)) = 13 := by rw [j_t69.1]; exact wl_m_mdt4_t68
              clear la_m_mdt4_t68 wl_m_mdt4_t68
              have la_m_mdt8_t69 : m_la t69 (m_md t8) = (m_md t10) + 1 := by rw [j_t69.2.2.1]; exact la_m_mdt8_t68
              have wl_m_mdt8_t69 : m_wh t69 ((m_md t10)) = 89 := by rw [j_t69.1]; exact wl_m_mdt8_t68
              clear la_m_mdt8_t68 wl_m_mdt8_t68
              refine Kp_at C_t69 (fun t75 C_t75 X_t75 a_t75 b_t75 d_t75 w_t75 u_t75 v_t75 j_t75 l_t75 => ?_)
              have e_t75 := C_t75.2.2.2.1
              have I_n_t75 := I_n_t69.flat X_t75
              have f_n_t75 := f_n_t69.ex I_n_t69 (X_t75 0)
              have u_n_t75 := u_n_t69.ex I_n_t69 (X_t75 0)
              have I_m_mdt4_t75 := I_m_mdt4_t69.flat X_t75
              have f_m_mdt4_t75 := f_m_mdt4_t69.ex I_m_mdt4_t69 (X_t75 0)
              have I_m_mdt8_t75 := I_m_mdt8_t69.flat X_t75
              have f_m_mdt8_t75 := f_m_mdt8_t69.ex I_m_mdt8_t69 (X_t75 0)
              have u_m_mdt8_t75 := u_m_mdt8_t69.ex I_m_mdt8_t69 (X_t75 0)
              have I_m_mdt10_t75 := I_m_mdt10_t69.flat X_t75
              have u_m_mdt10_t75 := u_m_mdt10_t69.ex I_m_mdt10_t69 (X_t75 0)
              have la_n_t75 : m_la t75 n = (m_md t4) + 1 := by rw [j_t75.2.2.1]; exact la_n_t69
              have wl_n_t75 : m_wh t75 ((m_md t4)) = 56 := by rw [j_t75.1]; exact wl_n_t69
              clear la_n_t69 wl_n_t69
              have la_m_mdt4_t75 : m_la t75 (m_md t4) = (m_md t8) + 1 := by rw [j_t75.2.2.1]; exact la_m_mdt4_t69
              have wl_m_mdt4_t75 : m_wh t75 ((m_md t8)) = 13 := by rw [j_t75.1]; exact wl_m_mdt4_t69
              clear la_m_mdt4_t69 wl_m_mdt4_t69
              have la_m_mdt8_t75 : m_la t75 (m_md t8) = (m_md t10) + 1 := by rw [j_t75.2.2.1]; exact la_m_mdt8_t69
              have wl_m_mdt8_t75 : m_wh t75 ((m_md t10)) = 89 := by rw [j_t75.1]; exact wl_m_mdt8_t69
              clear la_m_mdt8_t69 wl_m_mdt8_t69
              refine Kp_push C_t75 (by omega) (fun t76 C_t76 X_t76 a_t76 b_t76 d_t76 w_t76 u_t76 v_t76 j_t76 l_t76 => ?_)
              have e_t76 := C_t76.2.2.2.1
              have I_n_t76 := I_n_t75.flat X_t76
              have f_n_t76 := f_n_t75.ex I_n_t75 (X_t76 0)
              have u_n_t76 := u_n_t75.ex I_n_t75 (X_t76 0)
              have I_m_mdt4_t76 := I_m_mdt4_t75.flat X_t76
              have f_m_mdt4_t76 := f_m_mdt4_t75.ex I_m_mdt4_t75 (X_t76 0)
              have I_m_mdt8_t76 := I_m_mdt8_t75.flat X_t76
              have f_m_mdt8_t76 := f_m_mdt8_t75.ex I_m_mdt8_t75 (X_t76 0)
              have u_m_mdt8_t76 := u_m_mdt8_t75.ex I_m_mdt8_t75 (X_t76 0)
              have I_m_mdt10_t76 := I_m_mdt10_t75.flat X_t76
              have u_m_mdt10_t76 := u_m_mdt10_t75.ex I_m_mdt10_t75 (X_t76 0)
              have la_n_t76 : m_la t76 n = (m_md t4) + 1 := by rw [j_t76.2.2.1]; exact la_n_t75
              have wl_n_t76 : m_wh t76 ((m_md t4)) = 56 := by rw [j_t76.1]; exact wl_n_t75
              clear la_n_t75 wl_n_t75
              have la_m_mdt4_t76 : m_la t76 (m_md t4) = (m_md t8) + 1 := by rw [j_t76.2.2.1]; exact la_m_mdt4_t75
              have wl_m_mdt4_t76 : m_wh t76 ((m_md t8)) = 13 := by rw [j_t76.1]; exact wl_m_mdt4_t75
              clear la_m_mdt4_t75 wl_m_mdt4_t75
              have la_m_mdt8_t76 : m_la t76 (m_md t8) = (m_md t10) + 1 := by rw [j_t76.2.2.1]; exact la_m_mdt8_t75
              have wl_m_mdt8_t76 : m_wh t76 ((m_md t10)) = 89 := by rw [j_t76.1]; exact wl_m_mdt8_t75
              clear la_m_mdt8_t75 wl_m_mdt8_t75
              refine Ok_bnc ?_
              try unfold b_X6_expression
              refine Kp_push C_t76 (by omega) (fun t78 C_t78 X_t78 a_t78 b_t78 d_t78 w_t78 u_t78 v_t78 j_t78 l_t78 => ?_)
              have e_t78 := C_t78.2.2.2.1
              have I_n_t78 := I_n_t76.flat X_t78
              have f_n_t78 := f_n_t76.ex I_n_t76 (X_t78 0)
              have u_n_t78 := u_n_t76.ex I_n_t76 (X_t78 0)
              have I_m_mdt4_t78 := I_m_mdt4_t76.flat X_t78
              have f_m_mdt4_t78 := f_m_mdt4_t76.ex I_m_mdt4_t76 (X_t78 0)
              have I_m_mdt8_t78 := I_m_mdt8_t76.flat X_t78
              have f_m_mdt8_t78 := f_m_mdt8_t76.ex I_m_mdt8_t76 (X_t78 0)
              have u_m_mdt8_t78 := u_m_mdt8_t76.ex I_m_mdt8_t76 (X_t78 0)
              have I_m_mdt10_t78 := I_m_mdt10_t76.flat X_t78
              have u_m_mdt10_t78 := u_m_mdt10_t76.ex I_m_mdt10_t76 (X_t78 0)
              have la_n_t78 : m_la t78 n = (m_md t4) + 1 := by rw [j_t78.2.2.1]; exact la_n_t76
              have wl_n_t78 : m_wh t78 ((m_md t4)) = 56 := by rw [j_t78.1]; exact wl_n_t76
              clear la_n_t76 wl_n_t76
              have la_m_mdt4_t78 : m_la t78 (m_md t4) = (m_md t8) + 1 := by rw [j_t78.2.2.1]; exact la_m_mdt4_t76
              have wl_m_mdt4_t78 : m_wh t78 ((m_md t8)) = 13 := by rw [j_t78.1]; exact wl_m_mdt4_t76
              clear la_m_mdt4_t76 wl_m_mdt4_t76
              have la_m_mdt8_t78 : m_la t78 (m_md t8) = (m_md t10) + 1 := by rw [j_t78.2.2.1]; exact la_m_mdt8_t76
              have wl_m_mdt8_t78 : m_wh t78 ((m_md t10)) = 89 := by rw [j_t78.1]; exact wl_m_mdt8_t76
              clear la_m_mdt8_t76 wl_m_mdt8_t76
              refine Kp_push C_t78 (by omega) (fun t79 C_t79 X_t79 a_t79 b_t79 d_t79 w_t79 u_t79 v_t79 j_t79 l_t79 => ?_)
              have e_t79 := C_t79.2.2.2.1
              have I_n_t79 := I_n_t78.flat X_t79
              have f_n_t79 := f_n_t78.ex I_n_t78 (X_t79 0)
              have u_n_t79 := u_n_t78.ex I_n_t78 (X_t79 0)
              have I_m_mdt4_t79 := I_m_mdt4_t78.flat X_t79
              have f_m_mdt4_t79 := f_m_mdt4_t78.ex I_m_mdt4_t78 (X_t79 0)
              have I_m_mdt8_t79 := I_m_mdt8_t78.flat X_t79
              have f_m_mdt8_t79 := f_m_mdt8_t78.ex I_m_mdt8_t78 (X_t79 0)
              have u_m_mdt8_t79 := u_m_mdt8_t78.ex I_m_mdt8_t78 (X_t79 0)
              have I_m_mdt10_t79 := I_m_mdt10_t78.flat X_t79
              have u_m_mdt10_t79 := u_m_mdt10_t78.ex I_m_mdt10_t78 (X_t79 0)
              have la_n_t79 : m_la t79 n = (m_md t4) + 1 := by rw [j_t79.2.2.1]; exact la_n_t78
              have wl_n_t79 : m_wh t79 ((m_md t4)) = 56 := by rw [j_t79.1]; exact wl_n_t78
              clear la_n_t78 wl_n_t78
              have la_m_mdt4_t79 : m_la t79 (m_md t4) = (m_md t8) + 1 := by rw [j_t79.2.2.1]; exact la_m_mdt4_t78
              have wl_m_mdt4_t79 : m_wh t79 ((m_md t8)) = 13 := by rw [j_t79.1]; exact wl_m_mdt4_t78
              clear la_m_mdt4_t78 wl_m_mdt4_t78
              have la_m_mdt8_t79 : m_la t79 (m_md t8) = (m_md t10) + 1 := by rw [j_t79.2.2.1]; exact la_m_mdt8_t78
              have wl_m_mdt8_t79 : m_wh t79 ((m_md t10)) = 89 := by rw [j_t79.1]; exact wl_m_mdt8_t78
              clear la_m_mdt8_t78 wl_m_mdt8_t78
              refine Ok_ret (show Ok _ _ _ from ?_)
              refine Ok_ret (show Ok _ _ _ from ?_)
              refine Ok_ret (show Ok _ _ _ from ?_)
              exact Or.inl ⟨Nat.ne_of_gt (show 0 < m_wr t79 from by omega), by omega, by omega, C_t79.2.2.2.2.2, by omega⟩
          · refine Ok_ife (Nat.lt_trans (lo_lt (C_t10.tk hT) _) (by decide)) (by decide) (fun q80 => ?_) (fun q80 => ?_)
            · refine Kp_child C_t10 I_m_mdt8_t10.1 I_m_mdt8_t10.2.1 I_m_mdt8_t10.2.2.1 (by omega) (by omega) (by decide) (by decide) (fun t81 C_t81 X_t81 a_t81 b_t81 d_t81 w_t81 u_t81 v_t81 j_t81 l_t81 => ?_)
              have e_t81 := C_t81.2.2.2.1
              rw [a_t10] at a_t81
              rw [b_t10] at b_t81
              rw [d_t10] at d_t81
              rw [w_t10] at w_t81
              rw [u_t10] at u_t81
              rw [v_t10] at v_t81
              clear d_t10 w_t10 u_t10 v_t10 e_t10 a_t10
              have I_n_t81 := I_n_t10.chd X_t81 j_t81
              have f_n_t81 := f_n_t10.ex I_n_t10 (X_t81 0 (Nat.zero_le _))
              have u_n_t81 := u_n_t10.ex I_n_t10 (X_t81 0 (Nat.zero_le _))
              have I_m_mdt4_t81 := I_m_mdt4_t10.chd X_t81 j_t81
              have f_m_mdt4_t81 := f_m_mdt4_t10.ex I_m_mdt4_t10 (X_t81 0 (Nat.zero_le _))
              have I_m_mdt8_t81 := I_m_mdt8_t10.chd X_t81 j_t81
              have u_m_mdt8_t81 := u_m_mdt8_t10.ex I_m_mdt8_t10 (X_t81 0 (Nat.zero_le _))
              have la_n_t81 : m_la t81 n = (m_md t4) + 1 := by rw [(j_t81.2.2.2.2.2.2.2.1 n I_n_t10.1 (by omega)).1]; exact la_n_t10
              have wl_n_t81 : m_wh t81 ((m_md t4)) = 56 := by rw [(j_t81.2.2.2.2.2.2.1 ((m_md t4)) (by omega)).2]; exact wl_n_t10
              clear la_n_t10 wl_n_t10
              have la_m_mdt4_t81 : m_la t81 (m_md t4) = (m_md t8) + 1 := by rw [(j_t81.2.2.2.2.2.2.2.1 (m_md t4) I_m_mdt4_t10.1 (by omega)).1]; exact la_m_mdt4_t10
              have wl_m_mdt4_t81 : m_wh t81 ((m_md t8)) = 13 := by rw [(j_t81.2.2.2.2.2.2.1 ((m_md t8)) (by omega)).2]; exact wl_m_mdt4_t10
              clear la_m_mdt4_t10 wl_m_mdt4_t10
              have f_m_mdt8_t81 : Fz t81 (m_md t8) := j_t81.2.2.2.2.1
              have I_m_mdt10_t81 : Nq t81 (m_md t10) := Nq.chn j_t81 (by omega) I_m_mdt8_t10 (by decide)
              have u_m_mdt10_t81 : Up t81 (m_md t10) := Or.inl j_t81.2.1
              have la_m_mdt8_t81 : m_la t81 (m_md t8) = (m_md t10) + 1 := j_t81.2.2.2.2.2.1
              have wl_m_mdt8_t81 : m_wh t81 (m_md t10) = 29 := j_t81.1
              refine Kp_more C_t81 (by omega) (by omega) (fun t82 C_t82 X_t82 a_t82 b_t82 d_t82 w_t82 u_t82 v_t82 j_t82 l_t82 => ?_)
              have e_t82 := C_t82.2.2.2.1
              rcases w_t82 with ⟨w_t82, y_t82⟩ | ⟨w_t82, wb_t82⟩
              · rw [a_t81] at a_t82
                rw [b_t81] at b_t82
                rw [d_t81] at d_t82
                rw [w_t81] at w_t82
                rw [u_t81] at u_t82
                rw [v_t81] at v_t82
                rw [d_t82] at y_t82
                clear d_t81 w_t81 u_t81 v_t81 e_t81 a_t81 b_t81
                have I_n_t82 := I_n_t81.flat X_t82
                have f_n_t82 := f_n_t81.ex I_n_t81 (X_t82 0)
                have u_n_t82 := u_n_t81.ex I_n_t81 (X_t82 0)
                have I_m_mdt4_t82 := I_m_mdt4_t81.flat X_t82
                have f_m_mdt4_t82 := f_m_mdt4_t81.ex I_m_mdt4_t81 (X_t82 0)
                have I_m_mdt8_t82 := I_m_mdt8_t81.flat X_t82
                have f_m_mdt8_t82 := f_m_mdt8_t81.ex I_m_mdt8_t81 (X_t82 0)
                have u_m_mdt8_t82 := u_m_mdt8_t81.ex I_m_mdt8_t81 (X_t82 0)
                have I_m_mdt10_t82 := I_m_mdt10_t81.flat X_t82
                have u_m_mdt10_t82 := u_m_mdt10_t81.ex I_m_mdt10_t81 (X_t82 0)
                have la_n_t82 : m_la t82 n = (m_md t4) + 1 := by rw [j_t82.2.2.1]; exact la_n_t81
                have wl_n_t82 : m_wh t82 ((m_md t4)) = 56 := by rw [j_t82.1]; exact wl_n_t81
                clear la_n_t81 wl_n_t81
                have la_m_mdt4_t82 : m_la t82 (m_md t4) = (m_md t8) + 1 := by rw [j_t82.2.2.1]; exact la_m_mdt4_t81
                have wl_m_mdt4_t82 : m_wh t82 ((m_md t8)) = 13 := by rw [j_t82.1]; exact wl_m_mdt4_t81
                clear la_m_mdt4_t81 wl_m_mdt4_t81
                have la_m_mdt8_t82 : m_la t82 (m_md t8) = (m_md t10) + 1 := by rw [j_t82.2.2.1]; exact la_m_mdt8_t81
                have wl_m_mdt8_t82 : m_wh t82 ((m_md t10)) = 29 := by rw [j_t82.1]; exact wl_m_mdt8_t81
                clear la_m_mdt8_t81 wl_m_mdt8_t81
                have z_t83 : m_at t82 < m_ct t82 := lo_ne (Nat.ne_of_gt (show 0 < lo t82 (m_at t82) from by omega))
                refine Kp_at C_t82 (fun t83 C_t83 X_t83 a_t83 b_t83 d_t83 w_t83 u_t83 v_t83 j_t83 l_t83 => ?_)
                have e_t83 := C_t83.2.2.2.1
                rw [a_t82] at a_t83
                rw [b_t82] at b_t83
                rw [d_t82] at d_t83
                rw [w_t82] at w_t83
                rw [u_t82] at u_t83
                rw [v_t82] at v_t83
                rw [a_t82, e_t82] at z_t83
                clear z_t8
                clear d_t82 w_t82 u_t82 v_t82 e_t82 a_t82 b_t82
                have I_n_t83 := I_n_t82.flat X_t83
                have f_n_t83 := f_n_t82.ex I_n_t82 (X_t83 0)
                have u_n_t83 := u_n_t82.ex I_n_t82 (X_t83 0)
                have I_m_mdt4_t83 := I_m_mdt4_t82.flat X_t83
                have f_m_mdt4_t83 := f_m_mdt4_t82.ex I_m_mdt4_t82 (X_t83 0)
                have I_m_mdt8_t83 := I_m_mdt8_t82.flat X_t83
                have f_m_mdt8_t83 := f_m_mdt8_t82.ex I_m_mdt8_t82 (X_t83 0)
                have u_m_mdt8_t83 := u_m_mdt8_t82.ex I_m_mdt8_t82 (X_t83 0)
                have I_m_mdt10_t83 := I_m_mdt10_t82.flat X_t83
                have u_m_mdt10_t83 := u_m_mdt10_t82.ex I_m_mdt10_t82 (X_t83 0)
                have la_n_t83 : m_la t83 n = (m_md t4) + 1 := by rw [j_t83.2.2.1]; exact la_n_t82
                have wl_n_t83 : m_wh t83 ((m_md t4)) = 56 := by rw [j_t83.1]; exact wl_n_t82
                clear la_n_t82 wl_n_t82
                have la_m_mdt4_t83 : m_la t83 (m_md t4) = (m_md t8) + 1 := by rw [j_t83.2.2.1]; exact la_m_mdt4_t82
                have wl_m_mdt4_t83 : m_wh t83 ((m_md t8)) = 13 := by rw [j_t83.1]; exact wl_m_mdt4_t82
                clear la_m_mdt4_t82 wl_m_mdt4_t82
                have la_m_mdt8_t83 : m_la t83 (m_md t8) = (m_md t10) + 1 := by rw [j_t83.2.2.1]; exact la_m_mdt8_t82
                have wl_m_mdt8_t83 : m_wh t83 ((m_md t10)) = 29 := by rw [j_t83.1]; exact wl_m_mdt8_t82
                clear la_m_mdt8_t82 wl_m_mdt8_t82
                refine Kp_push C_t83 (by omega) (fun t84 C_t84 X_t84 a_t84 b_t84 d_t84 w_t84 u_t84 v_t84 j_t84 l_t84 => ?_)
                have e_t84 := C_t84.2.2.2.1
                rw [a_t83] at a_t84
                rw [b_t83] at b_t84
                rw [d_t83] at d_t84
                rw [w_t83] at w_t84
                rw [u_t83] at u_t84
                rw [v_t83] at v_t84
                clear d_t83 w_t83 u_t83 v_t83 e_t83 a_t83 b_t83
                have I_n_t84 := I_n_t83.flat X_t84
                have f_n_t84 := f_n_t83.ex I_n_t83 (X_t84 0)
                have u_n_t84 := u_n_t83.ex I_n_t83 (X_t84 0)
                have I_m_mdt4_t84 := I_m_mdt4_t83.flat X_t84
                have f_m_mdt4_t84 := f_m_mdt4_t83.ex I_m_mdt4_t83 (X_t84 0)
                have I_m_mdt8_t84 := I_m_mdt8_t83.flat X_t84
                have f_m_mdt8_t84 := f_m_mdt8_t83.ex I_m_mdt8_t83 (X_t84 0)
                have u_m_mdt8_t84 := u_m_mdt8_t83.ex I_m_mdt8_t83 (X_t84 0)
                have I_m_mdt10_t84 := I_m_mdt10_t83.flat X_t84
                have u_m_mdt10_t84 := u_m_mdt10_t83.ex I_m_mdt10_t83 (X_t84 0)
                have la_n_t84 : m_la t84 n = (m_md t4) + 1 := by rw [j_t84.2.2.1]; exact la_n_t83
                have wl_n_t84 : m_wh t84 ((m_md t4)) = 56 := by rw [j_t84.1]; exact wl_n_t83
                clear la_n_t83 wl_n_t83
                have la_m_mdt4_t84 : m_la t84 (m_md t4) = (m_md t8) + 1 := by rw [j_t84.2.2.1]; exact la_m_mdt4_t83
                have wl_m_mdt4_t84 : m_wh t84 ((m_md t8)) = 13 := by rw [j_t84.1]; exact wl_m_mdt4_t83
                clear la_m_mdt4_t83 wl_m_mdt4_t83
                have la_m_mdt8_t84 : m_la t84 (m_md t8) = (m_md t10) + 1 := by rw [j_t84.2.2.1]; exact la_m_mdt8_t83
                have wl_m_mdt8_t84 : m_wh t84 ((m_md t10)) = 29 := by rw [j_t84.1]; exact wl_m_mdt8_t83
                clear la_m_mdt8_t83 wl_m_mdt8_t83
                refine Kp_push C_t84 (by omega) (fun t85 C_t85 X_t85 a_t85 b_t85 d_t85 w_t85 u_t85 v_t85 j_t85 l_t85 => ?_)
                have e_t85 := C_t85.2.2.2.1
                rw [a_t84] at a_t85
                rw [b_t84] at b_t85
                rw [d_t84] at d_t85
                rw [w_t84] at w_t85
                rw [u_t84] at u_t85
                rw [v_t84] at v_t85
                clear d_t84 w_t84 u_t84 v_t84 e_t84 a_t84 b_t84
                have I_n_t85 := I_n_t84.flat X_t85
                have f_n_t85 := f_n_t84.ex I_n_t84 (X_t85 0)
                have u_n_t85 := u_n_t84.ex I_n_t84 (X_t85 0)
                have I_m_mdt4_t85 := I_m_mdt4_t84.flat X_t85
                have f_m_mdt4_t85 := f_m_mdt4_t84.ex I_m_mdt4_t84 (X_t85 0)
                have I_m_mdt8_t85 := I_m_mdt8_t84.flat X_t85
                have f_m_mdt8_t85 := f_m_mdt8_t84.ex I_m_mdt8_t84 (X_t85 0)
                have u_m_mdt8_t85 := u_m_mdt8_t84.ex I_m_mdt8_t84 (X_t85 0)
                have I_m_mdt10_t85 := I_m_mdt10_t84.flat X_t85
                have u_m_mdt10_t85 := u_m_mdt10_t84.ex I_m_mdt10_t84 (X_t85 0)
                have la_n_t85 : m_la t85 n = (m_md t4) + 1 := by rw [j_t85.2.2.1]; exact la_n_t84
                have wl_n_t85 : m_wh t85 ((m_md t4)) = 56 := by rw [j_t85.1]; exact wl_n_t84
                clear la_n_t84 wl_n_t84
                have la_m_mdt4_t85 : m_la t85 (m_md t4) = (m_md t8) + 1 := by rw [j_t85.2.2.1]; exact la_m_mdt4_t84
                have wl_m_mdt4_t85 : m_wh t85 ((m_md t8)) = 13 := by rw [j_t85.1]; exact wl_m_mdt4_t84
                clear la_m_mdt4_t84 wl_m_mdt4_t84
                have la_m_mdt8_t85 : m_la t85 (m_md t8) = (m_md t10) + 1 := by rw [j_t85.2.2.1]; exact la_m_mdt8_t84
                have wl_m_mdt8_t85 : m_wh t85 ((m_md t10)) = 29 := by rw [j_t85.1]; exact wl_m_mdt8_t84
                clear la_m_mdt8_t84 wl_m_mdt8_t84
                refine Ok_ret (show Ok _ _ _ from ?_)
                refine Ok_ret (show Ok _ _ _ from ?_)
                refine Hv_mk (Kv_c (x := (21, m_md t10, 0)) rfl (Kv_c (x := (20, m_md t10, 0)) rfl (Kv_c (x := (4, m_md t8, 3)) rfl hK))) (C_t85.1.2.2.2.2.2.2 hTt) C_t85 hT (by omega) (by omega) (by omega) ?_ ?_ ?_ (by omega) ?_ ?_ ?_
                · exact ⟨(Io_n (by decide) (by decide) I_m_mdt10_t85.1 I_m_mdt10_t85.2.1 I_m_mdt10_t85.2.2.1 (fun q => absurd q (by decide)) (fun q => absurd q (by decide)) I_m_mdt10_t85.2.2.2), (Nd_0 (by decide) Mo_nil), ⟨(Io_n (by decide) (by decide) I_m_mdt10_t85.1 I_m_mdt10_t85.2.1 I_m_mdt10_t85.2.2.1 (fun q => absurd q (by decide)) (fun q => absurd q (by decide)) I_m_mdt10_t85.2.2.2), (Nd_0 (by decide) (Mo_cons (fun q => show m_md t10 ≤ m_md t10 from by omega) Mo_nil)), ⟨(Io_n (by decide) (by decide) I_m_mdt8_t85.1 I_m_mdt8_t85.2.1 I_m_mdt8_t85.2.2.1 (fun q => absurd q (by decide)) (fun q => absurd q (by decide)) I_m_mdt8_t85.2.2.2), (Nd_A (by decide) (Mo_cons (fun q => show m_md t8 ≤ m_md t10 from by omega) (Mo_cons (fun q => show m_md t8 ≤ m_md t10 from by omega) Mo_nil)) (Or.inl f_m_mdt8_t85)), Stk_step (N := n) (pop := (43, n, t)) (new := [(4, m_md t8, 3), (20, m_md t10, 0), (21, m_md t10, 0)]) F0 C_t85.1.to2 (fun (h : nk 43 = false) => absurd h (by decide)) (fun q _ h => h (43, n, t) rfl) (fun _ => rfl) (fun y hy hk => ⟨rfl, (Mo_cons (fun q => show n ≤ m_md t8 from by omega) (Mo_cons (fun q => show n ≤ m_md t10 from by omega) (Mo_cons (fun q => show n ≤ m_md t10 from by omega) Mo_nil))) y hy hk⟩) (fun (h : 43 = 3 ∨ 43 = 18 ∨ 43 = 41) => absurd h (by decide)) (fun (h : 43 = 18) => absurd h (by decide)) (fun _ h16 => (Or.inr ⟨f_n_t85, (Ab_some (y := (4, m_md t8, 3)) rfl (show n < m_md t8 from by omega)), H50_no la_n_t85 wl_n_t85 (by decide)⟩)) r [] (fun y hy => absurd hy List.not_mem_nil) hS⟩⟩⟩
                · exact (Aj_up (x := (21, m_md t10, 0)) (Aj_up (x := (20, m_md t10, 0)) (Aj_sub (y := (4, m_md t8, 3)) hJ (Nat.le_of_ble_eq_true rfl)) (Or.inr (Nat.le_of_ble_eq_true rfl))) (Or.inl (Nat.le_of_ble_eq_true rfl)))
                · show m_dp t85 = (dlt 21 + (dlt 20 + (dlt 4 + sD r)))
                  have : dlt 20 = 1 := rfl; have : dlt 21 = 0 := rfl; have : dlt 4 = 0 := rfl; have : dlt 43 = 0 := rfl; omega
                · show m_rw t85 = (rho 21 + (rho 20 + (rho 4 + sR r)))
                  have : rho 20 = 0 := rfl; have : rho 21 = 0 := rfl; have : rho 4 = 0 := rfl; have : rho 43 = 0 := rfl; omega
                · show m_md t85 + (mu7 21 + (mu7 20 + (mu7 4 + sM r))) ≤ 3 * m_at t85 + 7 * (r.length + 1 + 1 + 1) + 10
                  have : mu7 20 = 7 := rfl; have : mu7 21 = 3 := rfl; have : mu7 4 = 7 := rfl; have : mu7 43 = 4 := rfl; omega
                · show (wt 21 + (wt 20 + (wt 4 + sW r))) + 6 * (4096 - m_at t85) + 4 * (600 - (r.length + 1 + 1 + 1)) < (wt 43 + sW r) + 6 * (4096 - m_at t0) + 4 * (600 - (r.length + 1))
                  have : wt 20 = 5 := rfl; have : wt 21 = 2 := rfl; have : wt 4 = 5 := rfl; have : wt 43 = 0 := rfl; omega
              · have w_t82 := Nat.pos_of_ne_zero w_t82
                have I_n_t82 := I_n_t81.flat X_t82
                have f_n_t82 := f_n_t81.ex I_n_t81 (X_t82 0)
                have u_n_t82 := u_n_t81.ex I_n_t81 (X_t82 0)
                have I_m_mdt4_t82 := I_m_mdt4_t81.flat X_t82
                have f_m_mdt4_t82 := f_m_mdt4_t81.ex I_m_mdt4_t81 (X_t82 0)
                have I_m_mdt8_t82 := I_m_mdt8_t81.flat X_t82
                have f_m_mdt8_t82 := f_m_mdt8_t81.ex I_m_mdt8_t81 (X_t82 0)
                have u_m_mdt8_t82 := u_m_mdt8_t81.ex I_m_mdt8_t81 (X_t82 0)
                have I_m_mdt10_t82 := I_m_mdt10_t81.flat X_t82
                have u_m_mdt10_t82 := u_m_mdt10_t81.ex I_m_mdt10_t81 (X_t82 0)
                have la_n_t82 : m_la t82 n = (m_md t4) + 1 := by rw [j_t82.2.2.1]; exact la_n_t81
                have wl_n_t82 : m_wh t82 ((m_md t4)) = 56 := by rw [j_t82.1]; exact wl_n_t81
                clear la_n_t81 wl_n_t81
                have la_m_mdt4_t82 : m_la t82 (m_md t4) = (m_md t8) + 1 := by rw [j_t82.2.2.1]; exact la_m_mdt4_t81
                have wl_m_mdt4_t82 : m_wh t82 ((m_md t8)) = 13 := by rw [j_t82.1]; exact wl_m_mdt4_t81
                clear la_m_mdt4_t81 wl_m_mdt4_t81
                have la_m_mdt8_t82 : m_la t82 (m_md t8) = (m_md t10) + 1 := by rw [j_t82.2.2.1]; exact la_m_mdt8_t81
                have wl_m_mdt8_t82 : m_wh t82 ((m_md t10)) = 29 := by rw [j_t82.1]; exact wl_m_mdt8_t81
                clear la_m_mdt8_t81 wl_m_mdt8_t81
                refine Kp_at C_t82 (fun t86 C_t86 X_t86 a_t86 b_t86 d_t86 w_t86 u_t86 v_t86 j_t86 l_t86 => ?_)
                have e_t86 := C_t86.2.2.2.1
                have I_n_t86 := I_n_t82.flat X_t86
                have f_n_t86 := f_n_t82.ex I_n_t82 (X_t86 0)
                have u_n_t86 := u_n_t82.ex I_n_t82 (X_t86 0)
                have I_m_mdt4_t86 := I_m_mdt4_t82.flat X_t86
                have f_m_mdt4_t86 := f_m_mdt4_t82.ex I_m_mdt4_t82 (X_t86 0)
                have I_m_mdt8_t86 := I_m_mdt8_t82.flat X_t86
                have f_m_mdt8_t86 := f_m_mdt8_t82.ex I_m_mdt8_t82 (X_t86 0)
                have u_m_mdt8_t86 := u_m_mdt8_t82.ex I_m_mdt8_t82 (X_t86 0)
                have I_m_mdt10_t86 := I_m_mdt10_t82.flat X_t86
                have u_m_mdt10_t86 := u_m_mdt10_t82.ex I_m_mdt10_t82 (X_t86 0)
                have la_n_t86 : m_la t86 n = (m_md t4) + 1 := by rw [j_t86.2.2.1]; exact la_n_t82
                have wl_n_t86 : m_wh t86 ((m_md t4)) = 56 := by rw [j_t86.1]; exact wl_n_t82
                clear la_n_t82 wl_n_t82
                have la_m_mdt4_t86 : m_la t86 (m_md t4) = (m_md t8) + 1 := by rw [j_t86.2.2.1]; exact la_m_mdt4_t82
                have wl_m_mdt4_t86 : m_wh t86 ((m_md t8)) = 13 := by rw [j_t86.1]; exact wl_m_mdt4_t82
                clear la_m_mdt4_t82 wl_m_mdt4_t82
                have la_m_mdt8_t86 : m_la t86 (m_md t8) = (m_md t10) + 1 := by rw [j_t86.2.2.1]; exact la_m_mdt8_t82
                have wl_m_mdt8_t86 : m_wh t86 ((m_md t10)) = 29 := by rw [j_t86.1]; exact wl_m_mdt8_t82
                clear la_m_mdt8_t82 wl_m_mdt8_t82
                refine Kp_push C_t86 (by omega) (fun t87 C_t87 X_t87 a_t87 b_t87 d_t87 w_t87 u_t87 v_t87 j_t87 l_t87 => ?_)
                have e_t87 := C_t87.2.2.2.1
                have I_n_t87 := I_n_t86.flat X_t87
                have f_n_t87 := f_n_t86.ex I_n_t86 (X_t87 0)
                have u_n_t87 := u_n_t86.ex I_n_t86 (X_t87 0)
                have I_m_mdt4_t87 := I_m_mdt4_t86.flat X_t87
                have f_m_mdt4_t87 := f_m_mdt4_t86.ex I_m_mdt4_t86 (X_t87 0)
                have I_m_mdt8_t87 := I_m_mdt8_t86.flat X_t87
                have f_m_mdt8_t87 := f_m_mdt8_t86.ex I_m_mdt8_t86 (X_t87 0)
                have u_m_mdt8_t87 := u_m_mdt8_t86.ex I_m_mdt8_t86 (X_t87 0)
                have I_m_mdt10_t87 := I_m_mdt10_t86.flat X_t87
                have u_m_mdt10_t87 := u_m_mdt10_t86.ex I_m_mdt10_t86 (X_t87 0)
                have la_n_t87 : m_la t87 n = (m_md t4) + 1 := by rw [j_t87.2.2.1]; exact la_n_t86
                have wl_n_t87 : m_wh t87 ((m_md t4)) = 56 := by rw [j_t87.1]; exact wl_n_t86
                clear la_n_t86 wl_n_t86
                have la_m_mdt4_t87 : m_la t87 (m_md t4) = (m_md t8) + 1 := by rw [j_t87.2.2.1]; exact la_m_mdt4_t86
                have wl_m_mdt4_t87 : m_wh t87 ((m_md t8)) = 13 := by rw [j_t87.1]; exact wl_m_mdt4_t86
                clear la_m_mdt4_t86 wl_m_mdt4_t86
                have la_m_mdt8_t87 : m_la t87 (m_md t8) = (m_md t10) + 1 := by rw [j_t87.2.2.1]; exact la_m_mdt8_t86
                have wl_m_mdt8_t87 : m_wh t87 ((m_md t10)) = 29 := by rw [j_t87.1]; exact wl_m_mdt8_t86
                clear la_m_mdt8_t86 wl_m_mdt8_t86
                refine Kp_push C_t87 (by omega) (fun t88 C_t88 X_t88 a_t88 b_t88 d_t88 w_t88 u_t88 v_t88 j_t88 l_t88 => ?_)
                have e_t88 := C_t88.2.2.2.1
                have I_n_t88 := I_n_t87.flat X_t88
                have f_n_t88 := f_n_t87.ex I_n_t87 (X_t88 0)
                have u_n_t88 := u_n_t87.ex I_n_t87 (X_t88 0)
                have I_m_mdt4_t88 := I_m_mdt4_t87.flat X_t88
                have f_m_mdt4_t88 := f_m_mdt4_t87.ex I_m_mdt4_t87 (X_t88 0)
                have I_m_mdt8_t88 := I_m_mdt8_t87.flat X_t88
                have f_m_mdt8_t88 := f_m_mdt8_t87.ex I_m_mdt8_t87 (X_t88 0)
                have u_m_mdt8_t88 := u_m_mdt8_t87.ex I_m_mdt8_t87 (X_t88 0)
                have I_m_mdt10_t88 := I_m_mdt10_t87.flat X_t88
                have u_m_mdt10_t88 := u_m_mdt10_t87.ex I_m_mdt10_t87 (X_t88 0)
                have la_n_t88 : m_la t88 n = (m_md t4) + 1 := by rw [j_t88.2.2.1]; exact la_n_t87
                have wl_n_t88 : m_wh t88 ((m_md t4)) = 56 := by rw [j_t88.1]; exact wl_n_t87
                clear la_n_t87 wl_n_t87
                have la_m_mdt4_t88 : m_la t88 (m_md t4) = (m_md t8) + 1 := by rw [j_t88.2.2.1]; exact la_m_mdt4_t87
                have wl_m_mdt4_t88 : m_wh t88 ((m_md t8)) = 13 := by rw [j_t88.1]; exact wl_m_mdt4_t87
                clear la_m_mdt4_t87 wl_m_mdt4_t87
                have la_m_mdt8_t88 : m_la t88 (m_md t8) = (m_md t10) + 1 := by rw [j_t88.2.2.1]; exact la_m_mdt8_t87
                have wl_m_mdt8_t88 : m_wh t88 ((m_md t10)) = 29 := by rw [j_t88.1]; exact wl_m_mdt8_t87
                clear la_m_mdt8_t87 wl_m_mdt8_t87
                refine Ok_ret (show Ok _ _ _ from ?_)
                refine Ok_ret (show Ok _ _ _ from ?_)
                exact Or.inl ⟨Nat.ne_of_gt (show 0 < m_wr t88 from by omega), by omega, by omega, C_t88.2.2.2.2.2, by omega⟩
            · refine Ok_ife (Nat.lt_trans (lo_lt (C_t10.tk hT) _) (by decide)) (by decide) (fun q89 => ?_) (fun q89 => ?_)
              · refine Kp_push C_t10 (by omega) (fun t90 C_t90 X_t90 a_t90 b_t90 d_t90 w_t90 u_t90 v_t90 j_t90 l_t90 => ?_)
                have e_t90 := C_t90.2.2.2.1
                rw [a_t10] at a_t90
                rw [b_t10] at b_t90
                rw [d_t10] at d_t90
                rw [w_t10] at w_t90
                rw [u_t10] at u_t90
                rw [v_t10] at v_t90
                clear d_t10 w_t10 u_t10 v_t10 e_t10 a_t10 b_t10
                have I_n_t90 := I_n_t10.flat X_t90
                have f_n_t90 := f_n_t10.ex I_n_t10 (X_t90 0)
                have u_n_t90 := u_n_t10.ex I_n_t10 (X_t90 0)
                have I_m_mdt4_t90 := I_m_mdt4_t10.flat X_t90
                have f_m_mdt4_t90 := f_m_mdt4_t10.ex I_m_mdt4_t10 (X_t90 0)
                have I_m_mdt8_t90 := I_m_mdt8_t10.flat X_t90
                have u_m_mdt8_t90 := u_m_mdt8_t10.ex I_m_mdt8_t10 (X_t90 0)
                have la_n_t90 : m_la t90 n = (m_md t4) + 1 := by rw [j_t90.2.2.1]; exact la_n_t10
                have wl_n_t90 : m_wh t90 ((m_md t4)) = 56 := by rw [j_t90.1]; exact wl_n_t10
                clear la_n_t10 wl_n_t10
                have la_m_mdt4_t90 : m_la t90 (m_md t4) = (m_md t8) + 1 := by rw [j_t90.2.2.1]; exact la_m_mdt4_t10
                have wl_m_mdt4_t90 : m_wh t90 ((m_md t8)) = 13 := by rw [j_t90.1]; exact wl_m_mdt4_t10
                clear la_m_mdt4_t10 wl_m_mdt4_t10
                refine Kp_push C_t90 (by omega) (fun t91 C_t91 X_t91 a_t91 b_t91 d_t91 w_t91 u_t91 v_t91 j_t91 l_t91 => ?_)
                have e_t91 := C_t91.2.2.2.1
                rw [a_t90] at a_t91
                rw [b_t90] at b_t91
                rw [d_t90] at d_t91
                rw [w_t90] at w_t91
                rw [u_t90] at u_t91
                rw [v_t90] at v_t91
                clear d_t90 w_t90 u_t90 v_t90 e_t90 a_t90 b_t90
                have I_n_t91 := I_n_t90.flat X_t91
                have f_n_t91 := f_n_t90.ex I_n_t90 (X_t91 0)
                have u_n_t91 := u_n_t90.ex I_n_t90 (X_t91 0)
                have I_m_mdt4_t91 := I_m_mdt4_t90.flat X_t91
                have f_m_mdt4_t91 := f_m_mdt4_t90.ex I_m_mdt4_t90 (X_t91 0)
                have I_m_mdt8_t91 := I_m_mdt8_t90.flat X_t91
                have u_m_mdt8_t91 := u_m_mdt8_t90.ex I_m_mdt8_t90 (X_t91 0)
                have la_n_t91 : m_la t91 n = (m_md t4) + 1 := by rw [j_t91.2.2.1]; exact la_n_t90
                have wl_n_t91 : m_wh t91 ((m_md t4)) = 56 := by rw [j_t91.1]; exact wl_n_t90
                clear la_n_t90 wl_n_t90
                have la_m_mdt4_t91 : m_la t91 (m_md t4) = (m_md t8) + 1 := by rw [j_t91.2.2.1]; exact la_m_mdt4_t90
                have wl_m_mdt4_t91 : m_wh t91 ((m_md t8)) = 13 := by rw [j_t91.1]; exact wl_m_mdt4_t90
                clear la_m_mdt4_t90 wl_m_mdt4_t90
                refine Ok_ret (show Ok _ _ _ from ?_)
                refine Ok_ret (show Ok _ _ _ from ?_)
                refine Hv_mk (Kv_c (x := (18, m_md t8, 1)) rfl (Kv_c (x := (5, m_md t8, 3)) rfl (Kv_c (x := (4, m_md t8, 3)) rfl hK))) (C_t91.1.2.2.2.2.2.2 hTt) C_t91 hT (by omega) (by omega) (by omega) ?_ ?_ ?_ (by omega) ?_ ?_ ?_
                · exact ⟨(Io_n (by decide) (by decide) I_m_mdt8_t91.1 I_m_mdt8_t91.2.1 I_m_mdt8_t91.2.2.1 (fun q => absurd q (by decide)) (fun q => absurd q (by decide)) I_m_mdt8_t91.2.2.2), (Nd_0 (by decide) Mo_nil), ⟨(Io_n (by decide) (by decide) I_m_mdt8_t91.1 I_m_mdt8_t91.2.1 I_m_mdt8_t91.2.2.1 (fun q => absurd q (by decide)) (fun q => absurd q (by decide)) I_m_mdt8_t91.2.2.2), (Nd_5 (Mo_cons (fun q => show m_md t8 ≤ m_md t8 from by omega) Mo_nil) (Or.inl ⟨1, rfl⟩)), ⟨(Io_n (by decide) (by decide) I_m_mdt8_t91.1 I_m_mdt8_t91.2.1 I_m_mdt8_t91.2.2.1 (fun q => absurd q (by decide)) (fun q => absurd q (by decide)) I_m_mdt8_t91.2.2.2), (Nd_A (by decide) (Mo_cons (fun q => show m_md t8 ≤ m_md t8 from by omega) (Mo_cons (fun q => show m_md t8 ≤ m_md t8 from by omega) Mo_nil)) (Or.inr ⟨(18, m_md t8, 1), (List.mem_cons_of_mem _ List.mem_cons_self), rfl, Or.inr (Or.inl rfl)⟩)), Stk_step (N := n) (pop := (43, n, t)) (new := [(4, m_md t8, 3), (5, m_md t8, 3), (18, m_md t8, 1)]) F0 C_t91.1.to2 (fun (h : nk 43 = false) => absurd h (by decide)) (fun q _ h => h (43, n, t) rfl) (fun _ => rfl) (fun y hy hk => ⟨rfl, (Mo_cons (fun q => show n ≤ m_md t8 from by omega) (Mo_cons (fun q => show n ≤ m_md t8 from by omega) (Mo_cons (fun q => show n ≤ m_md t8 from by omega) Mo_nil))) y hy hk⟩) (fun (h : 43 = 3 ∨ 43 = 18 ∨ 43 = 41) => absurd h (by decide)) (fun (h : 43 = 18) => absurd h (by decide)) (fun _ h16 => (Or.inr ⟨f_n_t91, (Ab_some (y := (4, m_md t8, 3)) rfl (show n < m_md t8 from by omega)), H50_no la_n_t91 wl_n_t91 (by decide)⟩)) r [] (fun y hy => absurd hy List.not_mem_nil) hS⟩⟩⟩
                · exact (Aj_up (x := (18, m_md t8, 1)) (Aj_up (x := (5, m_md t8, 3)) (Aj_sub (y := (4, m_md t8, 3)) hJ (Nat.le_of_ble_eq_true rfl)) (Or.inr (Nat.le_of_ble_eq_true rfl))) (Or.inr (Nat.le_of_ble_eq_true rfl)))
                · show m_dp t91 = (dlt 18 + (dlt 5 + (dlt 4 + sD r)))
                  have : dlt 18 = 0 := rfl; have : dlt 4 = 0 := rfl; have : dlt 43 = 0 := rfl; have : dlt 5 = 0 := rfl; omega
                · show m_rw t91 = (rho 18 + (rho 5 + (rho 4 + sR r)))
                  have : rho 18 = 0 := rfl; have : rho 4 = 0 := rfl; have : rho 43 = 0 := rfl; have : rho 5 = 0 := rfl; omega
                · show m_md t91 + (mu7 18 + (mu7 5 + (mu7 4 + sM r))) ≤ 3 * m_at t91 + 7 * (r.length + 1 + 1 + 1) + 10
                  have : mu7 18 = 5 := rfl; have : mu7 4 = 7 := rfl; have : mu7 43 = 4 := rfl; have : mu7 5 = 7 := rfl; omega
                · show (wt 18 + (wt 5 + (wt 4 + sW r))) + 6 * (4096 - m_at t91) + 4 * (600 - (r.length + 1 + 1 + 1)) < (wt 43 + sW r) + 6 * (4096 - m_at t0) + 4 * (600 - (r.length + 1))
                  have : wt 18 = 0 := rfl; have : wt 4 = 5 := rfl; have : wt 43 = 0 := rfl; have : wt 5 = 5 := rfl; omega
              · refine Ok_ife (Nat.lt_trans (lo_lt (C_t10.tk hT) _) (by decide)) (by decide) (fun q92 => ?_) (fun q92 => ?_)
                · refine Kp_push C_t10 (by omega) (fun t93 C_t93 X_t93 a_t93 b_t93 d_t93 w_t93 u_t93 v_t93 j_t93 l_t93 => ?_)
                  have e_t93 := C_t93.2.2.2.1
                  rw [a_t10] at a_t93
                  rw [b_t10] at b_t93
                  rw [d_t10] at d_t93
                  rw [w_t10] at w_t93
                  rw [u_t10] at u_t93
                  rw [v_t10] at v_t93
                  clear d_t10 w_t10 u_t10 v_t10 e_t10 a_t10 b_t10
                  have I_n_t93 := I_n_t10.flat X_t93
                  have f_n_t93 := f_n_t10.ex I_n_t10 (X_t93 0)
                  have u_n_t93 := u_n_t10.ex I_n_t10 (X_t93 0)
                  have I_m_mdt4_t93 := I_m_mdt4_t10.flat X_t93
                  have f_m_mdt4_t93 := f_m_mdt4_t10.ex I_m_mdt4_t10 (X_t93 0)
                  have I_m_mdt8_t93 := I_m_mdt8_t10.flat X_t93
                  have u_m_mdt8_t93 := u_m_mdt8_t10.ex I_m_mdt8_t10 (X_t93 0)
                  have la_n_t93 : m_la t93 n = (m_md t4) + 1 := by rw [j_t93.2.2.1]; exact la_n_t10
                  have wl_n_t93 : m_wh t93 ((m_md t4)) = 56 := by rw [j_t93.1]; exact wl_n_t10
                  clear la_n_t10 wl_n_t10
                  have la_m_mdt4_t93 : m_la t93 (m_md t4) = (m_md t8) + 1 := by rw [j_t93.2.2.1]; exact la_m_mdt4_t10
                  have wl_m_mdt4_t93 : m_wh t93 ((m_md t8)) = 13 := by rw [j_t93.1]; exact wl_m_mdt4_t10
                  clear la_m_mdt4_t10 wl_m_mdt4_t10
                  refine Kp_push C_t93 (by omega) (fun t94 C_t94 X_t94 a_t94 b_t94 d_t94 w_t94 u_t94 v_t94 j_t94 l_t94 => ?_)
                  have e_t94 := C_t94.2.2.2.1
                  rw [a_t93] at a_t94
                  rw [b_t93] at b_t94
                  rw [d_t93] at d_t94
                  rw [w_t93] at w_t94
                  rw [u_t93] at u_t94
                  rw [v_t93] at v_t94
                  clear d_t93 w_t93 u_t93 v_t93 e_t93 a_t93 b_t93
                  have I_n_t94 := I_n_t93.flat X_t94
                  have f_n_t94 := f_n_t93.ex I_n_t93 (X_t94 0)
                  have u_n_t94 := u_n_t93.ex I_n_t93 (X_t94 0)
                  have I_m_mdt4_t94 := I_m_mdt4_t93.flat X_t94
                  have f_m_mdt4_t94 := f_m_mdt4_t93.ex I_m_mdt4_t93 (X_t94 0)
                  have I_m_mdt8_t94 := I_m_mdt8_t93.flat X_t94
                  have u_m_mdt8_t94 := u_m_mdt8_t93.ex I_m_mdt8_t93 (X_t94 0)
                  have la_n_t94 : m_la t94 n = (m_md t4) + 1 := by rw [j_t94.2.2.1]; exact la_n_t93
                  have wl_n_t94 : m_wh t94 ((m_md t4)) = 56 := by rw [j_t94.1]; exact wl_n_t93
                  clear la_n_t93 wl_n_t93
                  have la_m_mdt4_t94 : m_la t94 (m_md t4) = (m_md t8) + 1 := by rw [j_t94.2.2.1]; exact la_m_mdt4_t93
                  have wl_m_mdt4_t94 : m_wh t94 ((m_md t8)) = 13 := by rw [j_t94.1]; exact wl_m_mdt4_t93
                  clear la_m_mdt4_t93 wl_m_mdt4_t93
                  refine Ok_ret (show Ok _ _ _ from ?_)
                  refine Ok_ret (show Ok _ _ _ from ?_)
                  refine Hv_mk (Kv_c (x := (18, m_md t8, 1)) rfl (Kv_c (x := (5, m_md t8, 3)) rfl (Kv_c (x := (4, m_md t8, 3)) rfl hK))) (C_t94.1.2.2.2.2.2.2 hTt) C_t94 hT (by omega) (by omega) (by omega) ?_ ?_ ?_ (by omega) ?_ ?_ ?_
                  · exact ⟨(Io_n (by decide) (by decide) I_m_mdt8_t94.1 I_m_mdt8_t94.2.1 I_m_mdt8_t94.2.2.1 (fun q => absurd q (by decide)) (fun q => absurd q (by decide)) I_m_mdt8_t94.2.2.2), (Nd_0 (by decide) Mo_nil), ⟨(Io_n (by decide) (by decide) I_m_mdt8_t94.1 I_m_mdt8_t94.2.1 I_m_mdt8_t94.2.2.1 (fun q => absurd q (by decide)) (fun q => absurd q (by decide)) I_m_mdt8_t94.2.2.2), (Nd_5 (Mo_cons (fun q => show m_md t8 ≤ m_md t8 from by omega) Mo_nil) (Or.inl ⟨1, rfl⟩)), ⟨(Io_n (by decide) (by decide) I_m_mdt8_t94.1 I_m_mdt8_t94.2.1 I_m_mdt8_t94.2.2.1 (fun q => absurd q (by decide)) (fun q => absurd q (by decide)) I_m_mdt8_t94.2.2.2), (Nd_A (by decide) (Mo_cons (fun q => show m_md t8 ≤ m_md t8 from by omega) (Mo_cons (fun q => show m_md t8 ≤ m_md t8 from by omega) Mo_nil)) (Or.inr ⟨(18, m_md t8, 1), (List.mem_cons_of_mem _ List.mem_cons_self), rfl, Or.inr (Or.inl rfl)⟩)), Stk_step (N := n) (pop := (43, n, t)) (new := [(4, m_md t8, 3), (5, m_md t8, 3), (18, m_md t8, 1)]) F0 C_t94.1.to2 (fun (h : nk 43 = false) => absurd h (by decide)) (fun q _ h => h (43, n, t) rfl) (fun _ => rfl) (fun y hy hk => ⟨rfl, (Mo_cons (fun q => show n ≤ m_md t8 from by omega) (Mo_cons (fun q => show n ≤ m_md t8 from by omega) (Mo_cons (fun q => show n ≤ m_md t8 from by omega) Mo_nil))) y hy hk⟩) (fun (h : 43 = 3 ∨ 43 = 18 ∨ 43 = 41) => absurd h (by decide)) (fun (h : 43 = 18) => absurd h (by decide)) (fun _ h16 => (Or.inr ⟨f_n_t94, (Ab_some (y := (4, m_md t8, 3)) rfl (show n < m_md t8 from by omega)), H50_no la_n_t94 wl_n_t94 (by decide)⟩)) r [] (fun y hy => absurd hy List.not_mem_nil) hS⟩⟩⟩
                  · exact (Aj_up (x := (18, m_md t8, 1)) (Aj_up (x := (5, m_md t8, 3)) (Aj_sub (y := (4, m_md t8, 3)) hJ (Nat.le_of_ble_eq_true rfl)) (Or.inr (Nat.le_of_ble_eq_true rfl))) (Or.inr (Nat.le_of_ble_eq_true rfl)))
                  · show m_dp t94 = (dlt 18 + (dlt 5 + (dlt 4 + sD r)))
                    have : dlt 18 = 0 := rfl; have : dlt 4 = 0 := rfl; have : dlt 43 = 0 := rfl; have : dlt 5 = 0 := rfl; omega
                  · show m_rw t94 = (rho 18 + (rho 5 + (rho 4 + sR r)))
                    have : rho 18 = 0 := rfl; have : rho 4 = 0 := rfl; have : rho 43 = 0 := rfl; have : rho 5 = 0 := rfl; omega
                  · show m_md t94 + (mu7 18 + (mu7 5 + (mu7 4 + sM r))) ≤ 3 * m_at t94 + 7 * (r.length + 1 + 1 + 1) + 10
                    have : mu7 18 = 5 := rfl; have : mu7 4 = 7 := rfl; have : mu7 43 = 4 := rfl; have : mu7 5 = 7 := rfl; omega
                  · show (wt 18 + (wt 5 + (wt 4 + sW r))) + 6 * (4096 - m_at t94) + 4 * (600 - (r.length + 1 + 1 + 1)) < (wt 43 + sW r) + 6 * (4096 - m_at t0) + 4 * (600 - (r.length + 1))
                    have : wt 18 = 0 := rfl; have : wt 4 = 5 := rfl; have : wt 43 = 0 := rfl; have : wt 5 = 5 := rfl; omega
                · refine Ok_ife (Nat.lt_trans (lo_lt (C_t10.tk hT) _) (by decide)) (by decide) (fun q95 => ?_) (fun q95 => ?_)
                  · refine Kp_push C_t10 (by omega) (fun t96 C_t96 X_t96 a_t96 b_t96 d_t96 w_t96 u_t96 v_t96 j_t96 l_t96 => ?_)
                    have e_t96 := C_t96.2.2.2.1
                    rw [a_t10] at a_t96
                    rw [b_t10] at b_t96
                    rw [d_t10] at d_t96
                    rw [w_t10] at w_t96
                    rw [u_t10] at u_t96
                    rw [v_t10] at v_t96
                    clear d_t10 w_t10 u_t10 v_t10 e_t10 a_t10 b_t10
                    have I_n_t96 := I_n_t10.flat X_t96
                    have f_n_t96 := f_n_t10.ex I_n_t10 (X_t96 0)
                    have u_n_t96 := u_n_t10.ex I_n_t10 (X_t96 0)
                    have I_m_mdt4_t96 := I_m_mdt4_t10.flat X_t96
                    have f_m_mdt4_t96 := f_m_mdt4_t10.ex I_m_mdt4_t10 (X_t96 0)
                    have I_m_mdt8_t96 := I_m_mdt8_t10.flat X_t96
                    have u_m_mdt8_t96 := u_m_mdt8_t10.ex I_m_mdt8_t10 (X_t96 0)
                    have la_n_t96 : m_la t96 n = (m_md t4) + 1 := by rw [j_t96.2.2.1]; exact la_n_t10
                    have wl_n_t96 : m_wh t96 ((m_md t4)) = 56 := by rw [j_t96.1]; exact wl_n_t10
                    clear la_n_t10 wl_n_t10
                    have la_m_mdt4_t96 : m_la t96 (m_md t4) = (m_md t8) + 1 := by rw [j_t96.2.2.1]; exact la_m_mdt4_t10
                    have wl_m_mdt4_t96 : m_wh t96 ((m_md t8)) = 13 := by rw [j_t96.1]; exact wl_m_mdt4_t10
                    clear la_m_mdt4_t10 wl_m_mdt4_t10
                    refine Kp_push C_t96 (by omega) (fun t97 C_t97 X_t97 a_t97 b_t97 d_t97 w_t97 u_t97 v_t97 j_t97 l_t97 => ?_)
                    have e_t97 := C_t97.2.2.2.1
                    rw [a_t96] at a_t97
                    rw [b_t96] at b_t97
                    rw [d_t96] at d_t97
                    rw [w_t96] at w_t97
                    rw [u_t96] at u_t97
                    rw [v_t96] at v_t97
                    clear d_t96 w_t96 u_t96 v_t96 e_t96 a_t96 b_t96
                    have I_n_t97 := I_n_t96.flat X_t97
                    have f_n_t97 := f_n_t96.ex I_n_t96 (X_t97 0)
                    have u_n_t97 := u_n_t96.ex I_n_t96 (X_t97 0)
                    have I_m_mdt4_t97 := I_m_mdt4_t96.flat X_t97
                    have f_m_mdt4_t97 := f_m_mdt4_t96.ex I_m_mdt4_t96 (X_t97 0)
                    have I_m_mdt8_t97 := I_m_mdt8_t96.flat X_t97
                    have u_m_mdt8_t97 := u_m_mdt8_t96.ex I_m_mdt8_t96 (X_t97 0)
                    have la_n_t97 : m_la t97 n = (m_md t4) + 1 := by rw [j_t97.2.2.1]; exact la_n_t96
                    have wl_n_t97 : m_wh t97 ((m_md t4)) = 56 := by rw [j_t97.1]; exact wl_n_t96
                    clear la_n_t96 wl_n_t96
                    have la_m_mdt4_t97 : m_la t97 (m_md t4) = (m_md t8) + 1 := by rw [j_t97.2.2.1]; exact la_m_mdt4_t96
                    have wl_m_mdt4_t97 : m_wh t97 ((m_md t8)) = 13 := by rw [j_t97.1]; exact wl_m_mdt4_t96
                    clear la_m_mdt4_t96 wl_m_mdt4_t96
                    refine Ok_ret (show Ok _ _ _ from ?_)
                    refine Ok_ret (show Ok _ _ _ from ?_)
                    refine Hv_mk (Kv_c (x := (18, m_md t8, 1)) rfl (Kv_c (x := (5, m_md t8, 3)) rfl (Kv_c (x := (4, m_md t8, 3)) rfl hK))) (C_t97.1.2.2.2.2.2.2 hTt) C_t97 hT (by omega) (by omega) (by omega) ?_ ?_ ?_ (by omega) ?_ ?_ ?_
                    · exact ⟨(Io_n (by decide) (by decide) I_m_mdt8_t97.1 I_m_mdt8_t97.2.1 I_m_mdt8_t97.2.2.1 (fun q => absurd q (by decide)) (fun q => absurd q (by decide)) I_m_mdt8_t97.2.2.2), (Nd_0 (by decide) Mo_nil), ⟨(Io_n (by decide) (by decide) I_m_mdt8_t97.1 I_m_mdt8_t97.2.1 I_m_mdt8_t97.2.2.1 (fun q => absurd q (by decide)) (fun q => absurd q (by decide)) I_m_mdt8_t97.2.2.2), (Nd_5 (Mo_cons (fun q => show m_md t8 ≤ m_md t8 from by omega) Mo_nil) (Or.inl ⟨1, rfl⟩)), ⟨(Io_n (by decide) (by decide) I_m_mdt8_t97.1 I_m_mdt8_t97.2.1 I_m_mdt8_t97.2.2.1 (fun q => absurd q (by decide)) (fun q => absurd q (by decide)) I_m_mdt8_t97.2.2.2), (Nd_A (by decide) (Mo_cons (fun q => show m_md t8 ≤ m_md t8 from by omega) (Mo_cons (fun q => show m_md t8 ≤ m_md t8 from by omega) Mo_nil)) (Or.inr ⟨(18, m_md t8, 1), (List.mem_cons_of_mem _ List.mem_cons_self), rfl, Or.inr (Or.inl rfl)⟩)), Stk_step (N := n) (pop := (43, n, t)) (new := [(4, m_md t8, 3), (5, m_md t8, 3), (18, m_md t8, 1)]) F0 C_t97.1.to2 (fun (h : nk 43 = false) => absurd h (by decide)) (fun q _ h => h (43, n, t) rfl) (fun _ => rfl) (fun y hy hk => ⟨rfl, (Mo_cons (fun q => show n ≤ m_md t8 from by omega) (Mo_cons (fun q => show n ≤ m_md t8 from by omega) (Mo_cons (fun q => show n ≤ m_md t8 from by omega) Mo_nil))) y hy hk⟩) (fun (h : 43 = 3 ∨ 43 = 18 ∨ 43 = 41) => absurd h (by decide)) (fun (h : 43 = 18) => absurd h (by decide)) (fun _ h16 => (Or.inr ⟨f_n_t97, (Ab_some (y := (4, m_md t8, 3)) rfl (show n < m_md t8 from by omega)), H50_no la_n_t97 wl_n_t97 (by decide)⟩)) r [] (fun y hy => absurd hy List.not_mem_nil) hS⟩⟩⟩
                    · exact (Aj_up (x := (18, m_md t8, 1)) (Aj_up (x := (5, m_md t8, 3)) (Aj_sub (y := (4, m_md t8, 3)) hJ (Nat.le_of_ble_eq_true rfl)) (Or.inr (Nat.le_of_ble_eq_true rfl))) (Or.inr (Nat.le_of_ble_eq_true rfl)))
                    · show m_dp t97 = (dlt 18 + (dlt 5 + (dlt 4 + sD r)))
                      have : dlt 18 = 0 := rfl; have : dlt 4 = 0 := rfl; have : dlt 43 = 0 := rfl; have : dlt 5 = 0 := rfl; omega
                    · show m_rw t97 = (rho 18 + (rho 5 + (rho 4 + sR r)))
                      have : rho 18 = 0 := rfl; have : rho 4 = 0 := rfl; have : rho 43 = 0 := rfl; have : rho 5 = 0 := rfl; omega
                    · show m_md t97 + (mu7 18 + (mu7 5 + (mu7 4 + sM r))) ≤ 3 * m_at t97 + 7 * (r.length + 1 + 1 + 1) + 10
                      have : mu7 18 = 5 := rfl; have : mu7 4 = 7 := rfl; have : mu7 43 = 4 := rfl; have : mu7 5 = 7 := rfl; omega
                    · show (wt 18 + (wt 5 + (wt 4 + sW r))) + 6 * (4096 - m_at t97) + 4 * (600 - (r.length + 1 + 1 + 1)) < (wt 43 + sW r) + 6 * (4096 - m_at t0) + 4 * (600 - (r.length + 1))
                      have : wt 18 = 0 := rfl; have : wt 4 = 5 := rfl; have : wt 43 = 0 := rfl; have : wt 5 = 5 := rfl; omega
                  · refine Ok_ife (Nat.lt_trans (lo_lt (C_t10.tk hT) _) (by decide)) (by decide) (fun q98 => ?_) (fun q98 => ?_)
                    · refine Kp_push C_t10 (by omega) (fun t99 C_t99 X_t99 a_t99 b_t99 d_t99 w_t99 u_t99 v_t99 j_t99 l_t99 => ?_)
                      have e_t99 := C_t99.2.2.2.1
                      rw [a_t10] at a_t99
                      rw [b_t10] at b_t99
                      rw [d_t10] at d_t99
                      rw [w_t10] at w_t99
                      rw [u_t10] at u_t99
                      rw [v_t10] at v_t99
                      clear d_t10 w_t10 u_t10 v_t10 e_t10 a_t10 b_t10
                      have I_n_t99 := I_n_t10.flat X_t99
                      have f_n_t99 := f_n_t10.ex I_n_t10 (X_t99 0)
                      have u_n_t99 := u_n_t10.ex I_n_t10 (X_t99 0)
                      have I_m_mdt4_t99 := I_m_mdt4_t10.flat X_t99
                      have f_m_mdt4_t99 := f_m_mdt4_t10.ex I_m_mdt4_t10 (X_t99 0)
                      have I_m_mdt8_t99 := I_m_mdt8_t10.flat X_t99
                      have u_m_mdt8_t99 := u_m_mdt8_t10.ex I_m_mdt8_t10 (X_t99 0)
                      have la_n_t99 : m_la t99 n = (m_md t4) + 1 := by rw [j_t99.2.2.1]; exact la_n_t10
                      have wl_n_t99 : m_wh t99 ((m_md t4)) = 56 := by rw [j_t99.1]; exact wl_n_t10
                      clear la_n_t10 wl_n_t10
                      have la_m_mdt4_t99 : m_la t99 (m_md t4) = (m_md t8) + 1 := by rw [j_t99.2.2.1]; exact la_m_mdt4_t10
                      have wl_m_mdt4_t99 : m_wh t99 ((m_md t8)) = 13 := by rw [j_t99.1]; exact wl_m_mdt4_t10
                      clear la_m_mdt4_t10 wl_m_mdt4_t10
                      refine Kp_push C_t99 (by omega) (fun t100 C_t100 X_t100 a_t100 b_t100 d_t100 w_t100 u_t100 v_t100 j_t100 l_t100 => ?_)
                      have e_t100 := C_t100.2.2.2.1
                      rw [a_t99] at a_t100
                      rw [b_t99] at b_t100
                      rw [d_t99] at d_t100
                      rw [w_t99] at w_t100
                      rw [u_t99] at u_t100
                      rw [v_t99] at v_t100
                      clear d_t99 w_t99 u_t99 v_t99 e_t99 a_t99 b_t99
                      have I_n_t100 := I_n_t99.flat X_t100
                      have f_n_t100 := f_n_t99.ex I_n_t99 (X_t100 0)
                      have u_n_t100 := u_n_t99.ex I_n_t99 (X_t100 0)
                      have I_m_mdt4_t100 := I_m_mdt4_t99.flat X_t100
                      have f_m_mdt4_t100 := f_m_mdt4_t99.ex I_m_mdt4_t99 (X_t100 0)
                      have I_m_mdt8_t100 := I_m_mdt8_t99.flat X_t100
                      have u_m_mdt8_t100 := u_m_mdt8_t99.ex I_m_mdt8_t99 (X_t100 0)
                      have la_n_t100 : m_la t100 n = (m_md t4) + 1 := by rw [j_t100.2.2.1]; exact la_n_t99
                      have wl_n_t100 : m_wh t100 ((m_md t4)) = 56 := by rw [j_t100.1]; exact wl_n_t99
                      clear la_n_t99 wl_n_t99
                      have la_m_mdt4_t100 : m_la t100 (m_md t4) = (m_md t8) + 1 := by rw [j_t100.2.2.1]; exact la_m_mdt4_t99
                      have wl_m_mdt4_t100 : m_wh t100 ((m_md t8)) = 13 := by rw [j_t100.1]; exact wl_m_mdt4_t99
                      clear la_m_mdt4_t99 wl_m_mdt4_t99
                      refine Ok_ret (show Ok _ _ _ from ?_)
                      refine Ok_ret (show Ok _ _ _ from ?_)
                      refine Hv_mk (Kv_c (x := (18, m_md t8, 1)) rfl (Kv_c (x := (5, m_md t8, 3)) rfl (Kv_c (x := (4, m_md t8, 3)) rfl hK))) (C_t100.1.2.2.2.2.2.2 hTt) C_t100 hT (by omega) (by omega) (by omega) ?_ ?_ ?_ (by omega) ?_ ?_ ?_
                      · exact ⟨(Io_n (by decide) (by decide) I_m_mdt8_t100.1 I_m_mdt8_t100.2.1 I_m_mdt8_t100.2.2.1 (fun q => absurd q (by decide)) (fun q => absurd q (by decide)) I_m_mdt8_t100.2.2.2), (Nd_0 (by decide) Mo_nil), ⟨(Io_n (by decide) (by decide) I_m_mdt8_t100.1 I_m_mdt8_t100.2.1 I_m_mdt8_t100.2.2.1 (fun q => absurd q (by decide)) (fun q => absurd q (by decide)) I_m_mdt8_t100.2.2.2), (Nd_5 (Mo_cons (fun q => show m_md t8 ≤ m_md t8 from by omega) Mo_nil) (Or.inl ⟨1, rfl⟩)), ⟨(Io_n (by decide) (by decide) I_m_mdt8_t100.1 I_m_mdt8_t100.2.1 I_m_mdt8_t100.2.2.1 (fun q => absurd q (by decide)) (fun q => absurd q (by decide)) I_m_mdt8_t100.2.2.2), (Nd_A (by decide) (Mo_cons (fun q => show m_md t8 ≤ m_md t8 from by omega) (Mo_cons (fun q => show m_md t8 ≤ m_md t8 from by omega) Mo_nil)) (Or.inr ⟨(18, m_md t8, 1), (List.mem_cons_of_mem _ List.mem_cons_self), rfl, Or.inr (Or.inl rfl)⟩)), Stk_step (N := n) (pop := (43, n, t)) (new := [(4, m_md t8, 3), (5, m_md t8, 3), (18, m_md t8, 1)]) F0 C_t100.1.to2 (fun (h : nk 43 = false) => absurd h (by decide)) (fun q _ h => h (43, n, t) rfl) (fun _ => rfl) (fun y hy hk => ⟨rfl, (Mo_cons (fun q => show n ≤ m_md t8 from by omega) (Mo_cons (fun q => show n ≤ m_md t8 from by omega) (Mo_cons (fun q => show n ≤ m_md t8 from by omega) Mo_nil))) y hy hk⟩) (fun (h : 43 = 3 ∨ 43 = 18 ∨ 43 = 41) => absurd h (by decide)) (fun (h : 43 = 18) => absurd h (by decide)) (fun _ h16 => (Or.inr ⟨f_n_t100, (Ab_some (y := (4, m_md t8, 3)) rfl (show n < m_md t8 from by omega)), H50_no la_n_t100 wl_n_t100 (by decide)⟩)) r [] (fun y hy => absurd hy List.not_mem_nil) hS⟩⟩⟩
                      · exact (Aj_up (x := (18, m_md t8, 1)) (Aj_up (x := (5, m_md t8, 3)) (Aj_sub (y := (4, m_md t8, 3)) hJ (Nat.le_of_ble_eq_true rfl)) (Or.inr (Nat.le_of_ble_eq_true rfl))) (Or.inr (Nat.le_of_ble_eq_true rfl)))
                      · show m_dp t100 = (dlt 18 + (dlt 5 + (dlt 4 + sD r)))
                        have : dlt 18 = 0 := rfl; have : dlt 4 = 0 := rfl; have : dlt 43 = 0 := rfl; have : dlt 5 = 0 := rfl; omega
                      · show m_rw t100 = (rho 18 + (rho 5 + (rho 4 + sR r)))
                        have : rho 18 = 0 := rfl; have : rho 4 = 0 := rfl; have : rho 43 = 0 := rfl; have : rho 5 = 0 := rfl; omega
                      · show m_md t100 + (mu7 18 + (mu7 5 + (mu7 4 + sM r))) ≤ 3 * m_at t100 + 7 * (r.length + 1 + 1 + 1) + 10
                        have : mu7 18 = 5 := rfl; have : mu7 4 = 7 := rfl; have : mu7 43 = 4 := rfl; have : mu7 5 = 7 := rfl; omega
                      · show (wt 18 + (wt 5 + (wt 4 + sW r))) + 6 * (4096 - m_at t100) + 4 * (600 - (r.length + 1 + 1 + 1)) < (wt 43 + sW r) + 6 * (4096 - m_at t0) + 4 * (600 - (r.length + 1))
                        have : wt 18 = 0 := rfl; have : wt 4 = 5 := rfl; have : wt 43 = 0 := rfl; have : wt 5 = 5 := rfl; omega
                    · refine Ok_ife (Nat.lt_trans (lo_lt (C_t10.tk hT) _) (by decide)) (by decide) (fun q101 => ?_) (fun q101 => ?_)
                      · refine Kp_push C_t10 (by omega) (fun t102 C_t102 X_t102 a_t102 b_t102 d_t102 w_t102 u_t102 v_t102 j_t102 l_t102 => ?_)
                        have e_t102 := C_t102.2.2.2.1
                        rw [a_t10] at a_t102
                        rw [b_t10] at b_t102
                        rw [d_t10] at d_t102
                        rw [w_t10] at w_t102
                        rw [u_t10] at u_t102
                        rw [v_t10] at v_t102
                        clear d_t10 w_t10 u_t10 v_t10 e_t10 a_t10 b_t10
                        have I_n_t102 := I_n_t10.flat X_t102
                        have f_n_t102 := f_n_t10.ex I_n_t10 (X_t102 0)
                        have u_n_t102 := u_n_t10.ex I_n_t10 (X_t102 0)
                        have I_m_mdt4_t102 := I_m_mdt4_t10.flat X_t102
                        have f_m_mdt4_t102 := f_m_mdt4_t10.ex I_m_mdt4_t10 (X_t102 0)
                        have I_m_mdt8_t102 := I_m_mdt8_t10.flat X_t102
                        have u_m_mdt8_t102 := u_m_mdt8_t10.ex I_m_mdt8_t10 (X_t102 0)
                        have la_n_t102 : m_la t102 n = (m_md t4) + 1 := by rw [j_t102.2.2.1]; exact la_n_t10
                        have wl_n_t102 : m_wh t102 ((m_md t4)) = 56 := by rw [j_t102.1]; exact wl_n_t10
                        clear la_n_t10 wl_n_t10
                        have la_m_mdt4_t102 : m_la t102 (m_md t4) = (m_md t8) + 1 := by rw [j_t102.2.2.1]; exact la_m_mdt4_t10
                        have wl_m_mdt4_t102 : m_wh t102 ((m_md t8)) = 13 := by rw [j_t102.1]; exact wl_m_mdt4_t10
                        clear la_m_mdt4_t10 wl_m_mdt4_t10
                        refine Kp_push C_t102 (by omega) (fun t103 C_t103 X_t103 a_t103 b_t103 d_t103 w_t103 u_t103 v_t103 j_t103 l_t103 => ?_)
                        have e_t103 := C_t103.2.2.2.1
                        rw [a_t102] at a_t103
                        rw [b_t102] at b_t103
                        rw [d_t102] at d_t103
                        rw [w_t102] at w_t103
                        rw [u_t102] at u_t103
                        rw [v_t102] at v_t103
                        clear d_t102 w_t102 u_t102 v_t102 e_t102 a_t102 b_t102
                        have I_n_t103 := I_n_t102.flat X_t103
                        have f_n_t103 := f_n_t102.ex I_n_t102 (X_t103 0)
                        have u_n_t103 := u_n_t102.ex I_n_t102 (X_t103 0)
                        have I_m_mdt4_t103 := I_m_mdt4_t102.flat X_t103
                        have f_m_mdt4_t103 := f_m_mdt4_t102.ex I_m_mdt4_t102 (X_t103 0)
                        have I_m_mdt8_t103 := I_m_mdt8_t102.flat X_t103
                        have u_m_mdt8_t103 := u_m_mdt8_t102.ex I_m_mdt8_t102 (X_t103 0)
                        have la_n_t103 : m_la t103 n = (m_md t4) + 1 := by rw [j_t103.2.2.1]; exact la_n_t102
                        have wl_n_t103 : m_wh t103 ((m_md t4)) = 56 := by rw [j_t103.1]; exact wl_n_t102
                        clear la_n_t102 wl_n_t102
                        have la_m_mdt4_t103 : m_la t103 (m_md t4) = (m_md t8) + 1 := by rw [j_t103.2.2.1]; exact la_m_mdt4_t102
                        have wl_m_mdt4_t103 : m_wh t103 ((m_md t8)) = 13 := by rw [j_t103.1]; exact wl_m_mdt4_t102
                        clear la_m_mdt4_t102 wl_m_mdt4_t102
                        refine Ok_ret (show Ok _ _ _ from ?_)
                        refine Ok_ret (show Ok _ _ _ from ?_)
                        refine Hv_mk (Kv_c (x := (18, m_md t8, 1)) rfl (Kv_c (x := (5, m_md t8, 3)) rfl (Kv_c (x := (4, m_md t8, 3)) rfl hK))) (C_t103.1.2.2.2.2.2.2 hTt) C_t103 hT (by omega) (by omega) (by omega) ?_ ?_ ?_ (by omega) ?_ ?_ ?_
                        · exact ⟨(Io_n (by decide) (by decide) I_m_mdt8_t103.1 I_m_mdt8_t103.2.1 I_m_mdt8_t103.2.2.1 (fun q => absurd q (by decide)) (fun q => absurd q (by decide)) I_m_mdt8_t103.2.2.2), (Nd_0 (by decide) Mo_nil), ⟨(Io_n (by decide) (by decide) I_m_mdt8_t103.1 I_m_mdt8_t103.2.1 I_m_mdt8_t103.2.2.1 (fun q => absurd q (by decide)) (fun q => absurd q (by decide)) I_m_mdt8_t103.2.2.2), (Nd_5 (Mo_cons (fun q => show m_md t8 ≤ m_md t8 from by omega) Mo_nil) (Or.inl ⟨1, rfl⟩)), ⟨(Io_n (by decide) (by decide) I_m_mdt8_t103.1 I_m_mdt8_t103.2.1 I_m_mdt8_t103.2.2.1 (fun q => absurd q (by decide)) (fun q => absurd q (by decide)) I_m_mdt8_t103.2.2.2), (Nd_A (by decide) (Mo_cons (fun q => show m_md t8 ≤ m_md t8 from by omega) (Mo_cons (fun q => show m_md t8 ≤ m_md t8 from by omega) Mo_nil)) (Or.inr ⟨(18, m_md t8, 1), (List.mem_cons_of_mem _ List.mem_cons_self), rfl, Or.inr (Or.inl rfl)⟩)), Stk_step (N := n) (pop := (43, n, t)) (new := [(4, m_md t8, 3), (5, m_md t8, 3), (18, m_md t8, 1)]) F0 C_t103.1.to2 (fun (h : nk 43 = false) => absurd h (by decide)) (fun q _ h => h (43, n, t) rfl) (fun _ => rfl) (fun y hy hk => ⟨rfl, (Mo_cons (fun q => show n ≤ m_md t8 from by omega) (Mo_cons (fun q => show n ≤ m_md t8 from by omega) (Mo_cons (fun q => show n ≤ m_md t8 from by omega) Mo_nil))) y hy hk⟩) (fun (h : 43 = 3 ∨ 43 = 18 ∨ 43 = 41) => absurd h (by decide)) (fun (h : 43 = 18) => absurd h (by decide)) (fun _ h16 => (Or.inr ⟨f_n_t103, (Ab_some (y := (4, m_md t8, 3)) rfl (show n < m_md t8 from by omega)), H50_no la_n_t103 wl_n_t103 (by decide)⟩)) r [] (fun y hy => absurd hy List.not_mem_nil) hS⟩⟩⟩
                        · exact (Aj_up (x := (18, m_md t8, 1)) (Aj_up (x := (5, m_md t8, 3)) (Aj_sub (y := (4, m_md t8, 3)) hJ (Nat.le_of_ble_eq_true rfl)) (Or.inr (Nat.le_of_ble_eq_true rfl))) (Or.inr (Nat.le_of_ble_eq_true rfl)))
                        · show m_dp t103 = (dlt 18 + (dlt 5 + (dlt 4 + sD r)))
                          have : dlt 18 = 0 := rfl; have : dlt 4 = 0 := rfl; have : dlt 43 = 0 := rfl; have : dlt 5 = 0 := rfl; omega
                        · show m_rw t103 = (rho 18 + (rho 5 + (rho 4 + sR r)))
                          have : rho 18 = 0 := rfl; have : rho 4 = 0 := rfl; have : rho 43 = 0 := rfl; have : rho 5 = 0 := rfl; omega
                        · show m_md t103 + (mu7 18 + (mu7 5 + (mu7 4 + sM r))) ≤ 3 * m_at t103 + 7 * (r.length + 1 + 1 + 1) + 10
                          have : mu7 18 = 5 := rfl; have : mu7 4 = 7 := rfl; have : mu7 43 = 4 := rfl; have : mu7 5 = 7 := rfl; omega
                        · show (wt 18 + (wt 5 + (wt 4 + sW r))) + 6 * (4096 - m_at t103) + 4 * (600 - (r.length + 1 + 1 + 1)) < (wt 43 + sW r) + 6 * (4096 - m_at t0) + 4 * (600 - (r.length + 1))
                          have : wt 18 = 0 := rfl; have : wt 4 = 5 := rfl; have : wt 43 = 0 := rfl; have : wt 5 = 5 := rfl; omega
                      · refine Ok_ife (Nat.lt_trans (lo_lt (C_t10.tk hT) _) (by decide)) (by decide) (fun q104 => ?_) (fun q104 => ?_)
                        · refine Kp_push C_t10 (by omega) (fun t105 C_t105 X_t105 a_t105 b_t105 d_t105 w_t105 u_t105 v_t105 j_t105 l_t105 => ?_)
                          have e_t105 := C_t105.2.2.2.1
                          rw [a_t10] at a_t105
                          rw [b_t10] at b_t105
                          rw [d_t10] at d_t105
                          rw [w_t10] at w_t105
                          rw [u_t10] at u_t105
                          rw [v_t10] at v_t105
                          clear d_t10 w_t10 u_t10 v_t10 e_t10 a_t10 b_t10
                          have I_n_t105 := I_n_t10.flat X_t105
                          have f_n_t105 := f_n_t10.ex I_n_t10 (X_t105 0)
                          have u_n_t105 := u_n_t10.ex I_n_t10 (X_t105 0)
                          have I_m_mdt4_t105 := I_m_mdt4_t10.flat X_t105
                          have f_m_mdt4_t105 := f_m_mdt4_t10.ex I_m_mdt4_t10 (X_t105 0)
                          have I_m_mdt8_t105 := I_m_mdt8_t10.flat X_t105
                          have u_m_mdt8_t105 := u_m_mdt8_t10.ex I_m_mdt8_t10 (X_t105 0)
                          have la_n_t105 : m_la t105 n = (m_md t4) + 1 := by rw [j_t105.2.2.1]; exact la_n_t10
                          have wl_n_t105 : m_wh t105 ((m_md t4)) = 56 := by rw [j_t105.1]; exact wl_n_t10
                          clear la_n_t10 wl_n_t10
                          have la_m_mdt4_t105 : m_la t105 (m_md t4) = (m_md t8) + 1 := by rw [j_t105.2.2.1]; exact la_m_mdt4_t10
                          have wl_m_mdt4_t105 : m_wh t105 ((m_md t8)) = 13 := by rw [j_t105.1]; exact wl_m_mdt4_t10
                          clear la_m_mdt4_t10 wl_m_mdt4_t10
                          refine Kp_push C_t105 (by omega) (fun t106 C_t106 X_t106 a_t106 b_t106 d_t106 w_t106 u_t106 v_t106 j_t106 l_t106 => ?_)
                          have e_t106 := C_t106.2.2.2.1
                          rw [a_t105] at a_t106
                          rw [b_t105] at b_t106
                          rw [d_t105] at d_t106
                          rw [w_t105] at w_t106
                          rw [u_t105] at u_t106
                          rw [v_t105] at v_t106
                          clear d_t105 w_t105 u_t105 v_t105 e_t105 a_t105 b_t105
                          have I_n_t106 := I_n_t105.flat X_t106
                          have f_n_t106 := f_n_t105.ex I_n_t105 (X_t106 0)
                          have u_n_t106 := u_n_t105.ex I_n_t105 (X_t106 0)
                          have I_m_mdt4_t106 := I_m_mdt4_t105.flat X_t106
                          have f_m_mdt4_t106 := f_m_mdt4_t105.ex I_m_mdt4_t105 (X_t106 0)
                          have I_m_mdt8_t106 := I_m_mdt8_t105.flat X_t106
                          have u_m_mdt8_t106 := u_m_mdt8_t105.ex I_m_mdt8_t105 (X_t106 0)
                          have la_n_t106 : m_la t106 n = (m_md t4) + 1 := by rw [j_t106.2.2.1]; exact la_n_t105
                          have wl_n_t106 : m_wh t106 ((m_md t4)) = 56 := by rw [j_t106.1]; exact wl_n_t105
                          clear la_n_t105 wl_n_t105
                          have la_m_mdt4_t106 : m_la t106 (m_md t4) = (m_md t8) + 1 := by rw [j_t106.2.2.1]; exact la_m_mdt4_t105
                          have wl_m_mdt4_t106 : m_wh t106 ((m_md t8)) = 13 := by rw [j_t106.1]; exact wl_m_mdt4_t105
                          clear la_m_mdt4_t105 wl_m_mdt4_t105
                          refine Ok_ret (show Ok _ _ _ from ?_)
                          refine Ok_ret (show Ok _ _ _ from ?_)
                          refine Hv_mk (Kv_c (x := (18, m_md t8, 1)) rfl (Kv_c (x := (5, m_md t8, 3)) rfl (Kv_c (x := (4, m_md t8, 3)) rfl hK))) (C_t106.1.2.2.2.2.2.2 hTt) C_t106 hT (by omega) (by omega) (by omega) ?_ ?_ ?_ (by omega) ?_ ?_ ?_
                          · exact ⟨(Io_n (by decide) (by decide) I_m_mdt8_t106.1 I_m_mdt8_t106.2.1 I_m_mdt8_t106.2.2.1 (fun q => absurd q (by decide)) (fun q => absurd q (by decide)) I_m_mdt8_t106.2.2.2), (Nd_0 (by decide) Mo_nil), ⟨(Io_n (by decide) (by decide) I_m_mdt8_t106.1 I_m_mdt8_t106.2.1 I_m_mdt8_t106.2.2.1 (fun q => absurd q (by decide)) (fun q => absurd q (by decide)) I_m_mdt8_t106.2.2.2), (Nd_5 (Mo_cons (fun q => show m_md t8 ≤ m_md t8 from by omega) Mo_nil) (Or.inl ⟨1, rfl⟩)), ⟨(Io_n (by decide) (by decide) I_m_mdt8_t106.1 I_m_mdt8_t106.2.1 I_m_mdt8_t106.2.2.1 (fun q => absurd q (by decide)) (fun q => absurd q (by decide)) I_m_mdt8_t106.2.2.2), (Nd_A (by decide) (Mo_cons (fun q => show m_md t8 ≤ m_md t8 from by omega) (Mo_cons (fun q => show m_md t8 ≤ m_md t8 from by omega) Mo_nil)) (Or.inr ⟨(18, m_md t8, 1), (List.mem_cons_of_mem _ List.mem_cons_self), rfl, Or.inr (Or.inl rfl)⟩)), Stk_step (N := n) (pop := (43, n, t)) (new := [(4, m_md t8, 3), (5, m_md t8, 3), (18, m_md t8, 1)]) F0 C_t106.1.to2 (fun (h : nk 43 = false) => absurd h (by decide)) (fun q _ h => h (43, n, t) rfl) (fun _ => rfl) (fun y hy hk => ⟨rfl, (Mo_cons (fun q => show n ≤ m_md t8 from by omega) (Mo_cons (fun q => show n ≤ m_md t8 from by omega) (Mo_cons (fun q => show n ≤ m_md t8 from by omega) Mo_nil))) y hy hk⟩) (fun (h : 43 = 3 ∨ 43 = 18 ∨ 43 = 41) => absurd h (by decide)) (fun (h : 43 = 18) => absurd h (by decide)) (fun _ h16 => (Or.inr ⟨f_n_t106, (Ab_some (y := (4, m_md t8, 3)) rfl (show n < m_md t8 from by omega)), H50_no la_n_t106 wl_n_t106 (by decide)⟩)) r [] (fun y hy => absurd hy List.not_mem_nil) hS⟩⟩⟩
                          · exact (Aj_up (x := (18, m_md t8, 1)) (Aj_up (x := (5, m_md t8, 3)) (Aj_sub (y := (4, m_md t8, 3)) hJ (Nat.le_of_ble_eq_true rfl)) (Or.inr (Nat.le_of_ble_eq_true rfl))) (Or.inr (Nat.le_of_ble_eq_true rfl)))
                          · show m_dp t106 = (dlt 18 + (dlt 5 + (dlt 4 + sD r)))
                            have : dlt 18 = 0 := rfl; have : dlt 4 = 0 := rfl; have : dlt 43 = 0 := rfl; have : dlt 5 = 0 := rfl; omega
                          · show m_rw t106 = (rho 18 + (rho 5 + (rho 4 + sR r)))
                            have : rho 18 = 0 := rfl; have : rho 4 = 0 := rfl; have : rho 43 = 0 := rfl; have : rho 5 = 0 := rfl; omega
                          · show m_md t106 + (mu7 18 + (mu7 5 + (mu7 4 + sM r))) ≤ 3 * m_at t106 + 7 * (r.length + 1 + 1 + 1) + 10
                            have : mu7 18 = 5 := rfl; have : mu7 4 = 7 := rfl; have : mu7 43 = 4 := rfl; have : mu7 5 = 7 := rfl; omega
                          · show (wt 18 + (wt 5 + (wt 4 + sW r))) + 6 * (4096 - m_at t106) + 4 * (600 - (r.length + 1 + 1 + 1)) < (wt 43 + sW r) + 6 * (4096 - m_at t0) + 4 * (600 - (r.length + 1))
                            have : wt 18 = 0 := rfl; have : wt 4 = 5 := rfl; have : wt 43 = 0 := rfl; have : wt 5 = 5 := rfl; omega
                        · refine Kp_error C_t10 (by omega) (fun t107 C_t107 X_t107 a_t107 b_t107 d_t107 w_t107 u_t107 v_t107 j_t107 l_t107 => ?_)
                          have wb_t107 := w_t107.2
                          have w_t107 := Nat.pos_of_ne_zero w_t107.1
                          have e_t107 := C_t107.2.2.2.1
                          have I_n_t107 := I_n_t10.flat X_t107
                          have f_n_t107 := f_n_t10.ex I_n_t10 (X_t107 0)
                          have u_n_t107 := u_n_t10.ex I_n_t10 (X_t107 0)
                          have I_m_mdt4_t107 := I_m_mdt4_t10.flat X_t107
                          have f_m_mdt4_t107 := f_m_mdt4_t10.ex I_m_mdt4_t10 (X_t107 0)
                          have I_m_mdt8_t107 := I_m_mdt8_t10.flat X_t107
                          have u_m_mdt8_t107 := u_m_mdt8_t10.ex I_m_mdt8_t10 (X_t107 0)
                          have la_n_t107 : m_la t107 n = (m_md t4) + 1 := by rw [j_t107.2.2.1]; exact la_n_t10
                          have wl_n_t107 : m_wh t107 ((m_md t4)) = 56 := by rw [j_t107.1]; exact wl_n_t10
                          clear la_n_t10 wl_n_t10
                          have la_m_mdt4_t107 : m_la t107 (m_md t4) = (m_md t8) + 1 := by rw [j_t107.2.2.1]; exact la_m_mdt4_t10
                          have wl_m_mdt4_t107 : m_wh t107 ((m_md t8)) = 13 := by rw [j_t107.1]; exact wl_m_mdt4_t10
                          clear la_m_mdt4_t10 wl_m_mdt4_t10
                          refine Ok_ret (show Ok _ _ _ from ?_)
                          refine Ok_ret (show Ok _ _ _ from ?_)
                          exact Or.inl ⟨Nat.ne_of_gt (show 0 < m_wr t107 from by omega), by omega, by omega, C_t107.2.2.2.2.2, by omega⟩
    · refine Kp_error C_t0 (by omega) (fun t108 C_t108 X_t108 a_t108 b_t108 d_t108 w_t108 u_t108 v_t108 j_t108 l_t108 => ?_)
      have wb_t108 := w_t108.2
      have w_t108 := Nat.pos_of_ne_zero w_t108.1
      have e_t108 := C_t108.2.2.2.1
      have I_n_t108 := I_n_t0.flat X_t108
      have f_n_t108 := f_n_t0.ex I_n_t0 (X_t108 0)
      have u_n_t108 := u_n_t0.ex I_n_t0 (X_t108 0)
      exact Or.inl ⟨Nat.ne_of_gt (show 0 < m_wr t108 from by omega), by omega, by omega, C_t108.2.2.2.2.2, by omega⟩

