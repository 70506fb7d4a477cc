/-! The steps of the reference, one by one. -/
theorem Q_simpleRest_221_t76aba {t0 : Mm} {n t : Nat} {r : List It} (H : Hp t0 (42, n, t) r) {E : Mm → Prop} (y6 : Nat) (h6 : y6 ≤ 1) (h69 : m_wh t0 (m_la t0 n - 1) ≠ 69) (hk0 : lo t0 (m_at t0) = 76) (hk1 : f_X6_has (t &&& 255) 4 = 0) (hk2 : f_X6_has (t &&& 255) 8 ≠ 0) (hk3 : f_X6_has (t &&& 255) 16 = 0) : Ok (Qh (mz t0 ((42, n, t) :: r))) E (lp_X6_simpleRest_221 n (t &&& 255) (t / 256) (lo t0 (m_at t0)) y6 t0) := by
  obtain ⟨hK, hT, hc, hw0, ha, hC, hS, hJ, hdp, hdl, hrw, hmd, htd, hln, hm16, hI, hD, hTt⟩ := Hp_out H
  have C_t0 := hC n
  have F0 := C_t0.2.1
  have I_n_t0 : Nq t0 n := ⟨(hI.2.1 rfl).1, (hI.2.1 rfl).2.1, (hI.2.1 rfl).2.2, hI.2.2.2 rfl⟩
  have m_n_t0 := I_n_t0.1
  have ht : t < 2097152 := hI.1.2.2.1 rfl
  have h255 : t &&& 255 ≤ 255 := Nat.and_le_right
  have hand2 : t &&& 255 &&& 1 ≤ 1 := Nat.and_le_right
  have hdp : m_dp t0 = dlt 42 + sD r := hdp
  have hrw : m_rw t0 = rho 42 + sR r := hrw
  have hmd : m_md t0 + mu7 42 + sM r ≤ 3 * m_at t0 + 7 * r.length + 17 := hmd
  have hand : t &&& 1 ≤ 1 := Nat.and_le_right
  have h01 : (0 &&& 1 : Nat) = 0 := rfl
  have hor0 : (t &&& 255 &&& 1) ||| 0 ≤ 1 := by rw [Nat.or_zero]; exact hand2
  have hor2 : (t &&& 255 &&& 1) ||| 2 < 4 := Nat.or_lt_two_pow (n := 2) (by omega) (by decide)
  have h02 : (1 : Nat) * 256 = 256 := rfl
  have hq1 : dlt 42 = 0 := rfl
  have hq2 : rho 42 = 0 := rfl
  have hq3 : mu7 42 = 8 := rfl
  have f_n_t0 : Fz t0 n := (hD.2.1 (show 42 = 2 ∨ 42 = 4 ∨ 42 = 42 ∨ 42 = 50 by decide)).resolve_right (fun ⟨y, hy, _⟩ => absurd hy List.not_mem_nil)
  obtain ⟨hla0, hla2, -, -⟩ := Fo_lp F0 I_n_t0 f_n_t0
  have hla1 : m_la t0 n - 1 < m_md t0 := by omega
  have u_n_t0 : Up t0 n := hI.2.2.1 rfl
  unfold lp_X6_simpleRest_221
  refine Ok_ife (Nat.lt_trans (lo_lt (C_t0.tk hT) _) (by decide)) (by decide) (fun q => absurd (hk0.symm.trans q) (by decide)) (fun _ => ?_)
  refine Ok_ife (Nat.lt_trans (lo_lt (C_t0.tk hT) _) (by decide)) (by decide) (fun q => absurd (hk0.symm.trans q) (by decide)) (fun _ => ?_)
  refine Ok_ife (Nat.lt_trans (lo_lt (C_t0.tk hT) _) (by decide)) (by decide) (fun q => ?_) (fun q => absurd hk0 q)
  refine Ok_ifz (show y6 < 2147483648 from by omega) (fun q1 => ?_) (fun q1 => ?_)
  · try unfold lp_X6_simpleRest_348
    refine Kp_wrap C_t0 I_n_t0.1 I_n_t0.2.1 f_n_t0 I_n_t0.2.2.1 (by omega) (by omega) (by decide) (fun t2 C_t2 X_t2 a_t2 b_t2 d_t2 w_t2 u_t2 v_t2 j_t2 l_t2 => ?_)
    have e_t2 := C_t2.2.2.2.1
    have I_n_t2 := I_n_t0.le X_t2 (by omega)
    have f_n_t2 := f_n_t0.ex I_n_t0 (X_t2 0 (Nat.zero_le _))
    have u_n_t2 := u_n_t0.ex I_n_t0 (X_t2 0 (Nat.zero_le _))
    have hH : H50 t2 n := H50_mk F0 C_t2.2.1 I_n_t0 I_n_t2 f_n_t0 u_n_t0 j_t2 (by omega) hTt h69
    refine Hv_mk hK (C_t2.1.2.2.2.2.2.2 hTt) C_t2 hT (by omega) (by omega) (by omega) ?_ ?_ ?_ (by omega) ?_ ?_ ?_
    · exact Stk_step (N := n) (pop := (42, n, t)) (new := []) F0 C_t2.1.to2 (fun (h : nk 42 = false) => absurd h (by decide)) (fun q _ h => h (42, n, t) rfl) (fun _ => rfl) (fun y hy hk => ⟨rfl, Mo_nil (n := n) y hy hk⟩) (fun (h : 42 = 3 ∨ 42 = 18 ∨ 42 = 41) => absurd h (by decide)) (fun (h : 42 = 18) => absurd h (by decide)) (fun _ h16 => (Or.inr ⟨f_n_t2, (Ab_none rfl), hH⟩)) r [] (fun y hy => absurd hy List.not_mem_nil) hS
    · exact Aj_tl hJ
    · show m_dp t2 = sD r
      have : dlt 42 = 0 := rfl; omega
    · show m_rw t2 = sR r
      have : rho 42 = 0 := rfl; omega
    · show m_md t2 + sM r ≤ 3 * m_at t2 + 7 * (r.length) + 10
      have : mu7 42 = 8 := rfl; omega
    · show sW r + 6 * (4096 - m_at t2) + 4 * (600 - (r.length)) < (wt 42 + sW r) + 6 * (4096 - m_at t0) + 4 * (600 - (r.length + 1))
      have : wt 42 = 5 := rfl; omega
  · refine Ok_ck (show t &&& 255 < 2147483648 from by omega) ?_
    refine Ok_ifz (f6_has _ _) (fun q3 => ?_) (fun q3 => ?_)
    · refine Kp_wrap C_t0 I_n_t0.1 I_n_t0.2.1 f_n_t0 I_n_t0.2.2.1 (by omega) (by omega) (by decide) (fun t4 C_t4 X_t4 a_t4 b_t4 d_t4 w_t4 u_t4 v_t4 j_t4 l_t4 => ?_)
      have e_t4 := C_t4.2.2.2.1
      have I_n_t4 := I_n_t0.le X_t4 (by omega)
      have f_n_t4 := f_n_t0.ex I_n_t0 (X_t4 0 (Nat.zero_le _))
      have u_n_t4 := u_n_t0.ex I_n_t0 (X_t4 0 (Nat.zero_le _))
      have I_m_mdt0_t4 : Nq t4 (m_md t0) := Nq.wrn j_t4 (by omega) I_n_t0 (by decide)
      have f_m_mdt0_t4 : Fz t4 (m_md t0) := by unfold Fz; rw [j_t4.2.1]; exact j_t4.2.2.1
      have la_n_t4 : m_la t4 n = (m_md t0) + 1 := j_t4.2.2.2.2.2.2.2.1
      have wl_n_t4 : m_wh t4 (m_md t0) = 12 := j_t4.1
      refine Ok_bnc ?_
      try unfold b_X6_define
      refine Ok_bnc ?_
      try unfold b_X6_ranges
      refine Ok_ck (show t &&& 255 < 2147483648 from by omega) ?_
      refine Ok_ifz (f6_has _ _) (fun q => ?_) (fun q => absurd hk1 q)
      refine Ok_ret (show Ok _ _ _ from ?_)
      refine Ok_ifz0 ?_
      refine Kp_wrap C_t4 I_n_t4.1 I_n_t4.2.1 f_n_t4 I_n_t4.2.2.1 (by omega) (by omega) (by decide) (fun t7 C_t7 X_t7 a_t7 b_t7 d_t7 w_t7 u_t7 v_t7 j_t7 l_t7 => ?_)
      have e_t7 := C_t7.2.2.2.1
      rw [a_t4] at a_t7
      rw [b_t4] at b_t7
      rw [d_t4] at d_t7
      rw [w_t4] at w_t7
      rw [u_t4] at u_t7
      rw [v_t4] at v_t7
      clear d_t4 w_t4 u_t4 v_t4 e_t4 a_t4
      have I_n_t7 := I_n_t4.le X_t7 (by omega)
      have f_n_t7 := f_n_t4.ex I_n_t4 (X_t7 0 (Nat.zero_le _))
      have u_n_t7 := u_n_t4.ex I_n_t4 (X_t7 0 (Nat.zero_le _))
      have I_m_mdt4_t7 : Nq t7 (m_md t4) := Nq.wrn j_t7 (by omega) I_n_t4 (by decide)
      have f_m_mdt4_t7 : Fz t7 (m_md t4) := by unfold Fz; rw [j_t7.2.1]; exact j_t7.2.2.1
      have la_n_t7 : m_la t7 n = (m_md t4) + 1 := j_t7.2.2.2.2.2.2.2.1
      have wl_n_t7 : m_wh t7 (m_md t4) = 56 := j_t7.1
      have hv_m_mdt4_t7 : V56 t7 (m_md t4) (m_md t0) n := ⟨by rw [j_t7.2.1]; exact la_n_t4, j_t7.2.2.2.2.1⟩
      have z_t8 : m_at t7 < m_ct t7 := lo_ne (Nat.ne_of_gt (show 0 < lo t7 (m_at t7) from by omega))
      refine Kp_at C_t7 (fun t8 C_t8 X_t8 a_t8 b_t8 d_t8 w_t8 u_t8 v_t8 j_t8 l_t8 => ?_)
      have e_t8 := C_t8.2.2.2.1
      rw [a_t7] at a_t8
      rw [b_t7] at b_t8
      rw [d_t7] at d_t8
      rw [w_t7] at w_t8
      rw [u_t7] at u_t8
      rw [v_t7] at v_t8
      rw [a_t7, e_t7] at z_t8
      clear d_t7 w_t7 u_t7 v_t7 e_t7 a_t7 b_t7
      have I_n_t8 := I_n_t7.flat X_t8
      have f_n_t8 := f_n_t7.ex I_n_t7 (X_t8 0)
      have u_n_t8 := u_n_t7.ex I_n_t7 (X_t8 0)
      have I_m_mdt4_t8 := I_m_mdt4_t7.flat X_t8
      have f_m_mdt4_t8 := f_m_mdt4_t7.ex I_m_mdt4_t7 (X_t8 0)
      have hv_m_mdt4_t8 : V56 t8 (m_md t4) (m_md t0) n := hv_m_mdt4_t7.flat j_t8
      have la_n_t8 : m_la t8 n = (m_md t4) + 1 := by rw [j_t8.2.2.1]; exact la_n_t7
      have wl_n_t8 : m_wh t8 ((m_md t4)) = 56 := by rw [j_t8.1]; exact wl_n_t7
      clear la_n_t7 wl_n_t7
      refine Ok_ck (show t &&& 255 < 2147483648 from by omega) ?_
      refine Ok_ifz (f6_has _ _) (fun q => absurd q hk2) (fun q => ?_)
      refine Ok_ifz1 ?_
      refine Ok_ck (show t &&& 255 < 2147483648 from by omega) ?_
      refine Ok_ifz (f6_has _ _) (fun q => ?_) (fun q => absurd hk3 q)
      refine Kp_push C_t8 (by omega) (fun t9 C_t9 X_t9 a_t9 b_t9 d_t9 w_t9 u_t9 v_t9 j_t9 l_t9 => ?_)
      have e_t9 := C_t9.2.2.2.1
      rw [a_t8] at a_t9
      rw [b_t8] at b_t9
      rw [d_t8] at d_t9
      rw [w_t8] at w_t9
      rw [u_t8] at u_t9
      rw [v_t8] at v_t9
      clear d_t8 w_t8 u_t8 v_t8 e_t8 a_t8 b_t8
      have I_n_t9 := I_n_t8.flat X_t9
      have f_n_t9 := f_n_t8.ex I_n_t8 (X_t9 0)
      have u_n_t9 := u_n_t8.ex I_n_t8 (X_t9 0)
      have I_m_mdt4_t9 := I_m_mdt4_t8.flat X_t9
      have f_m_mdt4_t9 := f_m_mdt4_t8.ex I_m_mdt4_t8 (X_t9 0)
      have hv_m_mdt4_t9 : V56 t9 (m_md t4) (m_md t0) n := hv_m_mdt4_t8.flat j_t9
      have la_n_t9 : m_la t9 n = (m_md t4) + 1 := by rw [j_t9.2.2.1]; exact la_n_t8
      have wl_n_t9 : m_wh t9 ((m_md t4)) = 56 := by rw [j_t9.1]; exact wl_n_t8
      clear la_n_t8 wl_n_t8
      refine Ok_ck (show t &&& 255 < 2147483648 from by omega) ?_
      refine Ok_ifz (f6_has _ _) (fun q => ?_) (fun q => absurd hk3 q)
      refine Ok_ck (show t &&& 255 < 2147483648 from by omega) ?_
      refine Ok_ifz (f6_has _ _) (fun q => absurd q hk2) (fun q => ?_)
      refine Ok_ifz1 ?_
      refine Ok_bnc ?_
      try unfold b_X6_right
      refine Kp_child C_t9 I_m_mdt4_t9.1 I_m_mdt4_t9.2.1 I_m_mdt4_t9.2.2.1 (by omega) (by omega) (by decide) (by decide) (fun t11 C_t11 X_t11 a_t11 b_t11 d_t11 w_t11 u_t11 v_t11 j_t11 l_t11 => ?_)
      have e_t11 := C_t11.2.2.2.1
      rw [a_t9] at a_t11
      rw [b_t9] at b_t11
      rw [d_t9] at d_t11
      rw [w_t9] at w_t11
      rw [u_t9] at u_t11
      rw [v_t9] at v_t11
      clear d_t9 w_t9 u_t9 v_t9 e_t9 a_t9
      have I_n_t11 := I_n_t9.chd X_t11 j_t11
      have f_n_t11 := f_n_t9.ex I_n_t9 (X_t11 0 (Nat.zero_le _))
      have u_n_t11 := u_n_t9.ex I_n_t9 (X_t11 0 (Nat.zero_le _))
      have I_m_mdt4_t11 := I_m_mdt4_t9.chd X_t11 j_t11
      have f_m_mdt4_t11 := f_m_mdt4_t9.ex I_m_mdt4_t9 (X_t11 0 (Nat.zero_le _))
      have hv_m_mdt4_t11 : V56 t11 (m_md t4) (m_md t0) n := hv_m_mdt4_t9.chd I_m_mdt4_t9.1 j_t11
      have la_n_t11 : m_la t11 n = (m_md t4) + 1 := by rw [(j_t11.2.2.2.2.2.2.2.1 n I_n_t9.1 (by omega)).1]; exact la_n_t9
      have wl_n_t11 : m_wh t11 ((m_md t4)) = 56 := by rw [(j_t11.2.2.2.2.2.2.1 ((m_md t4)) (by omega)).2]; exact wl_n_t9
      clear la_n_t9 wl_n_t9
      have f_m_mdt4_t11 : Fz t11 (m_md t4) := j_t11.2.2.2.2.1
      have I_m_mdt9_t11 : Nq t11 (m_md t9) := Nq.chn j_t11 (by omega) I_m_mdt4_t9 (by decide)
      have u_m_mdt9_t11 : Up t11 (m_md t9) := Or.inl j_t11.2.1
      have la_m_mdt4_t11 : m_la t11 (m_md t4) = (m_md t9) + 1 := j_t11.2.2.2.2.2.1
      have wl_m_mdt4_t11 : m_wh t11 (m_md t9) = 13 := j_t11.1
      have x69_t11 : U69 t11 (m_md t9) := fun h => absurd j_t11.2.2.1 h
      refine Ok_ck (show t &&& 255 < 2147483648 from by omega) ?_
      refine Ok_ifz (f6_has _ _) (fun q12 => ?_) (fun q12 => ?_)
      · refine Kp_push C_t11 (by omega) (fun t13 C_t13 X_t13 a_t13 b_t13 d_t13 w_t13 u_t13 v_t13 j_t13 l_t13 => ?_)
        have e_t13 := C_t13.2.2.2.1
        rw [a_t11] at a_t13
        rw [b_t11] at b_t13
        rw [d_t11] at d_t13
        rw [w_t11] at w_t13
        rw [u_t11] at u_t13
        rw [v_t11] at v_t13
        clear d_t11 w_t11 u_t11 v_t11 e_t11 a_t11 b_t11
        have I_n_t13 := I_n_t11.flat X_t13
        have f_n_t13 := f_n_t11.ex I_n_t11 (X_t13 0)
        have u_n_t13 := u_n_t11.ex I_n_t11 (X_t13 0)
        have I_m_mdt4_t13 := I_m_mdt4_t11.flat X_t13
        have f_m_mdt4_t13 := f_m_mdt4_t11.ex I_m_mdt4_t11 (X_t13 0)
        have I_m_mdt9_t13 := I_m_mdt9_t11.flat X_t13
        have u_m_mdt9_t13 := u_m_mdt9_t11.ex I_m_mdt9_t11 (X_t13 0)
        have hv_m_mdt4_t13 : V56 t13 (m_md t4) (m_md t0) n := hv_m_mdt4_t11.flat j_t13
        have x69_t13 : U69 t13 (m_md t9) := U69_flat j_t13 x69_t11
        have la_n_t13 : m_la t13 n = (m_md t4) + 1 := by rw [j_t13.2.2.1]; exact la_n_t11
        have wl_n_t13 : m_wh t13 ((m_md t4)) = 56 := by rw [j_t13.1]; exact wl_n_t11
        clear la_n_t11 wl_n_t11
        have la_m_mdt4_t13 : m_la t13 (m_md t4) = (m_md t9) + 1 := by rw [j_t13.2.2.1]; exact la_m_mdt4_t11
        have wl_m_mdt4_t13 : m_wh t13 ((m_md t9)) = 13 := by rw [j_t13.1]; exact wl_m_mdt4_t11
        clear la_m_mdt4_t11 wl_m_mdt4_t11
        refine Ok_bnc ?_
        try unfold b_X6_expression
        refine Kp_push C_t13 (by omega) (fun t15 C_t15 X_t15 a_t15 b_t15 d_t15 w_t15 u_t15 v_t15 j_t15 l_t15 => ?_)
        have e_t15 := C_t15.2.2.2.1
        rw [a_t13] at a_t15
        rw [b_t13] at b_t15
        rw [d_t13] at d_t15
        rw [w_t13] at w_t15
        rw [u_t13] at u_t15
        rw [v_t13] at v_t15
        clear d_t13 w_t13 u_t13 v_t13 e_t13 a_t13 b_t13
        have I_n_t15 := I_n_t13.flat X_t15
        have f_n_t15 := f_n_t13.ex I_n_t13 (X_t15 0)
        have u_n_t15 := u_n_t13.ex I_n_t13 (X_t15 0)
        have I_m_mdt4_t15 := I_m_mdt4_t13.flat X_t15
        have f_m_mdt4_t15 := f_m_mdt4_t13.ex I_m_mdt4_t13 (X_t15 0)
        have I_m_mdt9_t15 := I_m_mdt9_t13.flat X_t15
        have u_m_mdt9_t15 := u_m_mdt9_t13.ex I_m_mdt9_t13 (X_t15 0)
        have hv_m_mdt4_t15 : V56 t15 (m_md t4) (m_md t0) n := hv_m_mdt4_t13.flat j_t15
        have x69_t15 : U69 t15 (m_md t9) := U69_flat j_t15 x69_t13
        have la_n_t15 : m_la t15 n = (m_md t4) + 1 := by rw [j_t15.2.2.1]; exact la_n_t13
        have wl_n_t15 : m_wh t15 ((m_md t4)) = 56 := by rw [j_t15.1]; exact wl_n_t13
        clear la_n_t13 wl_n_t13
        have la_m_mdt4_t15 : m_la t15 (m_md t4) = (m_md t9) + 1 := by rw [j_t15.2.2.1]; exact la_m_mdt4_t13
        have wl_m_mdt4_t15 : m_wh t15 ((m_md t9)) = 13 := by rw [j_t15.1]; exact wl_m_mdt4_t13
        clear la_m_mdt4_t13 wl_m_mdt4_t13
        refine Kp_push C_t15 (by omega) (fun t16 C_t16 X_t16 a_t16 b_t16 d_t16 w_t16 u_t16 v_t16 j_t16 l_t16 => ?_)
        have e_t16 := C_t16.2.2.2.1
        rw [a_t15] at a_t16
        rw [b_t15] at b_t16
        rw [d_t15] at d_t16
        rw [w_t15] at w_t16
        rw [u_t15] at u_t16
        rw [v_t15] at v_t16
        clear d_t15 w_t15 u_t15 v_t15 e_t15 a_t15 b_t15
        have I_n_t16 := I_n_t15.flat X_t16
        have f_n_t16 := f_n_t15.ex I_n_t15 (X_t16 0)
        have u_n_t16 := u_n_t15.ex I_n_t15 (X_t16 0)
        have I_m_mdt4_t16 := I_m_mdt4_t15.flat X_t16
        have f_m_mdt4_t16 := f_m_mdt4_t15.ex I_m_mdt4_t15 (X_t16 0)
        have I_m_mdt9_t16 := I_m_mdt9_t15.flat X_t16
        have u_m_mdt9_t16 := u_m_mdt9_t15.ex I_m_mdt9_t15 (X_t16 0)
        have hv_m_mdt4_t16 : V56 t16 (m_md t4) (m_md t0) n := hv_m_mdt4_t15.flat j_t16
        have x69_t16 : U69 t16 (m_md t9) := U69_flat j_t16 x69_t15
        have la_n_t16 : m_la t16 n = (m_md t4) + 1 := by rw [j_t16.2.2.1]; exact la_n_t15
        have wl_n_t16 : m_wh t16 ((m_md t4)) = 56 := by rw [j_t16.1]; exact wl_n_t15
        clear la_n_t15 wl_n_t15
        have la_m_mdt4_t16 : m_la t16 (m_md t4) = (m_md t9) + 1 := by rw [j_t16.2.2.1]; exact la_m_mdt4_t15
        have wl_m_mdt4_t16 : m_wh t16 ((m_md t9)) = 13 := by rw [j_t16.1]; exact wl_m_mdt4_t15
        clear la_m_mdt4_t15 wl_m_mdt4_t15
        refine Ok_ret (show Ok _ _ _ from ?_)
        refine Ok_ret (show Ok _ _ _ from ?_)
        refine Ok_ret (show Ok _ _ _ from ?_)
        have h56 : N56 t16 (m_md t4) [(32, m_md t9, (t &&& 255) &&& 1), (2, m_md t9, (((t &&& 255) &&& 1) ||| 2) ||| (1 * 256)), (3, m_md t9, ((t &&& 255) &&& 1) ||| 2)] := N56_mk hv_m_mdt4_t16 la_m_mdt4_t16 (by omega) (by omega) (by omega) (by omega) (fun y hy => by cases hy; show m_md t9 ≤ m_md t9; omega) I_n_t16 I_m_mdt9_t16 u_m_mdt9_t16 x69_t16 (Or.inr ⟨(3, m_md t9, ((t &&& 255) &&& 1) ||| 2), (List.mem_cons_of_mem _ (List.mem_cons_of_mem _ List.mem_cons_self)), rfl, Or.inl rfl⟩)
        refine Hv_mk (Kv_c (x := (3, m_md t9, ((t &&& 255) &&& 1) ||| 2)) rfl (Kv_c (x := (2, m_md t9, (((t &&& 255) &&& 1) ||| 2) ||| (1 * 256))) rfl (Kv_c (x := (32, m_md t9, (t &&& 255) &&& 1)) rfl (Kv_c (x := (56, m_md t4, 1)) rfl hK)))) (C_t16.1.2.2.2.2.2.2 hTt) C_t16 hT (by omega) (by omega) (by omega) ?_ ?_ ?_ (by omega) ?_ ?_ ?_
        · exact ⟨(Io_n (by decide) (show ((t &&& 255) &&& 1) ||| 2 < 4096 from by omega) I_m_mdt9_t16.1 I_m_mdt9_t16.2.1 I_m_mdt9_t16.2.2.1 (fun q => absurd q (by decide)) (fun q => absurd q (by decide)) I_m_mdt9_t16.2.2.2), (Nd_0 (by decide) Mo_nil), ⟨(Io_2 (by have := or_256 (b := 1) (show (((t &&& 255) &&& 1) ||| 2) < 256 from by omega); omega) (by have := or_256 (b := 1) (show (((t &&& 255) &&& 1) ||| 2) < 256 from by omega); omega) (by have := or_256 (b := 1) (show (((t &&& 255) &&& 1) ||| 2) < 256 from by omega); omega) I_m_mdt9_t16.1 I_m_mdt9_t16.2.1 I_m_mdt9_t16.2.2.1 I_m_mdt9_t16.2.2.2), (Nd_A (by decide) (Mo_cons (fun q => show m_md t9 ≤ m_md t9 from by omega) Mo_nil) (Or.inr ⟨(3, m_md t9, ((t &&& 255) &&& 1) ||| 2), List.mem_cons_self, rfl, Or.inl rfl⟩)), ⟨(Io_n (by decide) (show (t &&& 255) &&& 1 < 4096 from by omega) I_m_mdt9_t16.1 I_m_mdt9_t16.2.1 I_m_mdt9_t16.2.2.1 (fun q => absurd q (by decide)) (fun q => absurd q (by decide)) I_m_mdt9_t16.2.2.2), (Nd_0 (by decide) (Mo_cons (fun q => show m_md t9 ≤ m_md t9 from by omega) (Mo_cons (fun q => show m_md t9 ≤ m_md t9 from by omega) Mo_nil))), ⟨(Io_n (by decide) (by decide) I_m_mdt4_t16.1 I_m_mdt4_t16.2.1 I_m_mdt4_t16.2.2.1 (fun q => absurd q (by decide)) (fun q => absurd q (by decide)) I_m_mdt4_t16.2.2.2), (Nd_56 (Mo_cons (fun q => show m_md t4 ≤ m_md t9 from by omega) (Mo_cons (fun q => show m_md t4 ≤ m_md t9 from by omega) (Mo_cons (fun q => show m_md t4 ≤ m_md t9 from by omega) Mo_nil))) (fun _ => h56)), Stk_step (N := n) (pop := (42, n, t)) (new := [(56, m_md t4, 1), (32, m_md t9, (t &&& 255) &&& 1), (2, m_md t9, (((t &&& 255) &&& 1) ||| 2) ||| (1 * 256)), (3, m_md t9, ((t &&& 255) &&& 1) ||| 2)]) F0 C_t16.1.to2 (fun (h : nk 42 = false) => absurd h (by decide)) (fun q _ h => h (42, n, t) rfl) (fun _ => rfl) (fun y hy hk => ⟨rfl, (Mo_cons (fun q => show n ≤ m_md t4 from by omega) (Mo_cons (fun q => show n ≤ m_md t9 from by omega) (Mo_cons (fun q => show n ≤ m_md t9 from by omega) (Mo_cons (fun q => show n ≤ m_md t9 from by omega) Mo_nil)))) y hy hk⟩) (fun (h : 42 = 3 ∨ 42 = 18 ∨ 42 = 41) => absurd h (by decide)) (fun (h : 42 = 18) => absurd h (by decide)) (fun _ h16 => (Or.inr ⟨f_n_t16, (Ab_some (y := (56, m_md t4, 1)) rfl (show n < m_md t4 from by omega)), H50_no la_n_t16 wl_n_t16 (by decide)⟩)) r [] (fun y hy => absurd hy List.not_mem_nil) hS⟩⟩⟩⟩
        · exact (Aj_up (x := (3, m_md t9, ((t &&& 255) &&& 1) ||| 2)) (Aj_up (x := (2, m_md t9, (((t &&& 255) &&& 1) ||| 2) ||| (1 * 256))) (Aj_up (x := (32, m_md t9, (t &&& 255) &&& 1)) (Aj_sub (y := (56, m_md t4, 1)) hJ (Nat.le_of_ble_eq_true rfl)) (Or.inr (Nat.le_of_ble_eq_true rfl))) (Or.inr (show 9 - ((((t &&& 255) &&& 1) ||| 2) ||| (1 * 256)) / 256 < 9 from by have := or_256 (b := 1) (show (((t &&& 255) &&& 1) ||| 2) < 256 from by omega); omega))) (Or.inr (show 2 < 9 - ((((t &&& 255) &&& 1) ||| 2) ||| (1 * 256)) / 256 from by have := or_256 (b := 1) (show (((t &&& 255) &&& 1) ||| 2) < 256 from by omega); omega)))
        · show m_dp t16 = (dlt 3 + (dlt 2 + (dlt 32 + (dlt 56 + sD r))))
          have : dlt 2 = 0 := rfl; have : dlt 3 = 0 := rfl; have : dlt 32 = 0 := rfl; have : dlt 42 = 0 := rfl; have : dlt 56 = 0 := rfl; omega
        · show m_rw t16 = (rho 3 + (rho 2 + (rho 32 + (rho 56 + sR r))))
          have : rho 2 = 0 := rfl; have : rho 3 = 0 := rfl; have : rho 32 = 0 := rfl; have : rho 42 = 0 := rfl; have : rho 56 = 0 := rfl; omega
        · show m_md t16 + (mu7 3 + (mu7 2 + (mu7 32 + (mu7 56 + sM r)))) ≤ 3 * m_at t16 + 7 * (r.length + 1 + 1 + 1 + 1) + 10
          have : mu7 2 = 7 := rfl; have : mu7 3 = 5 := rfl; have : mu7 32 = 7 := rfl; have : mu7 42 = 8 := rfl; have : mu7 56 = 7 := rfl; omega
        · show (wt 3 + (wt 2 + (wt 32 + (wt 56 + sW r)))) + 6 * (4096 - m_at t16) + 4 * (600 - (r.length + 1 + 1 + 1 + 1)) < (wt 42 + sW r) + 6 * (4096 - m_at t0) + 4 * (600 - (r.length + 1))
          have : wt 2 = 5 := rfl; have : wt 3 = 3 := rfl; have : wt 32 = 5 := rfl; have : wt 42 = 5 := rfl; have : wt 56 = 5 := rfl; omega
      · refine Ok_bnc ?_
        try unfold b_X6_expression
        refine Kp_push C_t11 (by omega) (fun t18 C_t18 X_t18 a_t18 b_t18 d_t18 w_t18 u_t18 v_t18 j_t18 l_t18 => ?_)
        have e_t18 := C_t18.2.2.2.1
        rw [a_t11] at a_t18
        rw [b_t11] at b_t18
        rw [d_t11] at d_t18
        rw [w_t11] at w_t18
        rw [u_t11] at u_t18
        rw [v_t11] at v_t18
        clear d_t11 w_t11 u_t11 v_t11 e_t11 a_t11 b_t11
        have I_n_t18 := I_n_t11.flat X_t18
        have f_n_t18 := f_n_t11.ex I_n_t11 (X_t18 0)
        have u_n_t18 := u_n_t11.ex I_n_t11 (X_t18 0)
        have I_m_mdt4_t18 := I_m_mdt4_t11.flat X_t18
        have f_m_mdt4_t18 := f_m_mdt4_t11.ex I_m_mdt4_t11 (X_t18 0)
        have I_m_mdt9_t18 := I_m_mdt9_t11.flat X_t18
        have u_m_mdt9_t18 := u_m_mdt9_t11.ex I_m_mdt9_t11 (X_t18 0)
        have hv_m_mdt4_t18 : V56 t18 (m_md t4) (m_md t0) n := hv_m_mdt4_t11.flat j_t18
        have x69_t18 : U69 t18 (m_md t9) := U69_flat j_t18 x69_t11
        have la_n_t18 : m_la t18 n = (m_md t4) + 1 := by rw [j_t18.2.2.1]; exact la_n_t11
        have wl_n_t18 : m_wh t18 ((m_md t4)) = 56 := by rw [j_t18.1]; exact wl_n_t11
        clear la_n_t11 wl_n_t11
        have la_m_mdt4_t18 : m_la t18 (m_md t4) = (m_md t9) + 1 := by rw [j_t18.2.2.1]; exact la_m_mdt4_t11
        have wl_m_mdt4_t18 : m_wh t18 ((m_md t9)) = 13 := by rw [j_t18.1]; exact wl_m_mdt4_t11
        clear la_m_mdt4_t11 wl_m_mdt4_t11
        refine Kp_push C_t18 (by omega) (fun t19 C_t19 X_t19 a_t19 b_t19 d_t19 w_t19 u_t19 v_t19 j_t19 l_t19 => ?_)
        have e_t19 := C_t19.2.2.2.1
        rw [a_t18] at a_t19
        rw [b_t18] at b_t19
        rw [d_t18] at d_t19
        rw [w_t18] at w_t19
        rw [u_t18] at u_t19
        rw [v_t18] at v_t19
        clear d_t18 w_t18 u_t18 v_t18 e_t18 a_t18 b_t18
        have I_n_t19 := I_n_t18.flat X_t19
        have f_n_t19 := f_n_t18.ex I_n_t18 (X_t19 0)
        have u_n_t19 := u_n_t18.ex I_n_t18 (X_t19 0)
        have I_m_mdt4_t19 := I_m_mdt4_t18.flat X_t19
        have f_m_mdt4_t19 := f_m_mdt4_t18.ex I_m_mdt4_t18 (X_t19 0)
        have I_m_mdt9_t19 := I_m_mdt9_t18.flat X_t19
        have u_m_mdt9_t19 := u_m_mdt9_t18.ex I_m_mdt9_t18 (X_t19 0)
        have hv_m_mdt4_t19 : V56 t19 (m_md t4) (m_md t0) n := hv_m_mdt4_t18.flat j_t19
        have x69_t19 : U69 t19 (m_md t9) := U69_flat j_t19 x69_t18
        have la_n_t19 : m_la t19 n = (m_md t4) + 1 := by rw [j_t19.2.2.1]; exact la_n_t18
        have wl_n_t19 : m_wh t19 ((m_md t4)) = 56 := by rw [j_t19.1]; exact wl_n_t18
        clear la_n_t18 wl_n_t18
        have la_m_mdt4_t19 : m_la t19 (m_md t4) = (m_md t9) + 1 := by rw [j_t19.2.2.1]; exact la_m_mdt4_t18
        have wl_m_mdt4_t19 : m_wh t19 ((m_md t9)) = 13 := by rw [j_t19.1]; exact wl_m_mdt4_t18
        clear la_m_mdt4_t18 wl_m_mdt4_t18
        refine Ok_ret (show Ok _ _ _ from ?_)
        refine Ok_ret (show Ok _ _ _ from ?_)
        refine Ok_ret (show Ok _ _ _ from ?_)
        have h56 : N56 t19 (m_md t4) [(2, m_md t9, (((t &&& 255) &&& 1) ||| 2) ||| (1 * 256)), (3, m_md t9, ((t &&& 255) &&& 1) ||| 2)] := N56_mk hv_m_mdt4_t19 la_m_mdt4_t19 (by omega) (by omega) (by omega) (by omega) (fun y hy => by cases hy; show m_md t9 ≤ m_md t9; omega) I_n_t19 I_m_mdt9_t19 u_m_mdt9_t19 x69_t19 (Or.inr ⟨(3, m_md t9, ((t &&& 255) &&& 1) ||| 2), (List.mem_cons_of_mem _ List.mem_cons_self), rfl, Or.inl rfl⟩)
        refine Hv_mk (Kv_c (x := (3, m_md t9, ((t &&& 255) &&& 1) ||| 2)) rfl (Kv_c (x := (2, m_md t9, (((t &&& 255) &&& 1) ||| 2) ||| (1 * 256))) rfl (Kv_c (x := (56, m_md t4, 1)) rfl hK))) (C_t19.1.2.2.2.2.2.2 hTt) C_t19 hT (by omega) (by omega) (by omega) ?_ ?_ ?_ (by omega) ?_ ?_ ?_
        · exact ⟨(Io_n (by decide) (show ((t &&& 255) &&& 1) ||| 2 < 4096 from by omega) I_m_mdt9_t19.1 I_m_mdt9_t19.2.1 I_m_mdt9_t19.2.2.1 (fun q => absurd q (by decide)) (fun q => absurd q (by decide)) I_m_mdt9_t19.2.2.2), (Nd_0 (by decide) Mo_nil), ⟨(Io_2 (by have := or_256 (b := 1) (show (((t &&& 255) &&& 1) ||| 2) < 256 from by omega); omega) (by have := or_256 (b := 1) (show (((t &&& 255) &&& 1) ||| 2) < 256 from by omega); omega) (by have := or_256 (b := 1) (show (((t &&& 255) &&& 1) ||| 2) < 256 from by omega); omega) I_m_mdt9_t19.1 I_m_mdt9_t19.2.1 I_m_mdt9_t19.2.2.1 I_m_mdt9_t19.2.2.2), (Nd_A (by decide) (Mo_cons (fun q => show m_md t9 ≤ m_md t9 from by omega) Mo_nil) (Or.inr ⟨(3, m_md t9, ((t &&& 255) &&& 1) ||| 2), List.mem_cons_self, rfl, Or.inl rfl⟩)), ⟨(Io_n (by decide) (by decide) I_m_mdt4_t19.1 I_m_mdt4_t19.2.1 I_m_mdt4_t19.2.2.1 (fun q => absurd q (by decide)) (fun q => absurd q (by decide)) I_m_mdt4_t19.2.2.2), (Nd_56 (Mo_cons (fun q => show m_md t4 ≤ m_md t9 from by omega) (Mo_cons (fun q => show m_md t4 ≤ m_md t9 from by omega) Mo_nil)) (fun _ => h56)), Stk_step (N := n) (pop := (42, n, t)) (new := [(56, m_md t4, 1), (2, m_md t9, (((t &&& 255) &&& 1) ||| 2) ||| (1 * 256)), (3, m_md t9, ((t &&& 255) &&& 1) ||| 2)]) F0 C_t19.1.to2 (fun (h : nk 42 = false) => absurd h (by decide)) (fun q _ h => h (42, n, t) rfl) (fun _ => rfl) (fun y hy hk => ⟨rfl, (Mo_cons (fun q => show n ≤ m_md t4 from by omega) (Mo_cons (fun q => show n ≤ m_md t9 from by omega) (Mo_cons (fun q => show n ≤ m_md t9 from by omega) Mo_nil))) y hy hk⟩) (fun (h : 42 = 3 ∨ 42 = 18 ∨ 42 = 41) => absurd h (by decide)) (fun (h : 42 = 18) => absurd h (by decide)) (fun _ h16 => (Or.inr ⟨f_n_t19, (Ab_some (y := (56, m_md t4, 1)) rfl (show n < m_md t4 from by omega)), H50_no la_n_t19 wl_n_t19 (by decide)⟩)) r [] (fun y hy => absurd hy List.not_mem_nil) hS⟩⟩⟩
        · exact (Aj_up (x := (3, m_md t9, ((t &&& 255) &&& 1) ||| 2)) (Aj_up (x := (2, m_md t9, (((t &&& 255) &&& 1) ||| 2) ||| (1 * 256))) (Aj_sub (y := (56, m_md t4, 1)) hJ (Nat.le_of_ble_eq_true rfl)) (Or.inr (show 9 - ((((t &&& 255) &&& 1) ||| 2) ||| (1 * 256)) / 256 < 10 from by have := or_256 (b := 1) (show (((t &&& 255) &&& 1) ||| 2) < 256 from by omega); omega))) (Or.inr (show 2 < 9 - ((((t &&& 255) &&& 1) ||| 2) ||| (1 * 256)) / 256 from by have := or_256 (b := 1) (show (((t &&& 255) &&& 1) ||| 2) < 256 from by omega); omega)))
        · show m_dp t19 = (dlt 3 + (dlt 2 + (dlt 56 + sD r)))
          have : dlt 2 = 0 := rfl; have : dlt 3 = 0 := rfl; have : dlt 42 = 0 := rfl; have : dlt 56 = 0 := rfl; omega
        · show m_rw t19 = (rho 3 + (rho 2 + (rho 56 + sR r)))
          have : rho 2 = 0 := rfl; have : rho 3 = 0 := rfl; have : rho 42 = 0 := rfl; have : rho 56 = 0 := rfl; omega
        · show m_md t19 + (mu7 3 + (mu7 2 + (mu7 56 + sM r))) ≤ 3 * m_at t19 + 7 * (r.length + 1 + 1 + 1) + 10
          have : mu7 2 = 7 := rfl; have : mu7 3 = 5 := rfl; have : mu7 42 = 8 := rfl; have : mu7 56 = 7 := rfl; omega
        · show (wt 3 + (wt 2 + (wt 56 + sW r))) + 6 * (4096 - m_at t19) + 4 * (600 - (r.length + 1 + 1 + 1)) < (wt 42 + sW r) + 6 * (4096 - m_at t0) + 4 * (600 - (r.length + 1))
          have : wt 2 = 5 := rfl; have : wt 3 = 3 := rfl; have : wt 42 = 5 := rfl; have : wt 56 = 5 := rfl; omega
    · try unfold lp_X6_simpleRest_348
      refine Kp_wrap C_t0 I_n_t0.1 I_n_t0.2.1 f_n_t0 I_n_t0.2.2.1 (by omega) (by omega) (by decide) (fun t20 C_t20 X_t20 a_t20 b_t20 d_t20 w_t20 u_t20 v_t20 j_t20 l_t20 => ?_)
      have e_t20 := C_t20.2.2.2.1
      have I_n_t20 := I_n_t0.le X_t20 (by omega)
      have f_n_t20 := f_n_t0.ex I_n_t0 (X_t20 0 (Nat.zero_le _))
      have u_n_t20 := u_n_t0.ex I_n_t0 (X_t20 0 (Nat.zero_le _))
      have hH : H50 t20 n := H50_mk F0 C_t20.2.1 I_n_t0 I_n_t20 f_n_t0 u_n_t0 j_t20 (by omega) hTt h69
      refine Hv_mk hK (C_t20.1.2.2.2.2.2.2 hTt) C_t20 hT (by omega) (by omega) (by omega) ?_ ?_ ?_ (by omega) ?_ ?_ ?_
      · exact Stk_step (N := n) (pop := (42, n, t)) (new := []) F0 C_t20.1.to2 (fun (h : nk 42 = false) => absurd h (by decide)) (fun q _ h => h (42, n, t) rfl) (fun _ => rfl) (fun y hy hk => ⟨rfl, Mo_nil (n := n) y hy hk⟩) (fun (h : 42 = 3 ∨ 42 = 18 ∨ 42 = 41) => absurd h (by decide)) (fun (h : 42 = 18) => absurd h (by decide)) (fun _ h16 => (Or.inr ⟨f_n_t20, (Ab_none rfl), hH⟩)) r [] (fun y hy => absurd hy List.not_mem_nil) hS
      · exact Aj_tl hJ
      · show m_dp t20 = sD r
        have : dlt 42 = 0 := rfl; omega
      · show m_rw t20 = sR r
        have : rho 42 = 0 := rfl; omega
      · show m_md t20 + sM r ≤ 3 * m_at t20 + 7 * (r.length) + 10
        have : mu7 42 = 8 := rfl; omega
      · show sW r + 6 * (4096 - m_at t20) + 4 * (600 - (r.length)) < (wt 42 + sW r) + 6 * (4096 - m_at t0) + 4 * (600 - (r.length + 1))
        have : wt 42 = 5 := rfl; omega

theorem Q_simpleRest_221_t76abb {t0 : Mm} {n t : Nat} {r : List It} (H : Hp t0 (42, n, t) r) {E : Mm → Prop} (y6 : Nat) (h6 : y6 ≤ 1) (h69 : m_wh t0 (m_la t0 n - 1) ≠ 69) (hk0 : lo t0 (m_at t0) = 76) (hk1 : f_X6_has (t &&& 255) 4 = 0) (hk2 : f_X6_has (t &&& 255) 8 ≠ 0) (hk3 : f_X6_has (t &&& 255) 16 ≠ 0) : Ok (Qh (mz t0 ((42, n, t) :: r))) E (lp_X6_simpleRest_221 n (t &&& 255) (t / 256) (lo t0 (m_at t0)) y6 t0) := by
  obtain ⟨hK, hT, hc, hw0, ha, hC, hS, hJ, hdp, hdl, hrw, hmd, htd, hln, hm16, hI, hD, hTt⟩ := Hp_out H
  have C_t0 := hC n
  have F0 := C_t0.2.1
  have I_n_t0 : Nq t0 n := ⟨(hI.2.1 rfl).1, (hI.2.1 rfl).2.1, (hI.2.1 rfl).2.2, hI.2.2.2 rfl⟩
  have m_n_t0 := I_n_t0.1
  have ht : t < 2097152 := hI.1.2.2.1 rfl
  have h255 : t &&& 255 ≤ 255 := Nat.and_le_right
  have hand2 : t &&& 255 &&& 1 ≤ 1 := Nat.and_le_right
  have hdp : m_dp t0 = dlt 42 + sD r := hdp
  have hrw : m_rw t0 = rho 42 + sR r := hrw
  have hmd : m_md t0 + mu7 42 + sM r ≤ 3 * m_at t0 + 7 * r.length + 17 := hmd
  have hand : t &&& 1 ≤ 1 := Nat.and_le_right
  have h01 : (0 &&& 1 : Nat) = 0 := rfl
  have hor0 : (t &&& 255 &&& 1) ||| 0 ≤ 1 := by rw [Nat.or_zero]; exact hand2
  have hor2 : (t &&& 255 &&& 1) ||| 2 < 4 := Nat.or_lt_two_pow (n := 2) (by omega) (by decide)
  have h02 : (1 : Nat) * 256 = 256 := rfl
  have hq1 : dlt 42 = 0 := rfl
  have hq2 : rho 42 = 0 := rfl
  have hq3 : mu7 42 = 8 := rfl
  have f_n_t0 : Fz t0 n := (hD.2.1 (show 42 = 2 ∨ 42 = 4 ∨ 42 = 42 ∨ 42 = 50 by decide)).resolve_right (fun ⟨y, hy, _⟩ => absurd hy List.not_mem_nil)
  obtain ⟨hla0, hla2, -, -⟩ := Fo_lp F0 I_n_t0 f_n_t0
  have hla1 : m_la t0 n - 1 < m_md t0 := by omega
  have u_n_t0 : Up t0 n := hI.2.2.1 rfl
  unfold lp_X6_simpleRest_221
  refine Ok_ife (Nat.lt_trans (lo_lt (C_t0.tk hT) _) (by decide)) (by decide) (fun q => absurd (hk0.symm.trans q) (by decide)) (fun _ => ?_)
  refine Ok_ife (Nat.lt_trans (lo_lt (C_t0.tk hT) _) (by decide)) (by decide) (fun q => absurd (hk0.symm.trans q) (by decide)) (fun _ => ?_)
  refine Ok_ife (Nat.lt_trans (lo_lt (C_t0.tk hT) _) (by decide)) (by decide) (fun q => ?_) (fun q => absurd hk0 q)
  refine Ok_ifz (show y6 < 2147483648 from by omega) (fun q1 => ?_) (fun q1 => ?_)
  · try unfold lp_X6_simpleRest_348
    refine Kp_wrap C_t0 I_n_t0.1 I_n_t0.2.1 f_n_t0 I_n_t0.2.2.1 (by omega) (by omega) (by decide) (fun t2 C_t2 X_t2 a_t2 b_t2 d_t2 w_t2 u_t2 v_t2 j_t2 l_t2 => ?_)
    have e_t2 := C_t2.2.2.2.1
    have I_n_t2 := I_n_t0.le X_t2 (by omega)
    have f_n_t2 := f_n_t0.ex I_n_t0 (X_t2 0 (Nat.zero_le _))
    have u_n_t2 := u_n_t0.ex I_n_t0 (X_t2 0 (Nat.zero_le _))
    have hH : H50 t2 n := H50_mk F0 C_t2.2.1 I_n_t0 I_n_t2 f_n_t0 u_n_t0 j_t2 (by omega) hTt h69
    refine Hv_mk hK (C_t2.1.2.2.2.2.2.2 hTt) C_t2 hT (by omega) (by omega) (by omega) ?_ ?_ ?_ (by omega) ?_ ?_ ?_
    · exact Stk_step (N := n) (pop := (42, n, t)) (new := []) F0 C_t2.1.to2 (fun (h : nk 42 = false) => absurd h (by decide)) (fun q _ h => h (42, n, t) rfl) (fun _ => rfl) (fun y hy hk => ⟨rfl, Mo_nil (n := n) y hy hk⟩) (fun (h : 42 = 3 ∨ 42 = 18 ∨ 42 = 41) => absurd h (by decide)) (fun (h : 42 = 18) => absurd h (by decide)) (fun _ h16 => (Or.inr ⟨f_n_t2, (Ab_none rfl), hH⟩)) r [] (fun y hy => absurd hy List.not_mem_nil) hS
    · exact Aj_tl hJ
    · show m_dp t2 = sD r
      have : dlt 42 = 0 := rfl; omega
    · show m_rw t2 = sR r
      have : rho 42 = 0 := rfl; omega
    · show m_md t2 + sM r ≤ 3 * m_at t2 + 7 * (r.length) + 10
      have : mu7 42 = 8 := rfl; omega
    · show sW r + 6 * (4096 - m_at t2) + 4 * (600 - (r.length)) < (wt 42 + sW r) + 6 * (4096 - m_at t0) + 4 * (600 - (r.length + 1))
      have : wt 42 = 5 := rfl; omega
  · refine Ok_ck (show t &&& 255 < 2147483648 from by omega) ?_
    refine Ok_ifz (f6_has _ _) (fun q3 => ?_) (fun q3 => ?_)
    · refine Kp_wrap C_t0 I_n_t0.1 I_n_t0.2.1 f_n_t0 I_n_t0.2.2.1 (by omega) (by omega) (by decide) (fun t4 C_t4 X_t4 a_t4 b_t4 d_t4 w_t4 u_t4 v_t4 j_t4 l_t4 => ?_)
      have e_t4 := C_t4.2.2.2.1
      have I_n_t4 := I_n_t0.le X_t4 (by omega)
      have f_n_t4 := f_n_t0.ex I_n_t0 (X_t4 0 (Nat.zero_le _))
      have u_n_t4 := u_n_t0.ex I_n_t0 (X_t4 0 (Nat.zero_le _))
      have I_m_mdt0_t4 : Nq t4 (m_md t0) := Nq.wrn j_t4 (by omega) I_n_t0 (by decide)
      have f_m_mdt0_t4 : Fz t4 (m_md t0) := by unfold Fz; rw [j_t4.2.1]; exact j_t4.2.2.1
      have la_n_t4 : m_la t4 n = (m_md t0) + 1 := j_t4.2.2.2.2.2.2.2.1
      have wl_n_t4 : m_wh t4 (m_md t0) = 12 := j_t4.1
      refine Ok_bnc ?_
      try unfold b_X6_define
      refine Ok_bnc ?_
      try unfold b_X6_ranges
      refine Ok_ck (show t &&& 255 < 2147483648 from by omega) ?_
      refine Ok_ifz (f6_has _ _) (fun q => ?_) (fun q => absurd hk1 q)
      refine Ok_ret (show Ok _ _ _ from ?_)
      refine Ok_ifz0 ?_
      refine Kp_wrap C_t4 I_n_t4.1 I_n_t4.2.1 f_n_t4 I_n_t4.2.2.1 (by omega) (by omega) (by decide) (fun t7 C_t7 X_t7 a_t7 b_t7 d_t7 w_t7 u_t7 v_t7 j_t7 l_t7 => ?_)
      have e_t7 := C_t7.2.2.2.1
      rw [a_t4] at a_t7
      rw [b_t4] at b_t7
      rw [d_t4] at d_t7
      rw [w_t4] at w_t7
      rw [u_t4] at u_t7
      rw [v_t4] at v_t7
      clear d_t4 w_t4 u_t4 v_t4 e_t4 a_t4
      have I_n_t7 := I_n_t4.le X_t7 (by omega)
      have f_n_t7 := f_n_t4.ex I_n_t4 (X_t7 0 (Nat.zero_le _))
      have u_n_t7 := u_n_t4.ex I_n_t4 (X_t7 0 (Nat.zero_le _))
      have I_m_mdt4_t7 : Nq t7 (m_md t4) := Nq.wrn j_t7 (by omega) I_n_t4 (by decide)
      have f_m_mdt4_t7 : Fz t7 (m_md t4) := by unfold Fz; rw [j_t7.2.1]; exact j_t7.2.2.1
      have la_n_t7 : m_la t7 n = (m_md t4) + 1 := j_t7.2.2.2.2.2.2.2.1
      have wl_n_t7 : m_wh t7 (m_md t4) = 56 := j_t7.1
      have hv_m_mdt4_t7 : V56 t7 (m_md t4) (m_md t0) n := ⟨by rw [j_t7.2.1]; exact la_n_t4, j_t7.2.2.2.2.1⟩
      have z_t8 : m_at t7 < m_ct t7 := lo_ne (Nat.ne_of_gt (show 0 < lo t7 (m_at t7) from by omega))
      refine Kp_at C_t7 (fun t8 C_t8 X_t8 a_t8 b_t8 d_t8 w_t8 u_t8 v_t8 j_t8 l_t8 => ?_)
      have e_t8 := C_t8.2.2.2.1
      rw [a_t7] at a_t8
      rw [b_t7] at b_t8
      rw [d_t7] at d_t8
      rw [w_t7] at w_t8
      rw [u_t7] at u_t8
      rw [v_t7] at v_t8
      rw [a_t7, e_t7] at z_t8
      clear d_t7 w_t7 u_t7 v_t7 e_t7 a_t7 b_t7
      have I_n_t8 := I_n_t7.flat X_t8
      have f_n_t8 := f_n_t7.ex I_n_t7 (X_t8 0)
      have u_n_t8 := u_n_t7.ex I_n_t7 (X_t8 0)
      have I_m_mdt4_t8 := I_m_mdt4_t7.flat X_t8
      have f_m_mdt4_t8 := f_m_mdt4_t7.ex I_m_mdt4_t7 (X_t8 0)
      have hv_m_mdt4_t8 : V56 t8 (m_md t4) (m_md t0) n := hv_m_mdt4_t7.flat j_t8
      have la_n_t8 : m_la t8 n = (m_md t4) + 1 := by rw [j_t8.2.2.1]; exact la_n_t7
      have wl_n_t8 : m_wh t8 ((m_md t4)) = 56 := by rw [j_t8.1]; exact wl_n_t7
      clear la_n_t7 wl_n_t7
      refine Ok_ck (show t &&& 255 < 2147483648 from by omega) ?_
      refine Ok_ifz (f6_has _ _) (fun q => absurd q hk2) (fun q => ?_)
      refine Ok_ifz1 ?_
      refine Ok_ck (show t &&& 255 < 2147483648 from by omega) ?_
      refine Ok_ifz (f6_has _ _) (fun q => absurd q hk3) (fun q => ?_)
      refine Kp_push C_t8 (by omega) (fun t9 C_t9 X_t9 a_t9 b_t9 d_t9 w_t9 u_t9 v_t9 j_t9 l_t9 => ?_)
      have e_t9 := C_t9.2.2.2.1
      rw [a_t8] at a_t9
      rw [b_t8] at b_t9
      rw [d_t8] at d_t9
      rw [w_t8] at w_t9
      rw [u_t8] at u_t9
      rw [v_t8] at v_t9
      clear d_t8 w_t8 u_t8 v_t8 e_t8 a_t8 b_t8
      have I_n_t9 := I_n_t8.flat X_t9
      have f_n_t9 := f_n_t8.ex I_n_t8 (X_t9 0)
      have u_n_t9 := u_n_t8.ex I_n_t8 (X_t9 0)
      have I_m_mdt4_t9 := I_m_mdt4_t8.flat X_t9
      have f_m_mdt4_t9 := f_m_mdt4_t8.ex I_m_mdt4_t8 (X_t9 0)
      have hv_m_mdt4_t9 : V56 t9 (m_md t4) (m_md t0) n := hv_m_mdt4_t8.flat j_t9
      have la_n_t9 : m_la t9 n = (m_md t4) + 1 := by rw [j_t9.2.2.1]; exact la_n_t8
      have wl_n_t9 : m_wh t9 ((m_md t4)) = 56 := by rw [j_t9.1]; exact wl_n_t8
      clear la_n_t8 wl_n_t8
      refine Ok_ck (show t &&& 255 < 2147483648 from by omega) ?_
      refine Ok_ifz (f6_has _ _) (fun q => absurd q hk3) (fun q => ?_)
      refine Kp_child C_t9 I_m_mdt4_t9.1 I_m_mdt4_t9.2.1 I_m_mdt4_t9.2.2.1 (by omega) (by omega) (by decide) (by decide) (fun t10 C_t10 X_t10 a_t10 b_t10 d_t10 w_t10 u_t10 v_t10 j_t10 l_t10 => ?_)
      have e_t10 := C_t10.2.2.2.1
      rw [a_t9] at a_t10
      rw [b_t9] at b_t10
      rw [d_t9] at d_t10
      rw [w_t9] at w_t10
      rw [u_t9] at u_t10
      rw [v_t9] at v_t10
      clear d_t9 w_t9 u_t9 v_t9 e_t9 a_t9
      have I_n_t10 := I_n_t9.chd X_t10 j_t10
      have f_n_t10 := f_n_t9.ex I_n_t9 (X_t10 0 (Nat.zero_le _))
      have u_n_t10 := u_n_t9.ex I_n_t9 (X_t10 0 (Nat.zero_le _))
      have I_m_mdt4_t10 := I_m_mdt4_t9.chd X_t10 j_t10
      have f_m_mdt4_t10 := f_m_mdt4_t9.ex I_m_mdt4_t9 (X_t10 0 (Nat.zero_le _))
      have hv_m_mdt4_t10 : V56 t10 (m_md t4) (m_md t0) n := hv_m_mdt4_t9.chd I_m_mdt4_t9.1 j_t10
      have la_n_t10 : m_la t10 n = (m_md t4) + 1 := by rw [(j_t10.2.2.2.2.2.2.2.1 n I_n_t9.1 (by omega)).1]; exact la_n_t9
      have wl_n_t10 : m_wh t10 ((m_md t4)) = 56 := by rw [(j_t10.2.2.2.2.2.2.1 ((m_md t4)) (by omega)).2]; exact wl_n_t9
      clear la_n_t9 wl_n_t9
      have f_m_mdt4_t10 : Fz t10 (m_md t4) := j_t10.2.2.2.2.1
      have I_m_mdt9_t10 : Nq t10 (m_md t9) := Nq.chn j_t10 (by omega) I_m_mdt4_t9 (by decide)
      have u_m_mdt9_t10 : Up t10 (m_md t9) := Or.inl j_t10.2.1
      have la_m_mdt4_t10 : m_la t10 (m_md t4) = (m_md t9) + 1 := j_t10.2.2.2.2.2.1
      have wl_m_mdt4_t10 : m_wh t10 (m_md t9) = 13 := j_t10.1
      have x69_t10 : U69 t10 (m_md t9) := fun h => absurd j_t10.2.2.1 h
      refine Kp_push C_t10 (by omega) (fun t11 C_t11 X_t11 a_t11 b_t11 d_t11 w_t11 u_t11 v_t11 j_t11 l_t11 => ?_)
      have e_t11 := C_t11.2.2.2.1
      rw [a_t10] at a_t11
      rw [b_t10] at b_t11
      rw [d_t10] at d_t11
      rw [w_t10] at w_t11
      rw [u_t10] at u_t11
      rw [v_t10] at v_t11
      clear d_t10 w_t10 u_t10 v_t10 e_t10 a_t10 b_t10
      have I_n_t11 := I_n_t10.flat X_t11
      have f_n_t11 := f_n_t10.ex I_n_t10 (X_t11 0)
      have u_n_t11 := u_n_t10.ex I_n_t10 (X_t11 0)
      have I_m_mdt4_t11 := I_m_mdt4_t10.flat X_t11
      have f_m_mdt4_t11 := f_m_mdt4_t10.ex I_m_mdt4_t10 (X_t11 0)
      have I_m_mdt9_t11 := I_m_mdt9_t10.flat X_t11
      have u_m_mdt9_t11 := u_m_mdt9_t10.ex I_m_mdt9_t10 (X_t11 0)
      have hv_m_mdt4_t11 : V56 t11 (m_md t4) (m_md t0) n := hv_m_mdt4_t10.flat j_t11
      have x69_t11 : U69 t11 (m_md t9) := U69_flat j_t11 x69_t10
      have la_n_t11 : m_la t11 n = (m_md t4) + 1 := by rw [j_t11.2.2.1]; exact la_n_t10
      have wl_n_t11 : m_wh t11 ((m_md t4)) = 56 := by rw [j_t11.1]; exact wl_n_t10
      clear la_n_t10 wl_n_t10
      have la_m_mdt4_t11 : m_la t11 (m_md t4) = (m_md t9) + 1 := by rw [j_t11.2.2.1]; exact la_m_mdt4_t10
      have wl_m_mdt4_t11 : m_wh t11 ((m_md t9)) = 13 := by rw [j_t11.1]; exact wl_m_mdt4_t10
      clear la_m_mdt4_t10 wl_m_mdt4_t10
      refine Ok_bnc ?_
      try unfold b_X6_operand
      refine Kp_look C_t11 hT (by omega) ?_
      refine Ok_ifl (by decide) (Nat.lt_trans (lo_lt (C_t11.tk hT) _) (by decide)) (fun q13 => ?_) (fun q13 => ?_)
      · refine Ok_ifl (by decide) (Nat.lt_trans (lo_lt (C_t11.tk hT) _) (by decide)) (fun q14 => ?_) (fun q14 => ?_)
        · refine Ok_ife (Nat.lt_trans (lo_lt (C_t11.tk hT) _) (by decide)) (by decide) (fun q15 => ?_) (fun q15 => ?_)
          · refine Ok_bnc ?_
            try unfold b_X6_name
            refine Kp_look C_t11 hT (by omega) ?_
            refine Ok_ife (Nat.lt_trans (lo_lt (C_t11.tk hT) _) (by decide)) (by decide) (fun q => ?_) (fun q => absurd q15 q)
            refine Kp_child C_t11 I_m_mdt9_t11.1 I_m_mdt9_t11.2.1 I_m_mdt9_t11.2.2.1 (by omega) (by omega) (by decide) (by decide) (fun t17 C_t17 X_t17 a_t17 b_t17 d_t17 w_t17 u_t17 v_t17 j_t17 l_t17 => ?_)
            have e_t17 := C_t17.2.2.2.1
            rw [a_t11] at a_t17
            rw [b_t11] at b_t17
            rw [d_t11] at d_t17
            rw [w_t11] at w_t17
            rw [u_t11] at u_t17
            rw [v_t11] at v_t17
            clear d_t11 w_t11 u_t11 v_t11 e_t11 a_t11
            have I_n_t17 := I_n_t11.chd X_t17 j_t17
            have f_n_t17 := f_n_t11.ex I_n_t11 (X_t17 0 (Nat.zero_le _))
            have u_n_t17 := u_n_t11.ex I_n_t11 (X_t17 0 (Nat.zero_le _))
            have I_m_mdt4_t17 := I_m_mdt4_t11.chd X_t17 j_t17
            have f_m_mdt4_t17 := f_m_mdt4_t11.ex I_m_mdt4_t11 (X_t17 0 (Nat.zero_le _))
            have I_m_mdt9_t17 := I_m_mdt9_t11.chd X_t17 j_t17
            have u_m_mdt9_t17 := u_m_mdt9_t11.ex I_m_mdt9_t11 (X_t17 0 (Nat.zero_le _))
            have hv_m_mdt4_t17 : V56 t17 (m_md t4) (m_md t0) n := hv_m_mdt4_t11.chd I_m_mdt4_t11.1 j_t17
            have x69_t17 : U69 t17 (m_md t9) := U69_ch j_t17 (by decide)
            have la_n_t17 : m_la t17 n = (m_md t4) + 1 := by rw [(j_t17.2.2.2.2.2.2.2.1 n I_n_t11.1 (by omega)).1]; exact la_n_t11
            have wl_n_t17 : m_wh t17 ((m_md t4)) = 56 := by rw [(j_t17.2.2.2.2.2.2.1 ((m_md t4)) (by omega)).2]; exact wl_n_t11
            clear la_n_t11 wl_n_t11
            have la_m_mdt4_t17 : m_la t17 (m_md t4) = (m_md t9) + 1 := by rw [(j_t17.2.2.2.2.2.2.2.1 (m_md t4) I_m_mdt4_t11.1 (by omega)).1]; exact la_m_mdt4_t11
            have wl_m_mdt4_t17 : m_wh t17 ((m_md t9)) = 13 := by rw [(j_t17.2.2.2.2.2.2.1 ((m_md t9)) (by omega)).2]; exact wl_m_mdt4_t11
            clear la_m_mdt4_t11 wl_m_mdt4_t11
            have f_m_mdt9_t17 : Fz t17 (m_md t9) := j_t17.2.2.2.2.1
            have I_m_mdt11_t17 : Nq t17 (m_md t11) := Nq.chn j_t17 (by omega) I_m_mdt9_t11 (by decide)
            have u_m_mdt11_t17 : Up t17 (m_md t11) := Or.inl j_t17.2.1
            have la_m_mdt9_t17 : m_la t17 (m_md t9) = (m_md t11) + 1 := j_t17.2.2.2.2.2.1
            have wl_m_mdt9_t17 : m_wh t17 (m_md t11) = 5 := j_t17.1
            have z_t18 : m_at t17 < m_ct t17 := lo_ne (Nat.ne_of_gt (show 0 < lo t17 (m_at t17) from by omega))
            refine Kp_at C_t17 (fun t18 C_t18 X_t18 a_t18 b_t18 d_t18 w_t18 u_t18 v_t18 j_t18 l_t18 => ?_)
            have e_t18 := C_t18.2.2.2.1
            rw [a_t17] at a_t18
            rw [b_t17] at b_t18
            rw [d_t17] at d_t18
            rw [w_t17] at w_t18
            rw [u_t17] at u_t18
            rw [v_t17] at v_t18
            rw [a_t17, e_t17] at z_t18
            clear z_t8
            clear d_t17 w_t17 u_t17 v_t17 e_t17 a_t17 b_t17
            have I_n_t18 := I_n_t17.flat X_t18
            have f_n_t18 := f_n_t17.ex I_n_t17 (X_t18 0)
            have u_n_t18 := u_n_t17.ex I_n_t17 (X_t18 0)
            have I_m_mdt4_t18 := I_m_mdt4_t17.flat X_t18
            have f_m_mdt4_t18 := f_m_mdt4_t17.ex I_m_mdt4_t17 (X_t18 0)
            have I_m_mdt9_t18 := I_m_mdt9_t17.flat X_t18
            have f_m_mdt9_t18 := f_m_mdt9_t17.ex I_m_mdt9_t17 (X_t18 0)
            have u_m_mdt9_t18 := u_m_mdt9_t17.ex I_m_mdt9_t17 (X_t18 0)
            have I_m_mdt11_t18 := I_m_mdt11_t17.flat X_t18
            have u_m_mdt11_t18 := u_m_mdt11_t17.ex I_m_mdt11_t17 (X_t18 0)
            have hv_m_mdt4_t18 : V56 t18 (m_md t4) (m_md t0) n := hv_m_mdt4_t17.flat j_t18
            have x69_t18 : U69 t18 (m_md t9) := U69_flat j_t18 x69_t17
            have la_n_t18 : m_la t18 n = (m_md t4) + 1 := by rw [j_t18.2.2.1]; exact la_n_t17
            have wl_n_t18 : m_wh t18 ((m_md t4)) = 56 := by rw [j_t18.1]; exact wl_n_t17
            clear la_n_t17 wl_n_t17
            have la_m_mdt4_t18 : m_la t18 (m_md t4) = (m_md t9) + 1 := by rw [j_t18.2.2.1]; exact la_m_mdt4_t17
            have wl_m_mdt4_t18 : m_wh t18 ((m_md t9)) = 13 := by rw [j_t18.1]; exact wl_m_mdt4_t17
            clear la_m_mdt4_t17 wl_m_mdt4_t17
            have la_m_mdt9_t18 : m_la t18 (m_md t9) = (m_md t11) + 1 := by rw [j_t18.2.2.1]; exact la_m_mdt9_t17
            have wl_m_mdt9_t18 : m_wh t18 ((m_md t11)) = 5 := by rw [j_t18.1]; exact wl_m_mdt9_t17
            clear la_m_mdt9_t17 wl_m_mdt9_t17
            refine Ok_ret (show Ok _ _ _ from ?_)
            refine Kp_push C_t18 (by omega) (fun t19 C_t19 X_t19 a_t19 b_t19 d_t19 w_t19 u_t19 v_t19 j_t19 l_t19 => ?_)
            have e_t19 := C_t19.2.2.2.1
            rw [a_t18] at a_t19
            rw [b_t18] at b_t19
            rw [d_t18] at d_t19
            rw [w_t18] at w_t19
            rw [u_t18] at u_t19
            rw [v_t18] at v_t19
            clear d_t18 w_t18 u_t18 v_t18 e_t18 a_t18 b_t18
            have I_n_t19 := I_n_t18.flat X_t19
            have f_n_t19 := f_n_t18.ex I_n_t18 (X_t19 0)
            have u_n_t19 := u_n_t18.ex I_n_t18 (X_t19 0)
            have I_m_mdt4_t19 := I_m_mdt4_t18.flat X_t19
            have f_m_mdt4_t19 := f_m_mdt4_t18.ex I_m_mdt4_t18 (X_t19 0)
            have I_m_mdt9_t19 := I_m_mdt9_t18.flat X_t19
            have f_m_mdt9_t19 := f_m_mdt9_t18.ex I_m_mdt9_t18 (X_t19 0)
            have u_m_mdt9_t19 := u_m_mdt9_t18.ex I_m_mdt9_t18 (X_t19 0)
            have I_m_mdt11_t19 := I_m_mdt11_t18.flat X_t19
            have u_m_mdt11_t19 := u_m_mdt11_t18.ex I_m_mdt11_t18 (X_t19 0)
            have hv_m_mdt4_t19 : V56 t19 (m_md t4) (m_md t0) n := hv_m_mdt4_t18.flat j_t19
            have x69_t19 : U69 t19 (m_md t9) := U69_flat j_t19 x69_t18
            have la_n_t19 : m_la t19 n = (m_md t4) + 1 := by rw [j_t19.2.2.1]; exact la_n_t18
            have wl_n_t19 : m_wh t19 ((m_md t4)) = 56 := by rw [j_t19.1]; exact wl_n_t18
            clear la_n_t18 wl_n_t18
            have la_m_mdt4_t19 : m_la t19 (m_md t4) = (m_md t9) + 1 := by rw [j_t19.2.2.1]; exact la_m_mdt4_t18
            have wl_m_mdt4_t19 : m_wh t19 ((m_md t9)) = 13 := by rw [j_t19.1]; exact wl_m_mdt4_t18
            clear la_m_mdt4_t18 wl_m_mdt4_t18
            have la_m_mdt9_t19 : m_la t19 (m_md t9) = (m_md t11) + 1 := by rw [j_t19.2.2.1]; exact la_m_mdt9_t18
            have wl_m_mdt9_t19 : m_wh t19 ((m_md t11)) = 5 := by rw [j_t19.1]; exact wl_m_mdt9_t18
            clear la_m_mdt9_t18 wl_m_mdt9_t18
            refine Ok_ret (show Ok _ _ _ from ?_)
            refine Ok_ret (show Ok _ _ _ from ?_)
            have h56 : N56 t19 (m_md t4) [(4, m_md t9, 3), (5, m_md t9, 3)] := N56_mk hv_m_mdt4_t19 la_m_mdt4_t19 (by omega) (by omega) (by omega) (by omega) (fun y hy => by cases hy; show m_md t9 ≤ m_md t9; omega) I_n_t19 I_m_mdt9_t19 u_m_mdt9_t19 x69_t19 (Or.inl f_m_mdt9_t19)
            refine Hv_mk (Kv_c (x := (5, m_md t9, 3)) rfl (Kv_c (x := (4, m_md t9, 3)) rfl (Kv_c (x := (56, m_md t4, 2)) rfl hK))) (C_t19.1.2.2.2.2.2.2 hTt) C_t19 hT (by omega) (by omega) (by omega) ?_ ?_ ?_ (by omega) ?_ ?_ ?_
            · exact ⟨(Io_n (by decide) (by decide) I_m_mdt9_t19.1 I_m_mdt9_t19.2.1 I_m_mdt9_t19.2.2.1 (fun q => absurd q (by decide)) (fun q => absurd q (by decide)) I_m_mdt9_t19.2.2.2), (Nd_5 Mo_nil (Or.inr (N5_mk f_m_mdt9_t19 (Ab_none rfl) la_m_mdt9_t19 wl_m_mdt9_t19 (Or.inl (by decide))))), ⟨(Io_n (by decide) (by decide) I_m_mdt9_t19.1 I_m_mdt9_t19.2.1 I_m_mdt9_t19.2.2.1 (fun q => absurd q (by decide)) (fun q => absurd q (by decide)) I_m_mdt9_t19.2.2.2), (Nd_A (by decide) (Mo_cons (fun q => show m_md t9 ≤ m_md t9 from by omega) Mo_nil) (Or.inl f_m_mdt9_t19)), ⟨(Io_n (by decide) (by decide) I_m_mdt4_t19.1 I_m_mdt4_t19.2.1 I_m_mdt4_t19.2.2.1 (fun q => absurd q (by decide)) (fun q => absurd q (by decide)) I_m_mdt4_t19.2.2.2), (Nd_56 (Mo_cons (fun q => show m_md t4 ≤ m_md t9 from by omega) (Mo_cons (fun q => show m_md t4 ≤ m_md t9 from by omega) Mo_nil)) (fun _ => h56)), Stk_step (N := n) (pop := (42, n, t)) (new := [(56, m_md t4, 2), (4, m_md t9, 3), (5, m_md t9, 3)]) F0 C_t19.1.to2 (fun (h : nk 42 = false) => absurd h (by decide)) (fun q _ h => h (42, n, t) rfl) (fun _ => rfl) (fun y hy hk => ⟨rfl, (Mo_cons (fun q => show n ≤ m_md t4 from by omega) (Mo_cons (fun q => show n ≤ m_md t9 from by omega) (Mo_cons (fun q => show n ≤ m_md t9 from by omega) Mo_nil))) y hy hk⟩) (fun (h : 42 = 3 ∨ 42 = 18 ∨ 42 = 41) => absurd h (by decide)) (fun (h : 42 = 18) => absurd h (by decide)) (fun _ h16 => (Or.inr ⟨f_n_t19, (Ab_some (y := (56, m_md t4, 2)) rfl (show n < m_md t4 from by omega)), H50_no la_n_t19 wl_n_t19 (by decide)⟩)) r [] (fun y hy => absurd hy List.not_mem_nil) hS⟩⟩⟩
            · exact (Aj_up (x := (5, m_md t9, 3)) (Aj_up (x := (4, m_md t9, 3)) (Aj_sub (y := (56, m_md t4, 2)) hJ (Nat.le_of_ble_eq_true rfl)) (Or.inr (Nat.le_of_ble_eq_true rfl))) (Or.inr (Nat.le_of_ble_eq_true rfl)))
            · show m_dp t19 = (dlt 5 + (dlt 4 + (dlt 56 + sD r)))
              have : dlt 4 = 0 := rfl; have : dlt 42 = 0 := rfl; have : dlt 5 = 0 := rfl; have : dlt 56 = 0 := rfl; omega
            · show m_rw t19 = (rho 5 + (rho 4 + (rho 56 + sR r)))
              have : rho 4 = 0 := rfl; have : rho 42 = 0 := rfl; have : rho 5 = 0 := rfl; have : rho 56 = 0 := rfl; omega
            · show m_md t19 + (mu7 5 + (mu7 4 + (mu7 56 + sM r))) ≤ 3 * m_at t19 + 7 * (r.length + 1 + 1 + 1) + 10
              have : mu7 4 = 7 := rfl; have : mu7 42 = 8 := rfl; have : mu7 5 = 7 := rfl; have : mu7 56 = 7 := rfl; omega
            · show (wt 5 + (wt 4 + (wt 56 + sW r))) + 6 * (4096 - m_at t19) + 4 * (600 - (r.length + 1 + 1 + 1)) < (wt 42 + sW r) + 6 * (4096 - m_at t0) + 4 * (600 - (r.length + 1))
              have : wt 4 = 5 := rfl; have : wt 42 = 5 := rfl; have : wt 5 = 5 := rfl; have : wt 56 = 5 := rfl; omega
          · refine Ok_ife (Nat.lt_trans (lo_lt (C_t11.tk hT) _) (by decide)) (by decide) (fun q20 => ?_) (fun q20 => ?_)
            · refine Kp_child C_t11 I_m_mdt9_t11.1 I_m_mdt9_t11.2.1 I_m_mdt9_t11.2.2.1 (by omega) (by omega) (by decide) (by decide) (fun t21 C_t21 X_t21 a_t21 b_t21 d_t21 w_t21 u_t21 v_t21 j_t21 l_t21 => ?_)
              have e_t21 := C_t21.2.2.2.1
              rw [a_t11] at a_t21
              rw [b_t11] at b_t21
              rw [d_t11] at d_t21
              rw [w_t11] at w_t21
              rw [u_t11] at u_t21
              rw [v_t11] at v_t21
              clear d_t11 w_t11 u_t11 v_t11 e_t11 a_t11
              have I_n_t21 := I_n_t11.chd X_t21 j_t21
              have f_n_t21 := f_n_t11.ex I_n_t11 (X_t21 0 (Nat.zero_le _))
              have u_n_t21 := u_n_t11.ex I_n_t11 (X_t21 0 (Nat.zero_le _))
              have I_m_mdt4_t21 := I_m_mdt4_t11.chd X_t21 j_t21
              have f_m_mdt4_t21 := f_m_mdt4_t11.ex I_m_mdt4_t11 (X_t21 0 (Nat.zero_le _))
              have I_m_mdt9_t21 := I_m_mdt9_t11.chd X_t21 j_t21
              have u_m_mdt9_t21 := u_m_mdt9_t11.ex I_m_mdt9_t11 (X_t21 0 (Nat.zero_le _))
              have hv_m_mdt4_t21 : V56 t21 (m_md t4) (m_md t0) n := hv_m_mdt4_t11.chd I_m_mdt4_t11.1 j_t21
              have x69_t21 : U69 t21 (m_md t9) := U69_ch j_t21 (by decide)
              have la_n_t21 : m_la t21 n = (m_md t4) + 1 := by rw [(j_t21.2.2.2.2.2.2.2.1 n I_n_t11.1 (by omega)).1]; exact la_n_t11
              have wl_n_t21 : m_wh t21 ((m_md t4)) = 56 := by rw [(j_t21.2.2.2.2.2.2.1 ((m_md t4)) (by omega)).2]; exact wl_n_t11
              clear la_n_t11 wl_n_t11
              have la_m_mdt4_t21 : m_la t21 (m_md t4) = (m_md t9) + 1 := by rw [(j_t21.2.2.2.2.2.2.2.1 (m_md t4) I_m_mdt4_t11.1 (by omega)).1]; exact la_m_mdt4_t11
              have wl_m_mdt4_t21 : m_wh t21 ((m_md t9)) = 13 := by rw [(j_t21.2.2.2.2.2.2.1 ((m_md t9)) (by omega)).2]; exact wl_m_mdt4_t11
              clear la_m_mdt4_t11 wl_m_mdt4_t11
              have f_m_mdt9_t21 : Fz t21 (m_md t9) := j_t21.2.2.2.2.1
              have I_m_mdt11_t21 : Nq t21 (m_md t11) := Nq.chn j_t21 (by omega) I_m_mdt9_t11 (by decide)
              have u_m_mdt11_t21 : Up t21 (m_md t11) := Or.inl j_t21.2.1
              have la_m_mdt9_t21 : m_la t21 (m_md t9) = (m_md t11) + 1 := j_t21.2.2.2.2.2.1
              have wl_m_mdt9_t21 : m_wh t21 (m_md t11) = 89 := j_t21.1
              refine Kp_more C_t21 (by omega) (by omega) (fun t22 C_t22 X_t22 a_t22 b_t22 d_t22 w_t22 u_t22 v_t22 j_t22 l_t22 => ?_)
              have e_t22 := C_t22.2.2.2.1
              rcases w_t22 with ⟨w_t22, y_t22⟩ | ⟨w_t22, wb_t22⟩
              · rw [a_t21] at a_t22
                rw [b_t21] at b_t22
                rw [d_t21] at d_t22
                rw [w_t21] at w_t22
                rw [u_t21] at u_t22
                rw [v_t21] at v_t22
                rw [d_t22] at y_t22
                clear d_t21 w_t21 u_t21 v_t21 e_t21 a_t21 b_t21
                have I_n_t22 := I_n_t21.flat X_t22
                have f_n_t22 := f_n_t21.ex I_n_t21 (X_t22 0)
                have u_n_t22 := u_n_t21.ex I_n_t21 (X_t22 0)
                have I_m_mdt4_t22 := I_m_mdt4_t21.flat X_t22
                have f_m_mdt4_t22 := f_m_mdt4_t21.ex I_m_mdt4_t21 (X_t22 0)
                have I_m_mdt9_t22 := I_m_mdt9_t21.flat X_t22
                have f_m_mdt9_t22 := f_m_mdt9_t21.ex I_m_mdt9_t21 (X_t22 0)
                have u_m_mdt9_t22 := u_m_mdt9_t21.ex I_m_mdt9_t21 (X_t22 0)
                have I_m_mdt11_t22 := I_m_mdt11_t21.flat X_t22
                have u_m_mdt11_t22 := u_m_mdt11_t21.ex I_m_mdt11_t21 (X_t22 0)
                have hv_m_mdt4_t22 : V56 t22 (m_md t4) (m_md t0) n := hv_m_mdt4_t21.flat j_t22
                have x69_t22 : U69 t22 (m_md t9) := U69_flat j_t22 x69_t21
                have la_n_t22 : m_la t22 n = (m_md t4) + 1 := by rw [j_t22.2.2.1]; exact la_n_t21
                have wl_n_t22 : m_wh t22 ((m_md t4)) = 56 := by rw [j_t22.1]; exact wl_n_t21
                clear la_n_t21 wl_n_t21
                have la_m_mdt4_t22 : m_la t22 (m_md t4) = (m_md t9) + 1 := by rw [j_t22.2.2.1]; exact la_m_mdt4_t21
                have wl_m_mdt4_t22 : m_wh t22 ((m_md t9)) = 13 := by rw [j_t22.1]; exact wl_m_mdt4_t21
                clear la_m_mdt4_t21 wl_m_mdt4_t21
                have la_m_mdt9_t22 : m_la t22 (m_md t9) = (m_md t11) + 1 := by rw [j_t22.2.2.1]; exact la_m_mdt9_t21
                have wl_m_mdt9_t22 : m_wh t22 ((m_md t11)) = 89 := by rw [j_t22.1]; exact wl_m_mdt9_t21
                clear la_m_mdt9_t21 wl_m_mdt9_t21
                have z_t23 : m_at t22 < m_ct t22 := lo_ne (Nat.ne_of_gt (show 0 < lo t22 (m_at t22) from by omega))
                refine Kp_at C_t22 (fun t23 C_t23 X_t23 a_t23 b_t23 d_t23 w_t23 u_t23 v_t23 j_t23 l_t23 => ?_)
                have e_t23 := C_t23.2.2.2.1
                rw [a_t22] at a_t23
                rw [b_t22] at b_t23
                rw [d_t22] at d_t23
                rw [w_t22] at w_t23
                rw [u_t22] at u_t23
                rw [v_t22] at v_t23
                rw [a_t22, e_t22] at z_t23
                clear z_t8
                clear d_t22 w_t22 u_t22 v_t22 e_t22 a_t22 b_t22
                have I_n_t23 := I_n_t22.flat X_t23
                have f_n_t23 := f_n_t22.ex I_n_t22 (X_t23 0)
                have u_n_t23 := u_n_t22.ex I_n_t22 (X_t23 0)
                have I_m_mdt4_t23 := I_m_mdt4_t22.flat X_t23
                have f_m_mdt4_t23 := f_m_mdt4_t22.ex I_m_mdt4_t22 (X_t23 0)
                have I_m_mdt9_t23 := I_m_mdt9_t22.flat X_t23
                have f_m_mdt9_t23 := f_m_mdt9_t22.ex I_m_mdt9_t22 (X_t23 0)
                have u_m_mdt9_t23 := u_m_mdt9_t22.ex I_m_mdt9_t22 (X_t23 0)
                have I_m_mdt11_t23 := I_m_mdt11_t22.flat X_t23
                have u_m_mdt11_t23 := u_m_mdt11_t22.ex I_m_mdt11_t22 (X_t23 0)
                have hv_m_mdt4_t23 : V56 t23 (m_md t4) (m_md t0) n := hv_m_mdt4_t22.flat j_t23
                have x69_t23 : U69 t23 (m_md t9) := U69_flat j_t23 x69_t22
                have la_n_t23 : m_la t23 n = (m_md t4) + 1 := by rw [j_t23.2.2.1]; exact la_n_t22
                have wl_n_t23 : m_wh t23 ((m_md t4)) = 56 := by rw [j_t23.1]; exact wl_n_t22
                clear la_n_t22 wl_n_t22
                have la_m_mdt4_t23 : m_la t23 (m_md t4) = (m_md t9) + 1 := by rw [j_t23.2.2.1]; exact la_m_mdt4_t22
                have wl_m_mdt4_t23 : m_wh t23 ((m_md t9)) = 13 := by rw [j_t23.1]; exact wl_m_mdt4_t22
                clear la_m_mdt4_t22 wl_m_mdt4_t22
                have la_m_mdt9_t23 : m_la t23 (m_md t9) = (m_md t11) + 1 := by rw [j_t23.2.2.1]; exact la_m_mdt9_t22
                have wl_m_mdt9_t23 : m_wh t23 ((m_md t11)) = 89 := by rw [j_t23.1]; exact wl_m_mdt9_t22
                clear la_m_mdt9_t22 wl_m_mdt9_t22
                refine Kp_push C_t23 (by omega) (fun t24 C_t24 X_t24 a_t24 b_t24 d_t24 w_t24 u_t24 v_t24 j_t24 l_t24 => ?_)
                have e_t24 := C_t24.2.2.2.1
                rw [a_t23] at a_t24
                rw [b_t23] at b_t24
                rw [d_t23] at d_t24
                rw [w_t23] at w_t24
                rw [u_t23] at u_t24
                rw [v_t23] at v_t24
                clear d_t23 w_t23 u_t23 v_t23 e_t23 a_t23 b_t23
                have I_n_t24 := I_n_t23.flat X_t24
                have f_n_t24 := f_n_t23.ex I_n_t23 (X_t24 0)
                have u_n_t24 := u_n_t23.ex I_n_t23 (X_t24 0)
                have I_m_mdt4_t24 := I_m_mdt4_t23.flat X_t24
                have f_m_mdt4_t24 := f_m_mdt4_t23.ex I_m_mdt4_t23 (X_t24 0)
                have I_m_mdt9_t24 := I_m_mdt9_t23.flat X_t24
                have f_m_mdt9_t24 := f_m_mdt9_t23.ex I_m_mdt9_t23 (X_t24 0)
                have u_m_mdt9_t24 := u_m_mdt9_t23.ex I_m_mdt9_t23 (X_t24 0)
                have I_m_mdt11_t24 := I_m_mdt11_t23.flat X_t24
                have u_m_mdt11_t24 := u_m_mdt11_t23.ex I_m_mdt11_t23 (X_t24 0)
                have hv_m_mdt4_t24 : V56 t24 (m_md t4) (m_md t0) n := hv_m_mdt4_t23.flat j_t24
                have x69_t24 : U69 t24 (m_md t9) := U69_flat j_t24 x69_t23
                have la_n_t24 : m_la t24 n = (m_md t4) + 1 := by rw [j_t24.2.2.1]; exact la_n_t23
                have wl_n_t24 : m_wh t24 ((m_md t4)) = 56 := by rw [j_t24.1]; exact wl_n_t23
                clear la_n_t23 wl_n_t23
                have la_m_mdt4_t24 : m_la t24 (m_md t4) = (m_md t9) + 1 := by rw [j_t24.2.2.1]; exact la_m_mdt4_t23
                have wl_m_mdt4_t24 : m_wh t24 ((m_md t9)) = 13 := by rw [j_t24.1]; exact wl_m_mdt4_t23
                clear la_m_mdt4_t23 wl_m_mdt4_t23
                have la_m_mdt9_t24 : m_la t24 (m_md t9) = (m_md t11) + 1 := by rw [j_t24.2.2.1]; exact la_m_mdt9_t23
                have wl_m_mdt9_t24 : m_wh t24 ((m_md t11)) = 89 := by rw [j_t24.1]; exact wl_m_mdt9_t23
                clear la_m_mdt9_t23 wl_m_mdt9_t23
                refine Ok_bnc ?_
                try unfold b_X6_expression
                refine Kp_push C_t24 (by omega) (fun t26 C_t26 X_t26 a_t26 b_t26 d_t26 w_t26 u_t26 v_t26 j_t26 l_t26 => ?_)
                have e_t26 := C_t26.2.2.2.1
                rw [a_t24] at a_t26
                rw [b_t24] at b_t26
                rw [d_t24] at d_t26
                rw [w_t24] at w_t26
                rw [u_t24] at u_t26
                rw [v_t24] at v_t26
                clear d_t24 w_t24 u_t24 v_t24 e_t24 a_t24 b_t24
                have I_n_t26 := I_n_t24.flat X_t26
                have f_n_t26 := f_n_t24.ex I_n_t24 (X_t26 0)
                have u_n_t26 := u_n_t24.ex I_n_t24 (X_t26 0)
                have I_m_mdt4_t26 := I_m_mdt4_t24.flat X_t26
                have f_m_mdt4_t26 := f_m_mdt4_t24.ex I_m_mdt4_t24 (X_t26 0)
                have I_m_mdt9_t26 := I_m_mdt9_t24.flat X_t26
                have f_m_mdt9_t26 := f_m_mdt9_t24.ex I_m_mdt9_t24 (X_t26 0)
                have u_m_mdt9_t26 := u_m_mdt9_t24.ex I_m_mdt9_t24 (X_t26 0)
                have I_m_mdt11_t26 := I_m_mdt11_t24.flat X_t26
                have u_m_mdt11_t26 := u_m_mdt11_t24.ex I_m_mdt11_t24 (X_t26 0)
                have hv_m_mdt4_t26 : V56 t26 (m_md t4) (m_md t0) n := hv_m_mdt4_t24.flat j_t26
                have x69_t26 : U69 t26 (m_md t9) := U69_flat j_t26 x69_t24
                have la_n_t26 : m_la t26 n = (m_md t4) + 1 := by rw [j_t26.2.2.1]; exact la_n_t24
                have wl_n_t26 : m_wh t26 ((m_md t4)) = 56 := by rw [j_t26.1]; exact wl_n_t24
                clear la_n_t24 wl_n_t24
                have la_m_mdt4_t26 : m_la t26 (m_md t4) = (m_md t9) + 1 := by rw [j_t26.2.2.1]; exact la_m_mdt4_t24
                have wl_m_mdt4_t26 : m_wh t26 ((m_md t9)) = 13 := by rw [j_t26.1]; exact wl_m_mdt4_t24
                clear la_m_mdt4_t24 wl_m_mdt4_t24
                have la_m_mdt9_t26 : m_la t26 (m_md t9) = (m_md t11) + 1 := by rw [j_t26.2.2.1]; exact la_m_mdt9_t24
                have wl_m_mdt9_t26 : m_wh t26 ((m_md t11)) = 89 := by rw [j_t26.1]; exact wl_m_mdt9_t24
                clear la_m_mdt9_t24 wl_m_mdt9_t24
                refine Kp_push C_t26 (by omega) (fun t27 C_t27 X_t27 a_t27 b_t27 d_t27 w_t27 u_t27 v_t27 j_t27 l_t27 => ?_)
                have e_t27 := C_t27.2.2.2.1
                rw [a_t26] at a_t27
                rw [b_t26] at b_t27
                rw [d_t26] at d_t27
                rw [w_t26] at w_t27
                rw [u_t26] at u_t27
                rw [v_t26] at v_t27
                clear d_t26 w_t26 u_t26 v_t26 e_t26 a_t26 b_t26
                have I_n_t27 := I_n_t26.flat X_t27
                have f_n_t27 := f_n_t26.ex I_n_t26 (X_t27 0)
                have u_n_t27 := u_n_t26.ex I_n_t26 (X_t27 0)
                have I_m_mdt4_t27 := I_m_mdt4_t26.flat X_t27
                have f_m_mdt4_t27 := f_m_mdt4_t26.ex I_m_mdt4_t26 (X_t27 0)
                have I_m_mdt9_t27 := I_m_mdt9_t26.flat X_t27
                have f_m_mdt9_t27 := f_m_mdt9_t26.ex I_m_mdt9_t26 (X_t27 0)
                have u_m_mdt9_t27 := u_m_mdt9_t26.ex I_m_mdt9_t26 (X_t27 0)
                have I_m_mdt11_t27 := I_m_mdt11_t26.flat X_t27
                have u_m_mdt11_t27 := u_m_mdt11_t26.ex I_m_mdt11_t26 (X_t27 0)
                have hv_m_mdt4_t27 : V56 t27 (m_md t4) (m_md t0) n := hv_m_mdt4_t26.flat j_t27
                have x69_t27 : U69 t27 (m_md t9) := U69_flat j_t27 x69_t26
                have la_n_t27 : m_la t27 n = (m_md t4) + 1 := by rw [j_t27.2.2.1]; exact la_n_t26
                have wl_n_t27 : m_wh t27 ((m_md t4)) = 56 := by rw [j_t27.1]; exact wl_n_t26
                clear la_n_t26 wl_n_t26
                have la_m_mdt4_t27 : m_la t27 (m_md t4) = (m_md t9) + 1 := by rw [j_t27.2.2.1]; exact la_m_mdt4_t26
                have wl_m_mdt4_t27 : m_wh t27 ((m_md t9)) = 13 := by rw [j_t27.1]; exact wl_m_mdt4_t26
                clear la_m_mdt4_t26 wl_m_mdt4_t26
                have la_m_mdt9_t27 : m_la t27 (m_md t9) = (m_md t11) + 1 := by rw [j_t27.2.2.1]; exact la_m_mdt9_t26
                have wl_m_mdt9_t27 : m_wh t27 ((m_md t11)) = 89 := by rw [j_t27.1]; exact wl_m_mdt9_t26
                clear la_m_mdt9_t26 wl_m_mdt9_t26
                refine Ok_ret (show Ok _ _ _ from ?_)
                refine Ok_ret (show Ok _ _ _ from ?_)
                refine Ok_ret (show Ok _ _ _ from ?_)
                have h56 : N56 t27 (m_md t4) [(4, m_md t9, 3), (8, 79, 0), (2, m_md t11, 0 ||| (1 * 256)), (3, m_md t11, 0)] := N56_mk hv_m_mdt4_t27 la_m_mdt4_t27 (by omega) (by omega) (by omega) (by omega) (fun y hy => by cases hy; show m_md t9 ≤ m_md t9; omega) I_n_t27 I_m_mdt9_t27 u_m_mdt9_t27 x69_t27 (Or.inl f_m_mdt9_t27)
                refine Hv_mk (Kv_c (x := (3, m_md t11, 0)) rfl (Kv_c (x := (2, m_md t11, 0 ||| (1 * 256))) rfl (Kv_c (x := (8, 79, 0)) rfl (Kv_c (x := (4, m_md t9, 3)) rfl (Kv_c (x := (56, m_md t4, 2)) rfl hK))))) (C_t27.1.2.2.2.2.2.2 hTt) C_t27 hT (by omega) (by omega) (by omega) ?_ ?_ ?_ (by omega) ?_ ?_ ?_
                · exact ⟨(Io_n (by decide) (by decide) I_m_mdt11_t27.1 I_m_mdt11_t27.2.1 I_m_mdt11_t27.2.2.1 (fun q => absurd q (by decide)) (fun q => absurd q (by decide)) I_m_mdt11_t27.2.2.2), (Nd_0 (by decide) Mo_nil), ⟨(Io_2 (by have := or_256 (b := 1) (show 0 < 256 from by omega); omega) (by have := or_256 (b := 1) (show 0 < 256 from by omega); omega) (by have := or_256 (b := 1) (show 0 < 256 from by omega); omega) I_m_mdt11_t27.1 I_m_mdt11_t27.2.1 I_m_mdt11_t27.2.2.1 I_m_mdt11_t27.2.2.2), (Nd_A (by decide) (Mo_cons (fun q => show m_md t11 ≤ m_md t11 from by omega) Mo_nil) (Or.inr ⟨(3, m_md t11, 0), List.mem_cons_self, rfl, Or.inl rfl⟩)), ⟨(Io_78 (by decide) (by decide) (by decide)), (Nd_x (by decide)), ⟨(Io_n (by decide) (by decide) I_m_mdt9_t27.1 I_m_mdt9_t27.2.1 I_m_mdt9_t27.2.2.1 (fun q => absurd q (by decide)) (fun q => absurd q (by decide)) I_m_mdt9_t27.2.2.2), (Nd_A (by decide) (Mo_cons (fun q => absurd (show nk 8 = true from q) (by decide)) (Mo_cons (fun q => show m_md t9 ≤ m_md t11 from by omega) (Mo_cons (fun q => show m_md t9 ≤ m_md t11 from by omega) Mo_nil))) (Or.inl f_m_mdt9_t27)), ⟨(Io_n (by decide) (by decide) I_m_mdt4_t27.1 I_m_mdt4_t27.2.1 I_m_mdt4_t27.2.2.1 (fun q => absurd q (by decide)) (fun q => absurd q (by decide)) I_m_mdt4_t27.2.2.2), (Nd_56 (Mo_cons (fun q => show m_md t4 ≤ m_md t9 from by omega) (Mo_cons (fun q => absurd (show nk 8 = true from q) (by decide)) (Mo_cons (fun q => show m_md t4 ≤ m_md t11 from by omega) (Mo_cons (fun q => show m_md t4 ≤ m_md t11 from by omega) Mo_nil)))) (fun _ => h56)), Stk_step (N := n) (pop := (42, n, t)) (new := [(56, m_md t4, 2), (4, m_md t9, 3), (8, 79, 0), (2, m_md t11, 0 ||| (1 * 256)), (3, m_md t11, 0)]) F0 C_t27.1.to2 (fun (h : nk 42 = false) => absurd h (by decide)) (fun q _ h => h (42, n, t) rfl) (fun _ => rfl) (fun y hy hk => ⟨rfl, (Mo_cons (fun q => show n ≤ m_md t4 from by omega) (Mo_cons (fun q => show n ≤ m_md t9 from by omega) (Mo_cons (fun q => absurd (show nk 8 = true from q) (by decide)) (Mo_cons (fun q => show n ≤ m_md t11 from by omega) (Mo_cons (fun q => show n ≤ m_md t11 from by omega) Mo_nil))))) y hy hk⟩) (fun (h : 42 = 3 ∨ 42 = 18 ∨ 42 = 41) => absurd h (by decide)) (fun (h : 42 = 18) => absurd h (by decide)) (fun _ h16 => (Or.inr ⟨f_n_t27, (Ab_some (y := (56, m_md t4, 2)) rfl (show n < m_md t4 from by omega)), H50_no la_n_t27 wl_n_t27 (by decide)⟩)) r [] (fun y hy => absurd hy List.not_mem_nil) hS⟩⟩⟩⟩⟩
                · exact (Aj_up (x := (3, m_md t11, 0)) (Aj_up (x := (2, m_md t11, 0 ||| (1 * 256))) (Aj_up (x := (8, 79, 0)) (Aj_up (x := (4, m_md t9, 3)) (Aj_sub (y := (56, m_md t4, 2)) hJ (Nat.le_of_ble_eq_true rfl)) (Or.inr (Nat.le_of_ble_eq_true rfl))) (Or.inr (Nat.le_of_ble_eq_true rfl))) (Or.inl (Nat.le_of_ble_eq_true rfl))) (Or.inr (show 2 < 9 - (0 ||| (1 * 256)) / 256 from by have := or_256 (b := 1) (show 0 < 256 from by omega); omega)))
                · show m_dp t27 = (dlt 3 + (dlt 2 + (dlt 8 + (dlt 4 + (dlt 56 + sD r)))))
                  have : dlt 2 = 0 := rfl; have : dlt 3 = 0 := rfl; have : dlt 4 = 0 := rfl; have : dlt 42 = 0 := rfl; have : dlt 56 = 0 := rfl; have : dlt 8 = 1 := rfl; omega
                · show m_rw t27 = (rho 3 + (rho 2 + (rho 8 + (rho 4 + (rho 56 + sR r)))))
                  have : rho 2 = 0 := rfl; have : rho 3 = 0 := rfl; have : rho 4 = 0 := rfl; have : rho 42 = 0 := rfl; have : rho 56 = 0 := rfl; have : rho 8 = 0 := rfl; omega
                · show m_md t27 + (mu7 3 + (mu7 2 + (mu7 8 + (mu7 4 + (mu7 56 + sM r))))) ≤ 3 * m_at t27 + 7 * (r.length + 1 + 1 + 1 + 1 + 1) + 10
                  have : mu7 2 = 7 := rfl; have : mu7 3 = 5 := rfl; have : mu7 4 = 7 := rfl; have : mu7 42 = 8 := rfl; have : mu7 56 = 7 := rfl; have : mu7 8 = 4 := rfl; omega
                · show (wt 3 + (wt 2 + (wt 8 + (wt 4 + (wt 56 + sW r))))) + 6 * (4096 - m_at t27) + 4 * (600 - (r.length + 1 + 1 + 1 + 1 + 1)) < (wt 42 + sW r) + 6 * (4096 - m_at t0) + 4 * (600 - (r.length + 1))
                  have : wt 2 = 5 := rfl; have : wt 3 = 3 := rfl; have : wt 4 = 5 := rfl; have : wt 42 = 5 := rfl; have : wt 56 = 5 := rfl; have : wt 8 = 0 := rfl; omega
              · have w_t22 := Nat.pos_of_ne_zero w_t22
                have I_n_t22 := I_n_t21.flat X_t22
                have f_n_t22 := f_n_t21.ex I_n_t21 (X_t22 0)
                have u_n_t22 := u_n_t21.ex I_n_t21 (X_t22 0)
                have I_m_mdt4_t22 := I_m_mdt4_t21.flat X_t22
                have f_m_mdt4_t22 := f_m_mdt4_t21.ex I_m_mdt4_t21 (X_t22 0)
                have I_m_mdt9_t22 := I_m_mdt9_t21.flat X_t22
                have f_m_mdt9_t22 := f_m_mdt9_t21.ex I_m_mdt9_t21 (X_t22 0)
                have u_m_mdt9_t22 := u_m_mdt9_t21.ex I_m_mdt9_t21 (X_t22 0)
                have I_m_mdt11_t22 := I_m_mdt11_t21.flat X_t22
                have u_m_mdt11_t22 := u_m_mdt11_t21.ex I_m_mdt11_t21 (X_t22 0)
                have hv_m_mdt4_t22 : V56 t22 (m_md t4) (m_md t0) n := hv_m_mdt4_t21.flat j_t22
                have x69_t22 : U69 t22 (m_md t9) := U69_flat j_t22 x69_t21
                have la_n_t22 : m_la t22 n = (m_md t4) + 1 := by rw [j_t22.2.2.1]; exact la_n_t21
                have wl_n_t22 : m_wh t22 ((m_md t4)) = 56 := by rw [j_t22.1]; exact wl_n_t21
                clear la_n_t21 wl_n_t21
                have la_m_mdt4_t22 : m_la t22 (m_md t4) = (m_md t9) + 1 := by rw [j_t22.2.2.1]; exact la_m_mdt4_t21
                have wl_m_mdt4_t22 : m_wh t22 ((m_md t9)) = 13 := by rw [j_t22.1]; exact wl_m_mdt4_t21
                clear la_m_mdt4_t21 wl_m_mdt4_t21
                have la_m_mdt9_t22 : m_la t22 (m_md t9) = (m_md t11) + 1 := by rw [j_t22.2.2.1]; exact la_m_mdt9_t21
                have wl_m_mdt9_t22 : m_wh t22 ((m_md t11)) = 89 := by rw [j_t22.1]; exact wl_m_mdt9_t21
                clear la_m_mdt9_t21 wl_m_mdt9_t21
                refine Kp_at C_t22 (fun t28 C_t28 X_t28 a_t28 b_t28 d_t28 w_t28 u_t28 v_t28 j_t28 l_t28 => ?_)
                have e_t28 := C_t28.2.2.2.1
                have I_n_t28 := I_n_t22.flat X_t28
                have f_n_t28 := f_n_t22.ex I_n_t22 (X_t28 0)
                have u_n_t28 := u_n_t22.ex I_n_t22 (X_t28 0)
                have I_m_mdt4_t28 := I_m_mdt4_t22.flat X_t28
                have f_m_mdt4_t28 := f_m_mdt4_t22.ex I_m_mdt4_t22 (X_t28 0)
                have I_m_mdt9_t28 := I_m_mdt9_t22.flat X_t28
                have f_m_mdt9_t28 := f_m_mdt9_t22.ex I_m_mdt9_t22 (X_t28 0)
                have u_m_mdt9_t28 := u_m_mdt9_t22.ex I_m_mdt9_t22 (X_t28 0)
                have I_m_mdt11_t28 := I_m_mdt11_t22.flat X_t28
                have u_m_mdt11_t28 := u_m_mdt11_t22.ex I_m_mdt11_t22 (X_t28 0)
                have hv_m_mdt4_t28 : V56 t28 (m_md t4) (m_md t0) n := hv_m_mdt4_t22.flat j_t28
                have x69_t28 : U69 t28 (m_md t9) := U69_flat j_t28 x69_t22
                have la_n_t28 : m_la t28 n = (m_md t4) + 1 := by rw [j_t28.2.2.1]; exact la_n_t22
                have wl_n_t28 : m_wh t28 ((m_md t4)) = 56 := by rw [j_t28.1]; exact wl_n_t22
                clear la_n_t22 wl_n_t22
                have la_m_mdt4_t28 : m_la t28 (m_md t4) = (m_md t9) + 1 := by rw [j_t28.2.2.1]; exact la_m_mdt4_t22
                have wl_m_mdt4_t28 : m_wh t28 ((m_md t9)) = 13 := by rw [j_t28.1]; exact wl_m_mdt4_t22
                clear la_m_mdt4_t22 wl_m_mdt4_t22
                have la_m_mdt9_t28 : m_la t28 (m_md t9) = (m_md t11) + 1 := by rw [j_t28.2.2.1]; exact la_m_mdt9_t22
                have wl_m_mdt9_t28 : m_wh t28 ((m_md t11)) = 89 := by rw [j_t28.1]; exact wl_m_mdt9_t22
                clear la_m_mdt9_t22 wl_m_mdt9_t22
                refine Kp_push C_t28 (by omega) (fun t29 C_t29 X_t29 a_t29 b_t29 d_t29 w_t29 u_t29 v_t29 j_t29 l_t29 => ?_)
                have e_t29 := C_t29.2.2.2.1
                have I_n_t29 := I_n_t28.flat X_t29
                have f_n_t29 := f_n_t28.ex I_n_t28 (X_t29 0)
                have u_n_t29 := u_n_t28.ex I_n_t28 (X_t29 0)
                have I_m_mdt4_t29 := I_m_mdt4_t28.flat X_t29
                have f_m_mdt4_t29 := f_m_mdt4_t28.ex I_m_mdt4_t28 (X_t29 0)
                have I_m_mdt9_t29 := I_m_mdt9_t28.flat X_t29
                have f_m_mdt9_t29 := f_m_mdt9_t28.ex I_m_mdt9_t28 (X_t29 0)
                have u_m_mdt9_t29 := u_m_mdt9_t28.ex I_m_mdt9_t28 (X_t29 0)
                have I_m_mdt11_t29 := I_m_mdt11_t28.flat X_t29
                have u_m_mdt11_t29 := u_m_mdt11_t28.ex I_m_mdt11_t28 (X_t29 0)
                have hv_m_mdt4_t29 : V56 t29 (m_md t4) (m_md t0) n := hv_m_mdt4_t28.flat j_t29
                have x69_t29 : U69 t29 (m_md t9) := U69_flat j_t29 x69_t28
                have la_n_t29 : m_la t29 n = (m_md t4) + 1 := by rw [j_t29.2.2.1]; exact la_n_t28
                have wl_n_t29 : m_wh t29 ((m_md t4)) = 56 := by rw [j_t29.1]; exact wl_n_t28
                clear la_n_t28 wl_n_t28
                have la_m_mdt4_t29 : m_la t29 (m_md t4) = (m_md t9) + 1 := by rw [j_t29.2.2.1]; exact la_m_mdt4_t28
                have wl_m_mdt4_t29 : m_wh t29 ((m_md t9)) = 13 := by rw [j_t29.1]; exact wl_m_mdt4_t28
                clear la_m_mdt4_t28 wl_m_mdt4_t28
                have la_m_mdt9_t29 : m_la t29 (m_md t9) = (m_md t11) + 1 := by rw [j_t29.2.2.1]; exact la_m_mdt9_t28
                have wl_m_mdt9_t29 : m_wh t29 ((m_md t11)) = 89 := by rw [j_t29.1]; exact wl_m_mdt9_t28
                clear la_m_mdt9_t28 wl_m_mdt9_t28
                refine Ok_bnc ?_
                try unfold b_X6_expression
                refine Kp_push C_t29 (by omega) (fun t31 C_t31 X_t31 a_t31 b_t31 d_t31 w_t31 u_t31 v_t31 j_t31 l_t31 => ?_)
                have e_t31 := C_t31.2.2.2.1
                have I_n_t31 := I_n_t29.flat X_t31
                have f_n_t31 := f_n_t29.ex I_n_t29 (X_t31 0)
                have u_n_t31 := u_n_t29.ex I_n_t29 (X_t31 0)
                have I_m_mdt4_t31 := I_m_mdt4_t29.flat X_t31
                have f_m_mdt4_t31 := f_m_mdt4_t29.ex I_m_mdt4_t29 (X_t31 0)
                have I_m_mdt9_t31 := I_m_mdt9_t29.flat X_t31
                have f_m_mdt9_t31 := f_m_mdt9_t29.ex I_m_mdt9_t29 (X_t31 0)
                have u_m_mdt9_t31 := u_m_mdt9_t29.ex I_m_mdt9_t29 (X_t31 0)
                have I_m_mdt11_t31 := I_m_mdt11_t29.flat X_t31
                have u_m_mdt11_t31 := u_m_mdt11_t29.ex I_m_mdt11_t29 (X_t31 0)
                have hv_m_mdt4_t31 : V56 t31 (m_md t4) (m_md t0) n := hv_m_mdt4_t29.flat j_t31
                have x69_t31 : U69 t31 (m_md t9) := U69_flat j_t31 x69_t29
                have la_n_t31 : m_la t31 n = (m_md t4) + 1 := by rw [j_t31.2.2.1]; exact la_n_t29
                have wl_n_t31 : m_wh t31 ((m_md t4)) = 56 := by rw [j_t31.1]; exact wl_n_t29
                clear la_n_t29 wl_n_t29
                have la_m_mdt4_t31 : m_la t31 (m_md t4) = (m_md t9) + 1 := by rw [j_t31.2.2.1]; exact la_m_mdt4_t29
                have wl_m_mdt4_t31 : m_wh t31 ((m_md t9)) = 13 := by rw [j_t31.1]; exact wl_m_mdt4_t29
                clear la_m_mdt4_t29 wl_m_mdt4_t29
                have la_m_mdt9_t31 : m_la t31 (m_md t9) = (m_md t11) + 1 := by rw [j_t31.2.2.1]; exact la_m_mdt9_t29
                have wl_m_mdt9_t31 : m_wh t31 ((m_md t11)) = 89 := by rw [j_t31.1]; exact wl_m_mdt9_t29
                clear la_m_mdt9_t29 wl_m_mdt9_t29
                refine Kp_push C_t31 (by omega) (fun t32 C_t32 X_t32 a_t32 b_t32 d_t32 w_t32 u_t32 v_t32 j_t32 l_t32 => ?_)
                have e_t32 := C_t32.2.2.2.1
                have I_n_t32 := I_n_t31.flat X_t32
                have f_n_t32 := f_n_t31.ex I_n_t31 (X_t32 0)
                have u_n_t32 := u_n_t31.ex I_n_t31 (X_t32 0)
                have I_m_mdt4_t32 := I_m_mdt4_t31.flat X_t32
                have f_m_mdt4_t32 := f_m_mdt4_t31.ex I_m_mdt4_t31 (X_t32 0)
                have I_m_mdt9_t32 := I_m_mdt9_t31.flat X_t32
                have f_m_mdt9_t32 := f_m_mdt9_t31.ex I_m_mdt9_t31 (X_t32 0)
                have u_m_mdt9_t32 := u_m_mdt9_t31.ex I_m_mdt9_t31 (X_t32 0)
                have I_m_mdt11_t32 := I_m_mdt11_t31.flat X_t32
                have u_m_mdt11_t32 := u_m_mdt11_t31.ex I_m_mdt11_t31 (X_t32 0)
                have hv_m_mdt4_t32 : V56 t32 (m_md t4) (m_md t0) n := hv_m_mdt4_t31.flat j_t32
                have x69_t32 : U69 t32 (m_md t9) := U69_flat j_t32 x69_t31
                have la_n_t32 : m_la t32 n = (m_md t4) + 1 := by rw [j_t32.2.2.1]; exact la_n_t31
                have wl_n_t32 : m_wh t32 ((m_md t4)) = 56 := by rw [j_t32.1]; exact wl_n_t31
                clear la_n_t31 wl_n_t31
                have la_m_mdt4_t32 : m_la t32 (m_md t4) = (m_md t9) + 1 := by rw [j_t32.2.2.1]; exact la_m_mdt4_t31
                have wl_m_mdt4_t32 : m_wh t32 ((m_md t9)) = 13 := by rw [j_t32.1]; exact wl_m_mdt4_t31
                clear la_m_mdt4_t31 wl_m_mdt4_t31
                have la_m_mdt9_t32 : m_la t32 (m_md t9) = (m_md t11) + 1 := by rw [j_t32.2.2.1]; exact la_m_mdt9_t31
                have wl_m_mdt9_t32 : m_wh t32 ((m_md t11)) = 89 := by rw [j_t32.1]; exact wl_m_mdt9_t31
                clear la_m_mdt9_t31 wl_m_mdt9_t31
                refine Ok_ret (show Ok _ _ _ from ?_)
                refine Ok_ret (show Ok _ _ _ from ?_)
                refine Ok_ret (show Ok _ _ _ from ?_)
                exact Or.inl ⟨Nat.ne_of_gt (show 0 < m_wr t32 from by omega), by omega, by omega, C_t32.2.2.2.2.2, by omega⟩
            · refine Ok_ife (Nat.lt_trans (lo_lt (C_t11.tk hT) _) (by decide)) (by decide) (fun q33 => ?_) (fun q33 => ?_)
              · refine Kp_child C_t11 I_m_mdt9_t11.1 I_m_mdt9_t11.2.1 I_m_mdt9_t11.2.2.1 (by omega) (by omega) (by decide) (by decide) (fun t34 C_t34 X_t34 a_t34 b_t34 d_t34 w_t34 u_t34 v_t34 j_t34 l_t34 => ?_)
                have e_t34 := C_t34.2.2.2.1
                rw [a_t11] at a_t34
                rw [b_t11] at b_t34
                rw [d_t11] at d_t34
                rw [w_t11] at w_t34
                rw [u_t11] at u_t34
                rw [v_t11] at v_t34
                clear d_t11 w_t11 u_t11 v_t11 e_t11 a_t11
                have I_n_t34 := I_n_t11.chd X_t34 j_t34
                have f_n_t34 := f_n_t11.ex I_n_t11 (X_t34 0 (Nat.zero_le _))
                have u_n_t34 := u_n_t11.ex I_n_t11 (X_t34 0 (Nat.zero_le _))
                have I_m_mdt4_t34 := I_m_mdt4_t11.chd X_t34 j_t34
                have f_m_mdt4_t34 := f_m_mdt4_t11.ex I_m_mdt4_t11 (X_t34 0 (Nat.zero_le _))
                have I_m_mdt9_t34 := I_m_mdt9_t11.chd X_t34 j_t34
                have u_m_mdt9_t34 := u_m_mdt9_t11.ex I_m_mdt9_t11 (X_t34 0 (Nat.zero_le _))
                have hv_m_mdt4_t34 : V56 t34 (m_md t4) (m_md t0) n := hv_m_mdt4_t11.chd I_m_mdt4_t11.1 j_t34
                have x69_t34 : U69 t34 (m_md t9) := U69_ch j_t34 (by decide)
                have la_n_t34 : m_la t34 n = (m_md t4) + 1 := by rw [(j_t34.2.2.2.2.2.2.2.1 n I_n_t11.1 (by omega)).1]; exact la_n_t11
                have wl_n_t34 : m_wh t34 ((m_md t4)) = 56 := by rw [(j_t34.2.2.2.2.2.2.1 ((m_md t4)) (by omega)).2]; exact wl_n_t11
                clear la_n_t11 wl_n_t11
                have la_m_mdt4_t34 : m_la t34 (m_md t4) = (m_md t9) + 1 := by rw [(j_t34.2.2.2.2.2.2.2.1 (m_md t4) I_m_mdt4_t11.1 (by omega)).1]; exact la_m_mdt4_t11
                have wl_m_mdt4_t34 : m_wh t34 ((m_md t9)) = 13 := by rw [(j_t34.2.2.2.2.2.2.1 ((m_md t9)) (by omega)).2]; exact wl_m_mdt4_t11
                clear la_m_mdt4_t11 wl_m_mdt4_t11
                have f_m_mdt9_t34 : Fz t34 (m_md t9) := j_t34.2.2.2.2.1
                have I_m_mdt11_t34 : Nq t34 (m_md t11) := Nq.chn j_t34 (by omega) I_m_mdt9_t11 (by decide)
                have u_m_mdt11_t34 : Up t34 (m_md t11) := Or.inl j_t34.2.1
                have la_m_mdt9_t34 : m_la t34 (m_md t9) = (m_md t11) + 1 := j_t34.2.2.2.2.2.1
                have wl_m_mdt9_t34 : m_wh t34 (m_md t11) = 29 := j_t34.1
                refine Kp_more C_t34 (by omega) (by omega) (fun t35 C_t35 X_t35 a_t35 b_t35 d_t35 w_t35 u_t35 v_t35 j_t35 l_t35 => ?_)
                have e_t35 := C_t35.2.2.2.1
                rcases w_t35 with ⟨w_t35, y_t35⟩ | ⟨w_t35, wb_t35⟩
                · rw [a_t34] at a_t35
                  rw [b_t34] at b_t35
                  rw [d_t34] at d_t35
                  rw [w_t34] at w_t35
                  rw [u_t34] at u_t35
                  rw [v_t34] at v_t35
                  rw [d_t35] at y_t35
                  clear d_t34 w_t34 u_t34 v_t34 e_t34 a_t34 b_t34
                  have I_n_t35 := I_n_t34.flat X_t35
                  have f_n_t35 := f_n_t34.ex I_n_t34 (X_t35 0)
                  have u_n_t35 := u_n_t34.ex I_n_t34 (X_t35 0)
                  have I_m_mdt4_t35 := I_m_mdt4_t34.flat X_t35
                  have f_m_mdt4_t35 := f_m_mdt4_t34.ex I_m_mdt4_t34 (X_t35 0)
                  have I_m_mdt9_t35 := I_m_mdt9_t34.flat X_t35
                  have f_m_mdt9_t35 := f_m_mdt9_t34.ex I_m_mdt9_t34 (X_t35 0)
                  have u_m_mdt9_t35 := u_m_mdt9_t34.ex I_m_mdt9_t34 (X_t35 0)
                  have I_m_mdt11_t35 := I_m_mdt11_t34.flat X_t35
                  have u_m_mdt11_t35 := u_m_mdt11_t34.ex I_m_mdt11_t34 (X_t35 0)
                  have hv_m_mdt4_t35 : V56 t35 (m_md t4) (m_md t0) n := hv_m_mdt4_t34.flat j_t35
                  have x69_t35 : U69 t35 (m_md t9) := U69_flat j_t35 x69_t34
                  have la_n_t35 : m_la t35 n = (m_md t4) + 1 := by rw [j_t35.2.2.1]; exact la_n_t34
                  have wl_n_t35 : m_wh t35 ((m_md t4)) = 56 := by rw [j_t35.1]; exact wl_n_t34
                  clear la_n_t34 wl_n_t34
                  have la_m_mdt4_t35 : m_la t35 (m_md t4) = (m_md t9) + 1 := by rw [j_t35.2.2.1]; exact la_m_mdt4_t34
                  have wl_m_mdt4_t35 : m_wh t35 ((m_md t9)) = 13 := by rw [j_t35.1]; exact wl_m_mdt4_t34
                  clear la_m_mdt4_t34 wl_m_mdt4_t34
                  have la_m_mdt9_t35 : m_la t35 (m_md t9) = (m_md t11) + 1 := by rw [j_t35.2.2.1]; exact la_m_mdt9_t34
                  have wl_m_mdt9_t35 : m_wh t35 ((m_md t11)) = 29 := by rw [j_t35.1]; exact wl_m_mdt9_t34
                  clear la_m_mdt9_t34 wl_m_mdt9_t34
                  have z_t36 : m_at t35 < m_ct t35 := lo_ne (Nat.ne_of_gt (show 0 < lo t35 (m_at t35) from by omega))
                  refine Kp_at C_t35 (fun t36 C_t36 X_t36 a_t36 b_t36 d_t36 w_t36 u_t36 v_t36 j_t36 l_t36 => ?_)
                  have e_t36 := C_t36.2.2.2.1
                  rw [a_t35] at a_t36
                  rw [b_t35] at b_t36
                  rw [d_t35] at d_t36
                  rw [w_t35] at w_t36
                  rw [u_t35] at u_t36
                  rw [v_t35] at v_t36
                  rw [a_t35, e_t35] at z_t36
                  clear z_t8
                  clear d_t35 w_t35 u_t35 v_t35 e_t35 a_t35 b_t35
                  have I_n_t36 := I_n_t35.flat X_t36
                  have f_n_t36 := f_n_t35.ex I_n_t35 (X_t36 0)
                  have u_n_t36 := u_n_t35.ex I_n_t35 (X_t36 0)
                  have I_m_mdt4_t36 := I_m_mdt4_t35.flat X_t36
                  have f_m_mdt4_t36 := f_m_mdt4_t35.ex I_m_mdt4_t35 (X_t36 0)
                  have I_m_mdt9_t36 := I_m_mdt9_t35.flat X_t36
                  have f_m_mdt9_t36 := f_m_mdt9_t35.ex I_m_mdt9_t35 (X_t36 0)
                  have u_m_mdt9_t36 := u_m_mdt9_t35.ex I_m_mdt9_t35 (X_t36 0)
                  have I_m_mdt11_t36 := I_m_mdt11_t35.flat X_t36
                  have u_m_mdt11_t36 := u_m_mdt11_t35.ex I_m_mdt11_t35 (X_t36 0)
                  have hv_m_mdt4_t36 : V56 t36 (m_md t4) (m_md t0) n := hv_m_mdt4_t35.flat j_t36
                  have x69_t36 : U69 t36 (m_md t9) := U69_flat j_t36 x69_t35
                  have la_n_t36 : m_la t36 n = (m_md t4) + 1 := by rw [j_t36.2.2.1]; exact la_n_t35
                  have wl_n_t36 : m_wh t36 ((m_md t4)) = 56 := by rw [j_t36.1]; exact wl_n_t35
                  clear la_n_t35 wl_n_t35
                  have la_m_mdt4_t36 : m_la t36 (m_md t4) = (m_md t9) + 1 := by rw [j_t36.2.2.1]; exact la_m_mdt4_t35
                  have wl_m_mdt4_t36 : m_wh t36 ((m_md t9)) = 13 := by rw [j_t36.1]; exact wl_m_mdt4_t35
                  clear la_m_mdt4_t35 wl_m_mdt4_t35
                  have la_m_mdt9_t36 : m_la t36 (m_md t9) = (m_md t11) + 1 := by rw [j_t36.2.2.1]; exact la_m_mdt9_t35
                  have wl_m_mdt9_t36 : m_wh t36 ((m_md t11)) = 29 := by rw [j_t36.1]; exact wl_m_mdt9_t35
                  clear la_m_mdt9_t35 wl_m_mdt9_t35
                  refine Kp_push C_t36 (by omega) (fun t37 C_t37 X_t37 a_t37 b_t37 d_t37 w_t37 u_t37 v_t37 j_t37 l_t37 => ?_)
                  have e_t37 := C_t37.2.2.2.1
                  rw [a_t36] at a_t37
                  rw [b_t36] at b_t37
                  rw [d_t36] at d_t37
                  rw [w_t36] at w_t37
                  rw [u_t36] at u_t37
                  rw [v_t36] at v_t37
                  clear d_t36 w_t36 u_t36 v_t36 e_t36 a_t36 b_t36
                  have I_n_t37 := I_n_t36.flat X_t37
                  have f_n_t37 := f_n_t36.ex I_n_t36 (X_t37 0)
                  have u_n_t37 := u_n_t36.ex I_n_t36 (X_t37 0)
                  have I_m_mdt4_t37 := I_m_mdt4_t36.flat X_t37
                  have f_m_mdt4_t37 := f_m_mdt4_t36.ex I_m_mdt4_t36 (X_t37 0)
                  have I_m_mdt9_t37 := I_m_mdt9_t36.flat X_t37
                  have f_m_mdt9_t37 := f_m_mdt9_t36.ex I_m_mdt9_t36 (X_t37 0)
                  have u_m_mdt9_t37 := u_m_mdt9_t36.ex I_m_mdt9_t36 (X_t37 0)
                  have I_m_mdt11_t37 := I_m_mdt11_t36.flat X_t37
                  have u_m_mdt11_t37 := u_m_mdt11_t36.ex I_m_mdt11_t36 (X_t37 0)
                  have hv_m_mdt4_t37 : V56 t37 (m_md t4) (m_md t0) n := hv_m_mdt4_t36.flat j_t37
                  have x69_t37 : U69 t37 (m_md t9) := U69_flat j_t37 x69_t36
                  have la_n_t37 : m_la t37 n = (m_md t4) + 1 := by rw [j_t37.2.2.1]; exact la_n_t36
                  have wl_n_t37 : m_wh t37 ((m_md t4)) = 56 := by rw [j_t37.1]; exact wl_n_t36
                  clear la_n_t36 wl_n_t36
                  have la_m_mdt4_t37 : m_la t37 (m_md t4) = (m_md t9) + 1 := by rw [j_t37.2.2.1]; exact la_m_mdt4_t36
                  have wl_m_mdt4_t37 : m_wh t37 ((m_md t9)) = 13 := by rw [j_t37.1]; exact wl_m_mdt4_t36
                  clear la_m_mdt4_t36 wl_m_mdt4_t36
                  have la_m_mdt9_t37 : m_la t37 (m_md t9) = (m_md t11) + 1 := by rw [j_t37.2.2.1]; exact la_m_mdt9_t36
                  have wl_m_mdt9_t37 : m_wh t37 ((m_md t11)) = 29 := by rw [j_t37.1]; exact wl_m_mdt9_t36
                  clear la_m_mdt9_t36 wl_m_mdt9_t36
                  refine Kp_push C_t37 (by omega) (fun t38 C_t38 X_t38 a_t38 b_t38 d_t38 w_t38 u_t38 v_t38 j_t38 l_t38 => ?_)
                  have e_t38 := C_t38.2.2.2.1
                  rw [a_t37] at a_t38
                  rw [b_t37] at b_t38
                  rw [d_t37] at d_t38
                  rw [w_t37] at w_t38
                  rw [u_t37] at u_t38
                  rw [v_t37] at v_t38
                  clear d_t37 w_t37 u_t37 v_t37 e_t37 a_t37 b_t37
                  have I_n_t38 := I_n_t37.flat X_t38
                  have f_n_t38 := f_n_t37.ex I_n_t37 (X_t38 0)
                  have u_n_t38 := u_n_t37.ex I_n_t37 (X_t38 0)
                  have I_m_mdt4_t38 := I_m_mdt4_t37.flat X_t38
                  have f_m_mdt4_t38 := f_m_mdt4_t37.ex I_m_mdt4_t37 (X_t38 0)
                  have I_m_mdt9_t38 := I_m_mdt9_t37.flat X_t38
                  have f_m_mdt9_t38 := f_m_mdt9_t37.ex I_m_mdt9_t37 (X_t38 0)
                  have u_m_mdt9_t38 := u_m_mdt9_t37.ex I_m_mdt9_t37 (X_t38 0)
                  have I_m_mdt11_t38 := I_m_mdt11_t37.flat X_t38
                  have u_m_mdt11_t38 := u_m_mdt11_t37.ex I_m_mdt11_t37 (X_t38 0)
                  have hv_m_mdt4_t38 : V56 t38 (m_md t4) (m_md t0) n := hv_m_mdt4_t37.flat j_t38
                  have x69_t38 : U69 t38 (m_md t9) := U69_flat j_t38 x69_t37
                  have la_n_t38 : m_la t38 n = (m_md t4) + 1 := by rw [j_t38.2.2.1]; exact la_n_t37
                  have wl_n_t38 : m_wh t38 ((m_md t4)) = 56 := by rw [j_t38.1]; exact wl_n_t37
                  clear la_n_t37 wl_n_t37
                  have la_m_mdt4_t38 : m_la t38 (m_md t4) = (m_md t9) + 1 := by rw [j_t38.2.2.1]; exact la_m_mdt4_t37
                  have wl_m_mdt4_t38 : m_wh t38 ((m_md t9)) = 13 := by rw [j_t38.1]; exact wl_m_mdt4_t37
                  clear la_m_mdt4_t37 wl_m_mdt4_t37
                  have la_m_mdt9_t38 : m_la t38 (m_md t9) = (m_md t11) + 1 := by rw [j_t38.2.2.1]; exact la_m_mdt9_t37
                  have wl_m_mdt9_t38 : m_wh t38 ((m_md t11)) = 29 := by rw [j_t38.1]; exact wl_m_mdt9_t37
                  clear la_m_mdt9_t37 wl_m_mdt9_t37
                  refine Ok_ret (show Ok _ _ _ from ?_)
                  refine Ok_ret (show Ok _ _ _ from ?_)
                  have h56 : N56 t38 (m_md t4) [(4, m_md t9, 3), (20, m_md t11, 0), (21, m_md t11, 0)] := N56_mk hv_m_mdt4_t38 la_m_mdt4_t38 (by omega) (by omega) (by omega) (by omega) (fun y hy => by cases hy; show m_md t9 ≤ m_md t9; omega) I_n_t38 I_m_mdt9_t38 u_m_mdt9_t38 x69_t38 (Or.inl f_m_mdt9_t38)
                  refine Hv_mk (Kv_c (x := (21, m_md t11, 0)) rfl (Kv_c (x := (20, m_md t11, 0)) rfl (Kv_c (x := (4, m_md t9, 3)) rfl (Kv_c (x := (56, m_md t4, 2)) rfl hK)))) (C_t38.1.2.2.2.2.2.2 hTt) C_t38 hT (by omega) (by omega) (by omega) ?_ ?_ ?_ (by omega) ?_ ?_ ?_
                  · exact ⟨(Io_n (by decide) (by decide) I_m_mdt11_t38.1 I_m_mdt11_t38.2.1 I_m_mdt11_t38.2.2.1 (fun q => absurd q (by decide)) (fun q => absurd q (by decide)) I_m_mdt11_t38.2.2.2), (Nd_0 (by decide) Mo_nil), ⟨(Io_n (by decide) (by decide) I_m_mdt11_t38.1 I_m_mdt11_t38.2.1 I_m_mdt11_t38.2.2.1 (fun q => absurd q (by decide)) (fun q => absurd q (by decide)) I_m_mdt11_t38.2.2.2), (Nd_0 (by decide) (Mo_cons (fun q => show m_md t11 ≤ m_md t11 from by omega) Mo_nil)), ⟨(Io_n (by decide) (by decide) I_m_mdt9_t38.1 I_m_mdt9_t38.2.1 I_m_mdt9_t38.2.2.1 (fun q => absurd q (by decide)) (fun q => absurd q (by decide)) I_m_mdt9_t38.2.2.2), (Nd_A (by decide) (Mo_cons (fun q => show m_md t9 ≤ m_md t11 from by omega) (Mo_cons (fun q => show m_md t9 ≤ m_md t11 from by omega) Mo_nil)) (Or.inl f_m_mdt9_t38)), ⟨(Io_n (by decide) (by decide) I_m_mdt4_t38.1 I_m_mdt4_t38.2.1 I_m_mdt4_t38.2.2.1 (fun q => absurd q (by decide)) (fun q => absurd q (by decide)) I_m_mdt4_t38.2.2.2), (Nd_56 (Mo_cons (fun q => show m_md t4 ≤ m_md t9 from by omega) (Mo_cons (fun q => show m_md t4 ≤ m_md t11 from by omega) (Mo_cons (fun q => show m_md t4 ≤ m_md t11 from by omega) Mo_nil))) (fun _ => h56)), Stk_step (N := n) (pop := (42, n, t)) (new := [(56, m_md t4, 2), (4, m_md t9, 3), (20, m_md t11, 0), (21, m_md t11, 0)]) F0 C_t38.1.to2 (fun (h : nk 42 = false) => absurd h (by decide)) (fun q _ h => h (42, n, t) rfl) (fun _ => rfl) (fun y hy hk => ⟨rfl, (Mo_cons (fun q => show n ≤ m_md t4 from by omega) (Mo_cons (fun q => show n ≤ m_md t9 from by omega) (Mo_cons (fun q => show n ≤ m_md t11 from by omega) (Mo_cons (fun q => show n ≤ m_md t11 from by omega) Mo_nil)))) y hy hk⟩) (fun (h : 42 = 3 ∨ 42 = 18 ∨ 42 = 41) => absurd h (by decide)) (fun (h : 42 = 18) => absurd h (by decide)) (fun _ h16 => (Or.inr ⟨f_n_t38, (Ab_some (y := (56, m_md t4, 2)) rfl (show n < m_md t4 from by omega)), H50_no la_n_t38 wl_n_t38 (by decide)⟩)) r [] (fun y hy => absurd hy List.not_mem_nil) hS⟩⟩⟩⟩
                  · exact (Aj_up (x := (21, m_md t11, 0)) (Aj_up (x := (20, m_md t11, 0)) (Aj_up (x := (4, m_md t9, 3)) (Aj_sub (y := (56, m_md t4, 2)) hJ (Nat.le_of_ble_eq_true rfl)) (Or.inr (Nat.le_of_ble_eq_true rfl))) (Or.inr (Nat.le_of_ble_eq_true rfl))) (Or.inl (Nat.le_of_ble_eq_true rfl)))
                  · show m_dp t38 = (dlt 21 + (dlt 20 + (dlt 4 + (dlt 56 + sD r))))
                    have : dlt 20 = 1 := rfl; have : dlt 21 = 0 := rfl; have : dlt 4 = 0 := rfl; have : dlt 42 = 0 := rfl; have : dlt 56 = 0 := rfl; omega
                  · show m_rw t38 = (rho 21 + (rho 20 + (rho 4 + (rho 56 + sR r))))
                    have : rho 20 = 0 := rfl; have : rho 21 = 0 := rfl; have : rho 4 = 0 := rfl; have : rho 42 = 0 := rfl; have : rho 56 = 0 := rfl; omega
                  · show m_md t38 + (mu7 21 + (mu7 20 + (mu7 4 + (mu7 56 + sM r)))) ≤ 3 * m_at t38 + 7 * (r.length + 1 + 1 + 1 + 1) + 10
                    have : mu7 20 = 7 := rfl; have : mu7 21 = 3 := rfl; have : mu7 4 = 7 := rfl; have : mu7 42 = 8 := rfl; have : mu7 56 = 7 := rfl; omega
                  · show (wt 21 + (wt 20 + (wt 4 + (wt 56 + sW r)))) + 6 * (4096 - m_at t38) + 4 * (600 - (r.length + 1 + 1 + 1 + 1)) < (wt 42 + sW r) + 6 * (4096 - m_at t0) + 4 * (600 - (r.length + 1))
                    have : wt 20 = 5 := rfl; have : wt 21 = 2 := rfl; have : wt 4 = 5 := rfl; have : wt 42 = 5 := rfl; have : wt 56 = 5 := rfl; omega
                · have w_t35 := Nat.pos_of_ne_zero w_t35
                  have I_n_t35 := I_n_t34.flat X_t35
                  have f_n_t35 := f_n_t34.ex I_n_t34 (X_t35 0)
                  have u_n_t35 := u_n_t34.ex I_n_t34 (X_t35 0)
                  have I_m_mdt4_t35 := I_m_mdt4_t34.flat X_t35
                  have f_m_mdt4_t35 := f_m_mdt4_t34.ex I_m_mdt4_t34 (X_t35 0)
                  have I_m_mdt9_t35 := I_m_mdt9_t34.flat X_t35
                  have f_m_mdt9_t35 := f_m_mdt9_t34.ex I_m_mdt9_t34 (X_t35 0)
                  have u_m_mdt9_t35 := u_m_mdt9_t34.ex I_m_mdt9_t34 (X_t35 0)
                  have I_m_mdt11_t35 := I_m_mdt11_t34.flat X_t35
                  have u_m_mdt11_t35 := u_m_mdt11_t34.ex I_m_mdt11_t34 (X_t35 0)
                  have hv_m_mdt4_t35 : V56 t35 (m_md t4) (m_md t0) n := hv_m_mdt4_t34.flat j_t35
                  have x69_t35 : U69 t35 (m_md t9) := U69_flat j_t35 x69_t34
                  have la_n_t35 : m_la t35 n = (m_md t4) + 1 := by rw [j_t35.2.2.1]; exact la_n_t34
                  have wl_n_t35 : m_wh t35 ((m_md t4)) = 56 := by rw [j_t35.1]; exact wl_n_t34
                  clear la_n_t34 wl_n_t34
                  have la_m_mdt4_t35 : m_la t35 (m_md t4) = (m_md t9) + 1 := by rw [j_t35.2.2.1]; exact la_m_mdt4_t34
                  have wl_m_mdt4_t35 : m_wh t35 ((m_md t9)) = 13 := by rw [j_t35.1]; exact wl_m_mdt4_t34
                  clear la_m_mdt4_t34 wl_m_mdt4_t34
                  have la_m_mdt9_t35 : m_la t35 (m_md t9) = (m_md t11) + 1 := by rw [j_t35.2.2.1]; exact la_m_mdt9_t34
                  have wl_m_mdt9_t35 : m_wh t35 ((m_md t11)) = 29 := by rw [j_t35.1]; exact wl_m_mdt9_t34
                  clear la_m_mdt9_t34 wl_m_mdt9_t34
                  refine Kp_at C_t35 (fun t39 C_t39 X_t39 a_t39 b_t39 d_t39 w_t39 u_t39 v_t39 j_t39 l_t39 => ?_)
                  have e_t39 := C_t39.2.2.2.1
                  have I_n_t39 := I_n_t35.flat X_t39
                  have f_n_t39 := f_n_t35.ex I_n_t35 (X_t39 0)
                  have u_n_t39 := u_n_t35.ex I_n_t35 (X_t39 0)
                  have I_m_mdt4_t39 := I_m_mdt4_t35.flat X_t39
                  have f_m_mdt4_t39 := f_m_mdt4_t35.ex I_m_mdt4_t35 (X_t39 0)
                  have I_m_mdt9_t39 := I_m_mdt9_t35.flat X_t39
                  have f_m_mdt9_t39 := f_m_mdt9_t35.ex I_m_mdt9_t35 (X_t39 0)
                  have u_m_mdt9_t39 := u_m_mdt9_t35.ex I_m_mdt9_t35 (X_t39 0)
                  have I_m_mdt11_t39 := I_m_mdt11_t35.flat X_t39
                  have u_m_mdt11_t39 := u_m_mdt11_t35.ex I_m_mdt11_t35 (X_t39 0)
                  have hv_m_mdt4_t39 : V56 t39 (m_md t4) (m_md t0) n := hv_m_mdt4_t35.flat j_t39
                  have x69_t39 : U69 t39 (m_md t9) := U69_flat j_t39 x69_t35
                  have la_n_t39 : m_la t39 n = (m_md t4) + 1 := by rw [j_t39.2.2.1]; exact la_n_t35
                  have wl_n_t39 : m_wh t39 ((m_md t4)) = 56 := by rw [j_t39.1]; exact wl_n_t35
                  clear la_n_t35 wl_n_t35
                  have la_m_mdt4_t39 : m_la t39 (m_md t4) = (m_md t9) + 1 := by rw [j_t39.2.2.1]; exact la_m_mdt4_t35
                  have wl_m_mdt4_t39 : m_wh t39 ((m_md t9)) = 13 := by rw [j_t39.1]; exact wl_m_mdt4_t35
                  clear la_m_mdt4_t35 wl_m_mdt4_t35
                  have la_m_mdt9_t39 : m_la t39 (m_md t9) = (m_md t11) + 1 := by rw [j_t39.2.2.1]; exact la_m_mdt9_t35
                  have wl_m_mdt9_t39 : m_wh t39 ((m_md t11)) = 29 := by rw [j_t39.1]; exact wl_m_mdt9_t35
                  clear la_m_mdt9_t35 wl_m_mdt9_t35
                  refine Kp_push C_t39 (by omega) (fun t40 C_t40 X_t40 a_t40 b_t40 d_t40 w_t40 u_t40 v_t40 j_t40 l_t40 => ?_)
                  have e_t40 := C_t40.2.2.2.1
                  have I_n_t40 := I_n_t39.flat X_t40
                  have f_n_t40 := f_n_t39.ex I_n_t39 (X_t40 0)
                  have u_n_t40 := u_n_t39.ex I_n_t39 (X_t40 0)
                  have I_m_mdt4_t40 := I_m_mdt4_t39.flat X_t40
                  have f_m_mdt4_t40 := f_m_mdt4_t39.ex I_m_mdt4_t39 (X_t40 0)
                  have I_m_mdt9_t40 := I_m_mdt9_t39.flat X_t40
                  have f_m_mdt9_t40 := f_m_mdt9_t39.ex I_m_mdt9_t39 (X_t40 0)
                  have u_m_mdt9_t40 := u_m_mdt9_t39.ex I_m_mdt9_t39 (X_t40 0)
                  have I_m_mdt11_t40 := I_m_mdt11_t39.flat X_t40
                  have u_m_mdt11_t40 := u_m_mdt11_t39.ex I_m_mdt11_t39 (X_t40 0)
                  have hv_m_mdt4_t40 : V56 t40 (m_md t4) (m_md t0) n := hv_m_mdt4_t39.flat j_t40
                  have x69_t40 : U69 t40 (m_md t9) := U69_flat j_t40 x69_t39
                  have la_n_t40 : m_la t40 n = (m_md t4) + 1 := by rw [j_t40.2.2.1]; exact la_n_t39
                  have wl_n_t40 : m_wh t40 ((m_md t4)) = 56 := by rw [j_t40.1]; exact wl_n_t39
                  clear la_n_t39 wl_n_t39
                  have la_m_mdt4_t40 : m_la t40 (m_md t4) = (m_md t9) + 1 := by rw [j_t40.2.2.1]; exact la_m_mdt4_t39
                  have wl_m_mdt4_t40 : m_wh t40 ((m_md t9)) = 13 := by rw [j_t40.1]; exact wl_m_mdt4_t39
                  clear la_m_mdt4_t39 wl_m_mdt4_t39
                  have la_m_mdt9_t40 : m_la t40 (m_md t9) = (m_md t11) + 1 := by rw [j_t40.2.2.1]; exact la_m_mdt9_t39
                  have wl_m_mdt9_t40 : m_wh t40 ((m_md t11)) = 29 := by rw [j_t40.1]; exact wl_m_mdt9_t39
                  clear la_m_mdt9_t39 wl_m_mdt9_t39
                  refine Kp_push C_t40 (by omega) (fun t41 C_t41 X_t41 a_t41 b_t41 d_t41 w_t41 u_t41 v_t41 j_t41 l_t41 => ?_)
                  have e_t41 := C_t41.2.2.2.1
                  have I_n_t41 := I_n_t40.flat X_t41
                  have f_n_t41 := f_n_t40.ex I_n_t40 (X_t41 0)
                  have u_n_t41 := u_n_t40.ex I_n_t40 (X_t41 0)
                  have I_m_mdt4_t41 := I_m_mdt4_t40.flat X_t41
                  have f_m_mdt4_t41 := f_m_mdt4_t40.ex I_m_mdt4_t40 (X_t41 0)
                  have I_m_mdt9_t41 := I_m_mdt9_t40.flat X_t41
                  have f_m_mdt9_t41 := f_m_mdt9_t40.ex I_m_mdt9_t40 (X_t41 0)
                  have u_m_mdt9_t41 := u_m_mdt9_t40.ex I_m_mdt9_t40 (X_t41 0)
                  have I_m_mdt11_t41 := I_m_mdt11_t40.flat X_t41
                  have u_m_mdt11_t41 := u_m_mdt11_t40.ex I_m_mdt11_t40 (X_t41 0)
                  have hv_m_mdt4_t41 : V56 t41 (m_md t4) (m_md t0) n := hv_m_mdt4_t40.flat j_t41
                  have x69_t41 : U69 t41 (m_md t9) := U69_flat j_t41 x69_t40
                  have la_n_t41 : m_la t41 n = (m_md t4) + 1 := by rw [j_t41.2.2.1]; exact la_n_t40
                  have wl_n_t41 : m_wh t41 ((m_md t4)) = 56 := by rw [j_t41.1]; exact wl_n_t40
                  clear la_n_t40 wl_n_t40
                  have la_m_mdt4_t41 : m_la t41 (m_md t4) = (m_md t9) + 1 := by rw [j_t41.2.2.1]; exact la_m_mdt4_t40
                  have wl_m_mdt4_t41 : m_wh t41 ((m_md t9)) = 13 := by rw [j_t41.1]; exact wl_m_mdt4_t40
                  clear la_m_mdt4_t40 wl_m_mdt4_t40
                  have la_m_mdt9_t41 : m_la t41 (m_md t9) = (m_md t11) + 1 := by rw [j_t41.2.2.1]; exact la_m_mdt9_t40
                  have wl_m_mdt9_t41 : m_wh t41 ((m_md t11)) = 29 := by rw [j_t41.1]; exact wl_m_mdt9_t40
                  clear la_m_mdt9_t40 wl_m_mdt9_t40
                  refine Ok_ret (show Ok _ _ _ from ?_)
                  refine Ok_ret (show Ok _ _ _ from ?_)
                  exact Or.inl ⟨Nat.ne_of_gt (show 0 < m_wr t41 from by omega), by omega, by omega, C_t41.2.2.2.2.2, by omega⟩
              · refine Ok_ife (Nat.lt_trans (lo_lt (C_t11.tk hT) _) (by decide)) (by decide) (fun q42 => ?_) (fun q42 => ?_)
                · refine Kp_push C_t11 (by omega) (fun t43 C_t43 X_t43 a_t43 b_t43 d_t43 w_t43 u_t43 v_t43 j_t43 l_t43 => ?_)
                  have e_t43 := C_t43.2.2.2.1
                  rw [a_t11] at a_t43
                  rw [b_t11] at b_t43
                  rw [d_t11] at d_t43
                  rw [w_t11] at w_t43
                  rw [u_t11] at u_t43
                  rw [v_t11] at v_t43
                  clear d_t11 w_t11 u_t11 v_t11 e_t11 a_t11 b_t11
                  have I_n_t43 := I_n_t11.flat X_t43
                  have f_n_t43 := f_n_t11.ex I_n_t11 (X_t43 0)
                  have u_n_t43 := u_n_t11.ex I_n_t11 (X_t43 0)
                  have I_m_mdt4_t43 := I_m_mdt4_t11.flat X_t43
                  have f_m_mdt4_t43 := f_m_mdt4_t11.ex I_m_mdt4_t11 (X_t43 0)
                  have I_m_mdt9_t43 := I_m_mdt9_t11.flat X_t43
                  have u_m_mdt9_t43 := u_m_mdt9_t11.ex I_m_mdt9_t11 (X_t43 0)
                  have hv_m_mdt4_t43 : V56 t43 (m_md t4) (m_md t0) n := hv_m_mdt4_t11.flat j_t43
                  have x69_t43 : U69 t43 (m_md t9) := U69_flat j_t43 x69_t11
                  have la_n_t43 : m_la t43 n = (m_md t4) + 1 := by rw [j_t43.2.2.1]; exact la_n_t11
                  have wl_n_t43 : m_wh t43 ((m_md t4)) = 56 := by rw [j_t43.1]; exact wl_n_t11
                  clear la_n_t11 wl_n_t11
                  have la_m_mdt4_t43 : m_la t43 (m_md t4) = (m_md t9) + 1 := by rw [j_t43.2.2.1]; exact la_m_mdt4_t11
                  have wl_m_mdt4_t43 : m_wh t43 ((m_md t9)) = 13 := by rw [j_t43.1]; exact wl_m_mdt4_t11
                  clear la_m_mdt4_t11 wl_m_mdt4_t11
                  refine Kp_push C_t43 (by omega) (fun t44 C_t44 X_t44 a_t44 b_t44 d_t44 w_t44 u_t44 v_t44 j_t44 l_t44 => ?_)
                  have e_t44 := C_t44.2.2.2.1
                  rw [a_t43] at a_t44
                  rw [b_t43] at b_t44
                  rw [d_t43] at d_t44
                  rw [w_t43] at w_t44
                  rw [u_t43] at u_t44
                  rw [v_t43] at v_t44
                  clear d_t43 w_t43 u_t43 v_t43 e_t43 a_t43 b_t43
                  have I_n_t44 := I_n_t43.flat X_t44
                  have f_n_t44 := f_n_t43.ex I_n_t43 (X_t44 0)
                  have u_n_t44 := u_n_t43.ex I_n_t43 (X_t44 0)
                  have I_m_mdt4_t44 := I_m_mdt4_t43.flat X_t44
                  have f_m_mdt4_t44 := f_m_mdt4_t43.ex I_m_mdt4_t43 (X_t44 0)
                  have I_m_mdt9_t44 := I_m_mdt9_t43.flat X_t44
                  have u_m_mdt9_t44 := u_m_mdt9_t43.ex I_m_mdt9_t43 (X_t44 0)
                  have hv_m_mdt4_t44 : V56 t44 (m_md t4) (m_md t0) n := hv_m_mdt4_t43.flat j_t44
                  have x69_t44 : U69 t44 (m_md t9) := U69_flat j_t44 x69_t43
                  have la_n_t44 : m_la t44 n = (m_md t4) + 1 := by rw [j_t44.2.2.1]; exact la_n_t43
                  have wl_n_t44 : m_wh t44 ((m_md t4)) = 56 := by rw [j_t44.1]; exact wl_n_t43
                  clear la_n_t43 wl_n_t43
                  have la_m_mdt4_t44 : m_la t44 (m_md t4) = (m_md t9) + 1 := by rw [j_t44.2.2.1]; exact la_m_mdt4_t43
                  have wl_m_mdt4_t44 : m_wh t44 ((m_md t9)) = 13 := by rw [j_t44.1]; exact wl_m_mdt4_t43
                  clear la_m_mdt4_t43 wl_m_mdt4_t43
                  refine Ok_ret (show Ok _ _ _ from ?_)
                  refine Ok_ret (show Ok _ _ _ from ?_)
                  have h56 : N56 t44 (m_md t4) [(4, m_md t9, 3), (5, m_md t9, 3), (18, m_md t9, 1)] := N56_mk hv_m_mdt4_t44 la_m_mdt4_t44 (by omega) (by omega) (by omega) (by omega) (fun y hy => by cases hy; show m_md t9 ≤ m_md t9; omega) I_n_t44 I_m_mdt9_t44 u_m_mdt9_t44 x69_t44 (Or.inr ⟨(18, m_md t9, 1), (List.mem_cons_of_mem _ (List.mem_cons_of_mem _ List.mem_cons_self)), rfl, Or.inr (Or.inl rfl)⟩)
                  refine Hv_mk (Kv_c (x := (18, m_md t9, 1)) rfl (Kv_c (x := (5, m_md t9, 3)) rfl (Kv_c (x := (4, m_md t9, 3)) rfl (Kv_c (x := (56, m_md t4, 2)) rfl hK)))) (C_t44.1.2.2.2.2.2.2 hTt) C_t44 hT (by omega) (by omega) (by omega) ?_ ?_ ?_ (by omega) ?_ ?_ ?_
                  · exact ⟨(Io_n (by decide) (by decide) I_m_mdt9_t44.1 I_m_mdt9_t44.2.1 I_m_mdt9_t44.2.2.1 (fun q => absurd q (by decide)) (fun q => absurd q (by decide)) I_m_mdt9_t44.2.2.2), (Nd_0 (by decide) Mo_nil), ⟨(Io_n (by decide) (by decide) I_m_mdt9_t44.1 I_m_mdt9_t44.2.1 I_m_mdt9_t44.2.2.1 (fun q => absurd q (by decide)) (fun q => absurd q (by decide)) I_m_mdt9_t44.2.2.2), (Nd_5 (Mo_cons (fun q => show m_md t9 ≤ m_md t9 from by omega) Mo_nil) (Or.inl ⟨1, rfl⟩)), ⟨(Io_n (by decide) (by decide) I_m_mdt9_t44.1 I_m_mdt9_t44.2.1 I_m_mdt9_t44.2.2.1 (fun q => absurd q (by decide)) (fun q => absurd q (by decide)) I_m_mdt9_t44.2.2.2), (Nd_A (by decide) (Mo_cons (fun q => show m_md t9 ≤ m_md t9 from by omega) (Mo_cons (fun q => show m_md t9 ≤ m_md t9 from by omega) Mo_nil)) (Or.inr ⟨(18, m_md t9, 1), (List.mem_cons_of_mem _ List.mem_cons_self), rfl, Or.inr (Or.inl rfl)⟩)), ⟨(Io_n (by decide) (by decide) I_m_mdt4_t44.1 I_m_mdt4_t44.2.1 I_m_mdt4_t44.2.2.1 (fun q => absurd q (by decide)) (fun q => absurd q (by decide)) I_m_mdt4_t44.2.2.2), (Nd_56 (Mo_cons (fun q => show m_md t4 ≤ m_md t9 from by omega) (Mo_cons (fun q => show m_md t4 ≤ m_md t9 from by omega) (Mo_cons (fun q => show m_md t4 ≤ m_md t9 from by omega) Mo_nil))) (fun _ => h56)), Stk_step (N := n) (pop := (42, n, t)) (new := [(56, m_md t4, 2), (4, m_md t9, 3), (5, m_md t9, 3), (18, m_md t9, 1)]) F0 C_t44.1.to2 (fun (h : nk 42 = false) => absurd h (by decide)) (fun q _ h => h (42, n, t) rfl) (fun _ => rfl) (fun y hy hk => ⟨rfl, (Mo_cons (fun q => show n ≤ m_md t4 from by omega) (Mo_cons (fun q => show n ≤ m_md t9 from by omega) (Mo_cons (fun q => show n ≤ m_md t9 from by omega) (Mo_cons (fun q => show n ≤ m_md t9 from by omega) Mo_nil)))) y hy hk⟩) (fun (h : 42 = 3 ∨ 42 = 18 ∨ 42 = 41) => absurd h (by decide)) (fun (h : 42 = 18) => absurd h (by decide)) (fun _ h16 => (Or.inr ⟨f_n_t44, (Ab_some (y := (56, m_md t4, 2)) rfl (show n < m_md t4 from by omega)), H50_no la_n_t44 wl_n_t44 (by decide)⟩)) r [] (fun y hy => absurd hy List.not_mem_nil) hS⟩⟩⟩⟩
                  · exact (Aj_up (x := (18, m_md t9, 1)) (Aj_up (x := (5, m_md t9, 3)) (Aj_up (x := (4, m_md t9, 3)) (Aj_sub (y := (56, m_md t4, 2)) hJ (Nat.le_of_ble_eq_true rfl)) (Or.inr (Nat.le_of_ble_eq_true rfl))) (Or.inr (Nat.le_of_ble_eq_true rfl))) (Or.inr (Nat.le_of_ble_eq_true rfl)))
                  · show m_dp t44 = (dlt 18 + (dlt 5 + (dlt 4 + (dlt 56 + sD r))))
                    have : dlt 18 = 0 := rfl; have : dlt 4 = 0 := rfl; have : dlt 42 = 0 := rfl; have : dlt 5 = 0 := rfl; have : dlt 56 = 0 := rfl; omega
                  · show m_rw t44 = (rho 18 + (rho 5 + (rho 4 + (rho 56 + sR r))))
                    have : rho 18 = 0 := rfl; have : rho 4 = 0 := rfl; have : rho 42 = 0 := rfl; have : rho 5 = 0 := rfl; have : rho 56 = 0 := rfl; omega
                  · show m_md t44 + (mu7 18 + (mu7 5 + (mu7 4 + (mu7 56 + sM r)))) ≤ 3 * m_at t44 + 7 * (r.length + 1 + 1 + 1 + 1) + 10
                    have : mu7 18 = 5 := rfl; have : mu7 4 = 7 := rfl; have : mu7 42 = 8 := rfl; have : mu7 5 = 7 := rfl; have : mu7 56 = 7 := rfl; omega
                  · show (wt 18 + (wt 5 + (wt 4 + (wt 56 + sW r)))) + 6 * (4096 - m_at t44) + 4 * (600 - (r.length + 1 + 1 + 1 + 1)) < (wt 42 + sW r) + 6 * (4096 - m_at t0) + 4 * (600 - (r.length + 1))
                    have : wt 18 = 0 := rfl; have : wt 4 = 5 := rfl; have : wt 42 = 5 := rfl; have : wt 5 = 5 := rfl; have : wt 56 = 5 := rfl; omega
                · refine Ok_ife (Nat.lt_trans (lo_lt (C_t11.tk hT) _) (by decide)) (by decide) (fun q45 => ?_) (fun q45 => ?_)
                  · refine Kp_push C_t11 (by omega) (fun t46 C_t46 X_t46 a_t46 b_t46 d_t46 w_t46 u_t46 v_t46 j_t46 l_t46 => ?_)
                    have e_t46 := C_t46.2.2.2.1
                    rw [a_t11] at a_t46
                    rw [b_t11] at b_t46
                    rw [d_t11] at d_t46
                    rw [w_t11] at w_t46
                    rw [u_t11] at u_t46
                    rw [v_t11] at v_t46
                    clear d_t11 w_t11 u_t11 v_t11 e_t11 a_t11 b_t11
                    have I_n_t46 := I_n_t11.flat X_t46
                    have f_n_t46 := f_n_t11.ex I_n_t11 (X_t46 0)
                    have u_n_t46 := u_n_t11.ex I_n_t11 (X_t46 0)
                    have I_m_mdt4_t46 := I_m_mdt4_t11.flat X_t46
                    have f_m_mdt4_t46 := f_m_mdt4_t11.ex I_m_mdt4_t11 (X_t46 0)
                    have I_m_mdt9_t46 := I_m_mdt9_t11.flat X_t46
                    have u_m_mdt9_t46 := u_m_mdt9_t11.ex I_m_mdt9_t11 (X_t46 0)
                    have hv_m_mdt4_t46 : V56 t46 (m_md t4) (m_md t0) n := hv_m_mdt4_t11.flat j_t46
                    have x69_t46 : U69 t46 (m_md t9) := U69_flat j_t46 x69_t11
                    have la_n_t46 : m_la t46 n = (m_md t4) + 1 := by rw [j_t46.2.2.1]; exact la_n_t11
                    have wl_n_t46 : m_wh t46 ((m_md t4)) = 56 := by rw [j_t46.1]; exact wl_n_t11
                    clear la_n_t11 wl_n_t11
                    have la_m_mdt4_t46 : m_la t46 (m_md t4) = (m_md t9) + 1 := by rw [j_t46.2.2.1]; exact la_m_mdt4_t11
                    have wl_m_mdt4_t46 : m_wh t46 ((m_md t9)) = 13 := by rw [j_t46.1]; exact wl_m_mdt4_t11
                    clear la_m_mdt4_t11 wl_m_mdt4_t11
                    refine Kp_push C_t46 (by omega) (fun t47 C_t47 X_t47 a_t47 b_t47 d_t47 w_t47 u_t47 v_t47 j_t47 l_t47 => ?_)
                    have e_t47 := C_t47.2.2.2.1
                    rw [a_t46] at a_t47
                    rw [b_t46] at b_t47
                    rw [d_t46] at d_t47
                    rw [w_t46] at w_t47
                    rw [u_t46] at u_t47
                    rw [v_t46] at v_t47
                    clear d_t46 w_t46 u_t46 v_t46 e_t46 a_t46 b_t46
                    have I_n_t47 := I_n_t46.flat X_t47
                    have f_n_t47 := f_n_t46.ex I_n_t46 (X_t47 0)
                    have u_n_t47 := u_n_t46.ex I_n_t46 (X_t47 0)
                    have I_m_mdt4_t47 := I_m_mdt4_t46.flat X_t47
                    have f_m_mdt4_t47 := f_m_mdt4_t46.ex I_m_mdt4_t46 (X_t47 0)
                    have I_m_mdt9_t47 := I_m_mdt9_t46.flat X_t47
                    have u_m_mdt9_t47 := u_m_mdt9_t46.ex I_m_mdt9_t46 (X_t47 0)
                    have hv_m_mdt4_t47 : V56 t47 (m_md t4) (m_md t0) n := hv_m_mdt4_t46.flat j_t47
                    have x69_t47 : U69 t47 (m_md t9) := U69_flat j_t47 x69_t46
                    have la_n_t47 : m_la t47 n = (m_md t4) + 1 := by rw [j_t47.2.2.1]; exact la_n_t46
                    have wl_n_t47 : m_wh t47 ((m_md t4)) = 56 := by rw [j_t47.1]; exact wl_n_t46
                    clear la_n_t46 wl_n_t46
                    have la_m_mdt4_t47 : m_la t47 (m_md t4) = (m_md t9) + 1 := by rw [j_t47.2.2.1]; exact la_m_mdt4_t46
                    have wl_m_mdt4_t47 : m_wh t47 ((m_md t9)) = 13 := by rw [j_t47.1]; exact wl_m_mdt4_t46
                    clear la_m_mdt4_t46 wl_m_mdt4_t46
                    refine Ok_ret (show Ok _ _ _ from ?_)
                    refine Ok_ret (show Ok _ _ _ from ?_)
                    have h56 : N56 t47 (m_md t4) [(4, m_md t9, 3), (5, m_md t9, 3), (18, m_md t9, 1)] := N56_mk hv_m_mdt4_t47 la_m_mdt4_t47 (by omega) (by omega) (by omega) (by omega) (fun y hy => by cases hy; show m_md t9 ≤ m_md t9; omega) I_n_t47 I_m_mdt9_t47 u_m_mdt9_t47 x69_t47 (Or.inr ⟨(18, m_md t9, 1), (List.mem_cons_of_mem _ (List.mem_cons_of_mem _ List.mem_cons_self)), rfl, Or.inr (Or.inl rfl)⟩)
                    refine Hv_mk (Kv_c (x := (18, m_md t9, 1)) rfl (Kv_c (x := (5, m_md t9, 3)) rfl (Kv_c (x := (4, m_md t9, 3)) rfl (Kv_c (x := (56, m_md t4, 2)) rfl hK)))) (C_t47.1.2.2.2.2.2.2 hTt) C_t47 hT (by omega) (by omega) (by omega) ?_ ?_ ?_ (by omega) ?_ ?_ ?_
                    · exact ⟨(Io_n (by decide) (by decide) I_m_mdt9_t47.1 I_m_mdt9_t47.2.1 I_m_mdt9_t47.2.2.1 (fun q => absurd q (by decide)) (fun q => absurd q (by decide)) I_m_mdt9_t47.2.2.2), (Nd_0 (by decide) Mo_nil), ⟨(Io_n (by decide) (by decide) I_m_mdt9_t47.1 I_m_mdt9_t47.2.1 I_m_mdt9_t47.2.2.1 (fun q => absurd q (by decide)) (fun q => absurd q (by decide)) I_m_mdt9_t47.2.2.2), (Nd_5 (Mo_cons (fun q => show m_md t9 ≤ m_md t9 from by omega) Mo_nil) (Or.inl ⟨1, rfl⟩)), ⟨(Io_n (by decide) (by decide) I_m_mdt9_t47.1 I_m_mdt9_t47.2.1 I_m_mdt9_t47.2.2.1 (fun q => absurd q (by decide)) (fun q => absurd q (by decide)) I_m_mdt9_t47.2.2.2), (Nd_A (by decide) (Mo_cons (fun q => show m_md t9 ≤ m_md t9 from by omega) (Mo_cons (fun q => show m_md t9 ≤ m_md t9 from by omega) Mo_nil)) (Or.inr ⟨(18, m_md t9, 1), (List.mem_cons_of_mem _ List.mem_cons_self), rfl, Or.inr (Or.inl rfl)⟩)), ⟨(Io_n (by decide) (by decide) I_m_mdt4_t47.1 I_m_mdt4_t47.2.1 I_m_mdt4_t47.2.2.1 (fun q => absurd q (by decide)) (fun q => absurd q (by decide)) I_m_mdt4_t47.2.2.2), (Nd_56 (Mo_cons (fun q => show m_md t4 ≤ m_md t9 from by omega) (Mo_cons (fun q => show m_md t4 ≤ m_md t9 from by omega) (Mo_cons (fun q => show m_md t4 ≤ m_md t9 from by omega) Mo_nil))) (fun _ => h56)), Stk_step (N := n) (pop := (42, n, t)) (new := [(56, m_md t4, 2), (4, m_md t9, 3), (5, m_md t9, 3), (18, m_md t9, 1)]) F0 C_t47.1.to2 (fun (h : nk 42 = false) => absurd h (by decide)) (fun q _ h => h (42, n, t) rfl) (fun _ => rfl) (fun y hy hk => ⟨rfl, (Mo_cons (fun q => show n ≤ m_md t4 from by omega) (Mo_cons (fun q => show n ≤ m_md t9 from by omega) (Mo_cons (fun q => show n ≤ m_md t9 from by omega) (Mo_cons (fun q => show n ≤ m_md t9 from by omega) Mo_nil)))) y hy hk⟩) (fun (h : 42 = 3 ∨ 42 = 18 ∨ 42 = 41) => absurd h (by decide)) (fun (h : 42 = 18) => absurd h (by decide)) (fun _ h16 => (Or.inr ⟨f_n_t47, (Ab_some (y := (56, m_md t4, 2)) rfl (show n < m_md t4 from by omega)), H50_no la_n_t47 wl_n_t47 (by decide)⟩)) r [] (fun y hy => absurd hy List.not_mem_nil) hS⟩⟩⟩⟩
                    · exact (Aj_up (x := (18, m_md t9, 1)) (Aj_up (x := (5, m_md t9, 3)) (Aj_up (x := (4, m_md t9, 3)) (Aj_sub (y := (56, m_md t4, 2)) hJ (Nat.le_of_ble_eq_true rfl)) (Or.inr (Nat.le_of_ble_eq_true rfl))) (Or.inr (Nat.le_of_ble_eq_true rfl))) (Or.inr (Nat.le_of_ble_eq_true rfl)))
                    · show m_dp t47 = (dlt 18 + (dlt 5 + (dlt 4 + (dlt 56 + sD r))))
                      have : dlt 18 = 0 := rfl; have : dlt 4 = 0 := rfl; have : dlt 42 = 0 := rfl; have : dlt 5 = 0 := rfl; have : dlt 56 = 0 := rfl; omega
                    · show m_rw t47 = (rho 18 + (rho 5 + (rho 4 + (rho 56 + sR r))))
                      have : rho 18 = 0 := rfl; have : rho 4 = 0 := rfl; have : rho 42 = 0 := rfl; have : rho 5 = 0 := rfl; have : rho 56 = 0 := rfl; omega
                    · show m_md t47 + (mu7 18 + (mu7 5 + (mu7 4 + (mu7 56 + sM r)))) ≤ 3 * m_at t47 + 7 * (r.length + 1 + 1 + 1 + 1) + 10
                      have : mu7 18 = 5 := rfl; have : mu7 4 = 7 := rfl; have : mu7 42 = 8 := rfl; have : mu7 5 = 7 := rfl; have : mu7 56 = 7 := rfl; omega
                    · show (wt 18 + (wt 5 + (wt 4 + (wt 56 + sW r)))) + 6 * (4096 - m_at t47) + 4 * (600 - (r.length + 1 + 1 + 1 + 1)) < (wt 42 + sW r) + 6 * (4096 - m_at t0) + 4 * (600 - (r.length + 1))
                      have : wt 18 = 0 := rfl; have : wt 4 = 5 := rfl; have : wt 42 = 5 := rfl; have : wt 5 = 5 := rfl; have : wt 56 = 5 := rfl; omega
                  · refine Ok_ife (Nat.lt_trans (lo_lt (C_t11.tk hT) _) (by decide)) (by decide) (fun q48 => ?_) (fun q48 => ?_)
                    · refine Kp_push C_t11 (by omega) (fun t49 C_t49 X_t49 a_t49 b_t49 d_t49 w_t49 u_t49 v_t49 j_t49 l_t49 => ?_)
                      have e_t49 := C_t49.2.2.2.1
                      rw [a_t11] at a_t49
                      rw [b_t11] at b_t49
                      rw [d_t11] at d_t49
                      rw [w_t11] at w_t49
                      rw [u_t11] at u_t49
                      rw [v_t11] at v_t49
                      clear d_t11 w_t11 u_t11 v_t11 e_t11 a_t11 b_t11
                      have I_n_t49 := I_n_t11.flat X_t49
                      have f_n_t49 := f_n_t11.ex I_n_t11 (X_t49 0)
                      have u_n_t49 := u_n_t11.ex I_n_t11 (X_t49 0)
                      have I_m_mdt4_t49 := I_m_mdt4_t11.flat X_t49
                      have f_m_mdt4_t49 := f_m_mdt4_t11.ex I_m_mdt4_t11 (X_t49 0)
                      have I_m_mdt9_t49 := I_m_mdt9_t11.flat X_t49
                      have u_m_mdt9_t49 := u_m_mdt9_t11.ex I_m_mdt9_t11 (X_t49 0)
                      have hv_m_mdt4_t49 : V56 t49 (m_md t4) (m_md t0) n := hv_m_mdt4_t11.flat j_t49
                      have x69_t49 : U69 t49 (m_md t9) := U69_flat j_t49 x69_t11
                      have la_n_t49 : m_la t49 n = (m_md t4) + 1 := by rw [j_t49.2.2.1]; exact la_n_t11
                      have wl_n_t49 : m_wh t49 ((m_md t4)) = 56 := by rw [j_t49.1]; exact wl_n_t11
                      clear la_n_t11 wl_n_t11
                      have la_m_mdt4_t49 : m_la t49 (m_md t4) = (m_md t9) + 1 := by rw [j_t49.2.2.1]; exact la_m_mdt4_t11
                      have wl_m_mdt4_t49 : m_wh t49 ((m_md t9)) = 13 := by rw [j_t49.1]; exact wl_m_mdt4_t11
                      clear la_m_mdt4_t11 wl_m_mdt4_t11
                      refine Kp_push C_t49 (by omega) (fun t50 C_t50 X_t50 a_t50 b_t50 d_t50 w_t50 u_t50 v_t50 j_t50 l_t50 => ?_)
                      have e_t50 := C_t50.2.2.2.1
                      rw [a_t49] at a_t50
                      rw [b_t49] at b_t50
                      rw [d_t49] at d_t50
                      rw [w_t49] at w_t50
                      rw [u_t49] at u_t50
                      rw [v_t49] at v_t50
                      clear d_t49 w_t49 u_t49 v_t49 e_t49 a_t49 b_t49
                      have I_n_t50 := I_n_t49.flat X_t50
                      have f_n_t50 := f_n_t49.ex I_n_t49 (X_t50 0)
                      have u_n_t50 := u_n_t49.ex I_n_t49 (X_t50 0)
                      have I_m_mdt4_t50 := I_m_mdt4_t49.flat X_t50
                      have f_m_mdt4_t50 := f_m_mdt4_t49.ex I_m_mdt4_t49 (X_t50 0)
                      have I_m_mdt9_t50 := I_m_mdt9_t49.flat X_t50
                      have u_m_mdt9_t50 := u_m_mdt9_t49.ex I_m_mdt9_t49 (X_t50 0)
                      have hv_m_mdt4_t50 : V56 t50 (m_md t4) (m_md t0) n := hv_m_mdt4_t49.flat j_t50
                      have x69_t50 : U69 t50 (m_md t9) := U69_flat j_t50 x69_t49
                      have la_n_t50 : m_la t50 n = (m_md t4) + 1 := by rw [j_t50.2.2.1]; exact la_n_t49
                      have wl_n_t50 : m_wh t50 ((m_md t4)) = 56 := by rw [j_t50.1]; exact wl_n_t49
                      clear la_n_t49 wl_n_t49
                      have la_m_mdt4_t50 : m_la t50 (m_md t4) = (m_md t9) + 1 := by rw [j_t50.2.2.1]; exact la_m_mdt4_t49
                      have wl_m_mdt4_t50 : m_wh t50 ((m_md t9)) = 13 := by rw [j_t50.1]; exact wl_m_mdt4_t49
                      clear la_m_mdt4_t49 wl_m_mdt4_t49
                      refine Ok_ret (show Ok _ _ _ from ?_)
                      refine Ok_ret (show Ok _ _ _ from ?_)
                      have h56 : N56 t50 (m_md t4) [(4, m_md t9, 3), (5, m_md t9, 3), (18, m_md t9, 1)] := N56_mk hv_m_mdt4_t50 la_m_mdt4_t50 (by omega) (by omega) (by omega) (by omega) (fun y hy => by cases hy; show m_md t9 ≤ m_md t9; omega) I_n_t50 I_m_mdt9_t50 u_m_mdt9_t50 x69_t50 (Or.inr ⟨(18, m_md t9, 1), (List.mem_cons_of_mem _ (List.mem_cons_of_mem _ List.mem_cons_self)), rfl, Or.inr (Or.inl rfl)⟩)
                      refine Hv_mk (Kv_c (x := (18, m_md t9, 1)) rfl (Kv_c (x := (5, m_md t9, 3)) rfl (Kv_c (x := (4, m_md t9, 3)) rfl (Kv_c (x := (56, m_md t4, 2)) rfl hK)))) (C_t50.1.2.2.2.2.2.2 hTt) C_t50 hT (by omega) (by omega) (by omega) ?_ ?_ ?_ (by omega) ?_ ?_ ?_
                      · exact ⟨(Io_n (by decide) (by decide) I_m_mdt9_t50.1 I_m_mdt9_t50.2.1 I_m_mdt9_t50.2.2.1 (fun q => absurd q (by decide)) (fun q => absurd q (by decide)) I_m_mdt9_t50.2.2.2), (Nd_0 (by decide) Mo_nil), ⟨(Io_n (by decide) (by decide) I_m_mdt9_t50.1 I_m_mdt9_t50.2.1 I_m_mdt9_t50.2.2.1 (fun q => absurd q (by decide)) (fun q => absurd q (by decide)) I_m_mdt9_t50.2.2.2), (Nd_5 (Mo_cons (fun q => show m_md t9 ≤ m_md t9 from by omega) Mo_nil) (Or.inl ⟨1, rfl⟩)), ⟨(Io_n (by decide) (by decide) I_m_mdt9_t50.1 I_m_mdt9_t50.2.1 I_m_mdt9_t50.2.2.1 (fun q => absurd q (by decide)) (fun q => absurd q (by decide)) I_m_mdt9_t50.2.2.2), (Nd_A (by decide) (Mo_cons (fun q => show m_md t9 ≤ m_md t9 from by omega) (Mo_cons (fun q => show m_md t9 ≤ m_md t9 from by omega) Mo_nil)) (Or.inr ⟨(18, m_md t9, 1), (List.mem_cons_of_mem _ List.mem_cons_self), rfl, Or.inr (Or.inl rfl)⟩)), ⟨(Io_n (by decide) (by decide) I_m_mdt4_t50.1 I_m_mdt4_t50.2.1 I_m_mdt4_t50.2.2.1 (fun q => absurd q (by decide)) (fun q => absurd q (by decide)) I_m_mdt4_t50.2.2.2), (Nd_56 (Mo_cons (fun q => show m_md t4 ≤ m_md t9 from by omega) (Mo_cons (fun q => show m_md t4 ≤ m_md t9 from by omega) (Mo_cons (fun q => show m_md t4 ≤ m_md t9 from by omega) Mo_nil))) (fun _ => h56)), Stk_step (N := n) (pop := (42, n, t)) (new := [(56, m_md t4, 2), (4, m_md t9, 3), (5, m_md t9, 3), (18, m_md t9, 1)]) F0 C_t50.1.to2 (fun (h : nk 42 = false) => absurd h (by decide)) (fun q _ h => h (42, n, t) rfl) (fun _ => rfl) (fun y hy hk => ⟨rfl, (Mo_cons (fun q => show n ≤ m_md t4 from by omega) (Mo_cons (fun q => show n ≤ m_md t9 from by omega) (Mo_cons (fun q => show n ≤ m_md t9 from by omega) (Mo_cons (fun q => show n ≤ m_md t9 from by omega) Mo_nil)))) y hy hk⟩) (fun (h : 42 = 3 ∨ 42 = 18 ∨ 42 = 41) => absurd h (by decide)) (fun (h : 42 = 18) => absurd h (by decide)) (fun _ h16 => (Or.inr ⟨f_n_t50, (Ab_some (y := (56, m_md t4, 2)) rfl (show n < m_md t4 from by omega)), H50_no la_n_t50 wl_n_t50 (by decide)⟩)) r [] (fun y hy => absurd hy List.not_mem_nil) hS⟩⟩⟩⟩
                      · exact (Aj_up (x := (18, m_md t9, 1)) (Aj_up (x := (5, m_md t9, 3)) (Aj_up (x := (4, m_md t9, 3)) (Aj_sub (y := (56, m_md t4, 2)) hJ (Nat.le_of_ble_eq_true rfl)) (Or.inr (Nat.le_of_ble_eq_true rfl))) (Or.inr (Nat.le_of_ble_eq_true rfl))) (Or.inr (Nat.le_of_ble_eq_true rfl)))
                      · show m_dp t50 = (dlt 18 + (dlt 5 + (dlt 4 + (dlt 56 + sD r))))
                        have : dlt 18 = 0 := rfl; have : dlt 4 = 0 := rfl; have : dlt 42 = 0 := rfl; have : dlt 5 = 0 := rfl; have : dlt 56 = 0 := rfl; omega
                      · show m_rw t50 = (rho 18 + (rho 5 + (rho 4 + (rho 56 + sR r))))
                        have : rho 18 = 0 := rfl; have : rho 4 = 0 := rfl; have : rho 42 = 0 := rfl; have : rho 5 = 0 := rfl; have : rho 56 = 0 := rfl; omega
                      · show m_md t50 + (mu7 18 + (mu7 5 + (mu7 4 + (mu7 56 + sM r)))) ≤ 3 * m_at t50 + 7 * (r.length + 1 + 1 + 1 + 1) + 10
                        have : mu7 18 = 5 := rfl; have : mu7 4 = 7 := rfl; have : mu7 42 = 8 := rfl; have : mu7 5 = 7 := rfl; have : mu7 56 = 7 := rfl; omega
                      · show (wt 18 + (wt 5 + (wt 4 + (wt 56 + sW r)))) + 6 * (4096 - m_at t50) + 4 * (600 - (r.length + 1 + 1 + 1 + 1)) < (wt 42 + sW r) + 6 * (4096 - m_at t0) + 4 * (600 - (r.length + 1))
                        have : wt 18 = 0 := rfl; have : wt 4 = 5 := rfl; have : wt 42 = 5 := rfl; have : wt 5 = 5 := rfl; have : wt 56 = 5 := rfl; omega
                    · refine Ok_ife (Nat.lt_trans (lo_lt (C_t11.tk hT) _) (by decide)) (by decide) (fun q51 => ?_) (fun q51 => ?_)
                      · refine Kp_push C_t11 (by omega) (fun t52 C_t52 X_t52 a_t52 b_t52 d_t52 w_t52 u_t52 v_t52 j_t52 l_t52 => ?_)
                        have e_t52 := C_t52.2.2.2.1
                        rw [a_t11] at a_t52
                        rw [b_t11] at b_t52
                        rw [d_t11] at d_t52
                        rw [w_t11] at w_t52
                        rw [u_t11] at u_t52
                        rw [v_t11] at v_t52
                        clear d_t11 w_t11 u_t11 v_t11 e_t11 a_t11 b_t11
                        have I_n_t52 := I_n_t11.flat X_t52
                        have f_n_t52 := f_n_t11.ex I_n_t11 (X_t52 0)
                        have u_n_t52 := u_n_t11.ex I_n_t11 (X_t52 0)
                        have I_m_mdt4_t52 := I_m_mdt4_t11.flat X_t52
                        have f_m_mdt4_t52 := f_m_mdt4_t11.ex I_m_mdt4_t11 (X_t52 0)
                        have I_m_mdt9_t52 := I_m_mdt9_t11.flat X_t52
                        have u_m_mdt9_t52 := u_m_mdt9_t11.ex I_m_mdt9_t11 (X_t52 0)
                        have hv_m_mdt4_t52 : V56 t52 (m_md t4) (m_md t0) n := hv_m_mdt4_t11.flat j_t52
                        have x69_t52 : U69 t52 (m_md t9) := U69_flat j_t52 x69_t11
                        have la_n_t52 : m_la t52 n = (m_md t4) + 1 := by rw [j_t52.2.2.1]; exact la_n_t11
                        have wl_n_t52 : m_wh t52 ((m_md t4)) = 56 := by rw [j_t52.1]; exact wl_n_t11
                        clear la_n_t11 wl_n_t11
                        have la_m_mdt4_t52 : m_la t52 (m_md t4) = (m_md t9) + 1 := by rw [j_t52.2.2.1]; exact la_m_mdt4_t11
                        have wl_m_mdt4_t52 : m_wh t52 ((m_md t9)) = 13 := by rw [j_t52.1]; exact wl_m_mdt4_t11
                        clear la_m_mdt4_t11 wl_m_mdt4_t11
                        refine Kp_push C_t52 (by omega) (fun t53 C_t53 X_t53 a_t53 b_t53 d_t53 w_t53 u_t53 v_t53 j_t53 l_t53 => ?_)
                        have e_t53 := C_t53.2.2.2.1
                        rw [a_t52] at a_t53
                        rw [b_t52] at b_t53
                        rw [d_t52] at d_t53
                        rw [w_t52] at w_t53
                        rw [u_t52] at u_t53
                        rw [v_t52] at v_t53
                        clear d_t52 w_t52 u_t52 v_t52 e_t52 a_t52 b_t52
                        have I_n_t53 := I_n_t52.flat X_t53
                        have f_n_t53 := f_n_t52.ex I_n_t52 (X_t53 0)
                        have u_n_t53 := u_n_t52.ex I_n_t52 (X_t53 0)
                        have I_m_mdt4_t53 := I_m_mdt4_t52.flat X_t53
                        have f_m_mdt4_t53 := f_m_mdt4_t52.ex I_m_mdt4_t52 (X_t53 0)
                        have I_m_mdt9_t53 := I_m_mdt9_t52.flat X_t53
                        have u_m_mdt9_t53 := u_m_mdt9_t52.ex I_m_mdt9_t52 (X_t53 0)
                        have hv_m_mdt4_t53 : V56 t53 (m_md t4) (m_md t0) n := hv_m_mdt4_t52.flat j_t53
                        have x69_t53 : U69 t53 (m_md t9) := U69_flat j_t53 x69_t52
                        have la_n_t53 : m_la t53 n = (m_md t4) + 1 := by rw [j_t53.2.2.1]; exact la_n_t52
                        have wl_n_t53 : m_wh t53 ((m_md t4)) = 56 := by rw [j_t53.1]; exact wl_n_t52
                        clear la_n_t52 wl_n_t52
                        have la_m_mdt4_t53 : m_la t53 (m_md t4) = (m_md t9) + 1 := by rw [j_t53.2.2.1]; exact la_m_mdt4_t52
                        have wl_m_mdt4_t53 : m_wh t53 ((m_md t9)) = 13 := by rw [j_t53.1]; exact wl_m_mdt4_t52
                        clear la_m_mdt4_t52 wl_m_mdt4_t52
                        refine Ok_ret (show Ok _ _ _ from ?_)
                        refine Ok_ret (show Ok _ _ _ from ?_)
                        have h56 : N56 t53 (m_md t4) [(4, m_md t9, 3), (5, m_md t9, 3), (18, m_md t9, 1)] := N56_mk hv_m_mdt4_t53 la_m_mdt4_t53 (by omega) (by omega) (by omega) (by omega) (fun y hy => by cases hy; show m_md t9 ≤ m_md t9; omega) I_n_t53 I_m_mdt9_t53 u_m_mdt9_t53 x69_t53 (Or.inr ⟨(18, m_md t9, 1), (List.mem_cons_of_mem _ (List.mem_cons_of_mem _ List.mem_cons_self)), rfl, Or.inr (Or.inl rfl)⟩)
                        refine Hv_mk (Kv_c (x := (18, m_md t9, 1)) rfl (Kv_c (x := (5, m_md t9, 3)) rfl (Kv_c (x := (4, m_md t9, 3)) rfl (Kv_c (x := (56, m_md t4, 2)) rfl hK)))) (C_t53.1.2.2.2.2.2.2 hTt) C_t53 hT (by omega) (by omega) (by omega) ?_ ?_ ?_ (by omega) ?_ ?_ ?_
                        · exact ⟨(Io_n (by decide) (by decide) I_m_mdt9_t53.1 I_m_mdt9_t53.2.1 I_m_mdt9_t53.2.2.1 (fun q => absurd q (by decide)) (fun q => absurd q (by decide)) I_m_mdt9_t53.2.2.2), (Nd_0 (by decide) Mo_nil), ⟨(Io_n (by decide) (by decide) I_m_mdt9_t53.1 I_m_mdt9_t53.2.1 I_m_mdt9_t53.2.2.1 (fun q => absurd q (by decide)) (fun q => absurd q (by decide)) I_m_mdt9_t53.2.2.2), (Nd_5 (Mo_cons (fun q => show m_md t9 ≤ m_md t9 from by omega) Mo_nil) (Or.inl ⟨1, rfl⟩)), ⟨(Io_n (by decide) (by decide) I_m_mdt9_t53.1 I_m_mdt9_t53.2.1 I_m_mdt9_t53.2.2.1 (fun q => absurd q (by decide)) (fun q => absurd q (by decide)) I_m_mdt9_t53.2.2.2), (Nd_A (by decide) (Mo_cons (fun q => show m_md t9 ≤ m_md t9 from by omega) (Mo_cons (fun q => show m_md t9 ≤ m_md t9 from by omega) Mo_nil)) (Or.inr ⟨(18, m_md t9, 1), (List.mem_cons_of_mem _ List.mem_cons_self), rfl, Or.inr (Or.inl rfl)⟩)), ⟨(Io_n (by decide) (by decide) I_m_mdt4_t53.1 I_m_mdt4_t53.2.1 I_m_mdt4_t53.2.2.1 (fun q => absurd q (by decide)) (fun q => absurd q (by decide)) I_m_mdt4_t53.2.2.2), (Nd_56 (Mo_cons (fun q => show m_md t4 ≤ m_md t9 from by omega) (Mo_cons (fun q => show m_md t4 ≤ m_md t9 from by omega) (Mo_cons (fun q => show m_md t4 ≤ m_md t9 from by omega) Mo_nil))) (fun _ => h56)), Stk_step (N := n) (pop := (42, n, t)) (new := [(56, m_md t4, 2), (4, m_md t9, 3), (5, m_md t9, 3), (18, m_md t9, 1)]) F0 C_t53.1.to2 (fun (h : nk 42 = false) => absurd h (by decide)) (fun q _ h => h (42, n, t) rfl) (fun _ => rfl) (fun y hy hk => ⟨rfl, (Mo_cons (fun q => show n ≤ m_md t4 from by omega) (Mo_cons (fun q => show n ≤ m_md t9 from by omega) (Mo_cons (fun q => show n ≤ m_md t9 from by omega) (Mo_cons (fun q => show n ≤ m_md t9 from by omega) Mo_nil)))) y hy hk⟩) (fun (h : 42 = 3 ∨ 42 = 18 ∨ 42 = 41) => absurd h (by decide)) (fun (h : 42 = 18) => absurd h (by decide)) (fun _ h16 => (Or.inr ⟨f_n_t53, (Ab_some (y := (56, m_md t4, 2)) rfl (show n < m_md t4 from by omega)), H50_no la_n_t53 wl_n_t53 (by decide)⟩)) r [] (fun y hy => absurd hy List.not_mem_nil) hS⟩⟩⟩⟩
                        · exact (Aj_up (x := (18, m_md t9, 1)) (Aj_up (x := (5, m_md t9, 3)) (Aj_up (x := (4, m_md t9, 3)) (Aj_sub (y := (56, m_md t4, 2)) hJ (Nat.le_of_ble_eq_true rfl)) (Or.inr (Nat.le_of_ble_eq_true rfl))) (Or.inr (Nat.le_of_ble_eq_true rfl))) (Or.inr (Nat.le_of_ble_eq_true rfl)))
                        · show m_dp t53 = (dlt 18 + (dlt 5 + (dlt 4 + (dlt 56 + sD r))))
                          have : dlt 18 = 0 := rfl; have : dlt 4 = 0 := rfl; have : dlt 42 = 0 := rfl; have : dlt 5 = 0 := rfl; have : dlt 56 = 0 := rfl; omega
                        · show m_rw t53 = (rho 18 + (rho 5 + (rho 4 + (rho 56 + sR r))))
                          have : rho 18 = 0 := rfl; have : rho 4 = 0 := rfl; have : rho 42 = 0 := rfl; have : rho 5 = 0 := rfl; have : rho 56 = 0 := rfl; omega
                        · show m_md t53 + (mu7 18 + (mu7 5 + (mu7 4 + (mu7 56 + sM r)))) ≤ 3 * m_at t53 + 7 * (r.length + 1 + 1 + 1 + 1) + 10
                          have : mu7 18 = 5 := rfl; have : mu7 4 = 7 := rfl; have : mu7 42 = 8 := rfl; have : mu7 5 = 7 := rfl; have : mu7 56 = 7 := rfl; omega
                        · show (wt 18 + (wt 5 + (wt 4 + (wt 56 + sW r)))) + 6 * (4096 - m_at t53) + 4 * (600 - (r.length + 1 + 1 + 1 + 1)) < (wt 42 + sW r) + 6 * (4096 - m_at t0) + 4 * (600 - (r.length + 1))
                          have : wt 18 = 0 := rfl; have : wt 4 = 5 := rfl; have : wt 42 = 5 := rfl; have : wt 5 = 5 := rfl; have : wt 56 = 5 := rfl; omega
                      · refine Ok_ife (Nat.lt_trans (lo_lt (C_t11.tk hT) _) (by decide)) (by decide) (fun q54 => ?_) (fun q54 => ?_)
                        · refine Kp_push C_t11 (by omega) (fun t55 C_t55 X_t55 a_t55 b_t55 d_t55 w_t55 u_t55 v_t55 j_t55 l_t55 => ?_)
                          have e_t55 := C_t55.2.2.2.1
                          rw [a_t11] at a_t55
                          rw [b_t11] at b_t55
                          rw [d_t11] at d_t55
                          rw [w_t11] at w_t55
                          rw [u_t11] at u_t55
                          rw [v_t11] at v_t55
                          clear d_t11 w_t11 u_t11 v_t11 e_t11 a_t11 b_t11
                          have I_n_t55 := I_n_t11.flat X_t55
                          have f_n_t55 := f_n_t11.ex I_n_t11 (X_t55 0)
                          have u_n_t55 := u_n_t11.ex I_n_t11 (X_t55 0)
                          have I_m_mdt4_t55 := I_m_mdt4_t11.flat X_t55
                          have f_m_mdt4_t55 := f_m_mdt4_t11.ex I_m_mdt4_t11 (X_t55 0)
                          have I_m_mdt9_t55 := I_m_mdt9_t11.flat X_t55
                          have u_m_mdt9_t55 := u_m_mdt9_t11.ex I_m_mdt9_t11 (X_t55 0)
                          have hv_m_mdt4_t55 : V56 t55 (m_md t4) (m_md t0) n := hv_m_mdt4_t11.flat j_t55
                          have x69_t55 : U69 t55 (m_md t9) := U69_flat j_t55 x69_t11
                          have la_n_t55 : m_la t55 n = (m_md t4) + 1 := by rw [j_t55.2.2.1]; exact la_n_t11
                          have wl_n_t55 : m_wh t55 ((m_md t4)) = 56 := by rw [j_t55.1]; exact wl_n_t11
                          clear la_n_t11 wl_n_t11
                          have la_m_mdt4_t55 : m_la t55 (m_md t4) = (m_md t9) + 1 := by rw [j_t55.2.2.1]; exact la_m_mdt4_t11
                          have wl_m_mdt4_t55 : m_wh t55 ((m_md t9)) = 13 := by rw [j_t55.1]; exact wl_m_mdt4_t11
                          clear la_m_mdt4_t11 wl_m_mdt4_t11
                          refine Kp_push C_t55 (by omega) (fun t56 C_t56 X_t56 a_t56 b_t56 d_t56 w_t56 u_t56 v_t56 j_t56 l_t56 => ?_)
                          have e_t56 := C_t56.2.2.2.1
                          rw [a_t55] at a_t56
                          rw [b_t55] at b_t56
                          rw [d_t55] at d_t56
                          rw [w_t55] at w_t56
                          rw [u_t55] at u_t56
                          rw [v_t55] at v_t56
                          clear d_t55 w_t55 u_t55 v_t55 e_t55 a_t55 b_t55
                          have I_n_t56 := I_n_t55.flat X_t56
                          have f_n_t56 := f_n_t55.ex I_n_t55 (X_t56 0)
                          have u_n_t56 := u_n_t55.ex I_n_t55 (X_t56 0)
                          have I_m_mdt4_t56 := I_m_mdt4_t55.flat X_t56
                          have f_m_mdt4_t56 := f_m_mdt4_t55.ex I_m_mdt4_t55 (X_t56 0)
                          have I_m_mdt9_t56 := I_m_mdt9_t55.flat X_t56
                          have u_m_mdt9_t56 := u_m_mdt9_t55.ex I_m_mdt9_t55 (X_t56 0)
                          have hv_m_mdt4_t56 : V56 t56 (m_md t4) (m_md t0) n := hv_m_mdt4_t55.flat j_t56
                          have x69_t56 : U69 t56 (m_md t9) := U69_flat j_t56 x69_t55
                          have la_n_t56 : m_la t56 n = (m_md t4) + 1 := by rw [j_t56.2.2.1]; exact la_n_t55
                          have wl_n_t56 : m_wh t56 ((m_md t4)) = 56 := by rw [j_t56.1]; exact wl_n_t55
                          clear la_n_t55 wl_n_t55
                          have la_m_mdt4_t56 : m_la t56 (m_md t4) = (m_md t9) + 1 := by rw [j_t56.2.2.1]; exact la_m_mdt4_t55
                          have wl_m_mdt4_t56 : m_wh t56 ((m_md t9)) = 13 := by rw [j_t56.1]; exact wl_m_mdt4_t55
                          clear la_m_mdt4_t55 wl_m_mdt4_t55
                          refine Ok_ret (show Ok _ _ _ from ?_)
                          refine Ok_ret (show Ok _ _ _ from ?_)
                          have h56 : N56 t56 (m_md t4) [(4, m_md t9, 3), (5, m_md t9, 3), (18, m_md t9, 1)] := N56_mk hv_m_mdt4_t56 la_m_mdt4_t56 (by omega) (by omega) (by omega) (by omega) (fun y hy => by cases hy; show m_md t9 ≤ m_md t9; omega) I_n_t56 I_m_mdt9_t56 u_m_mdt9_t56 x69_t56 (Or.inr ⟨(18, m_md t9, 1), (List.mem_cons_of_mem _ (List.mem_cons_of_mem _ List.mem_cons_self)), rfl, Or.inr (Or.inl rfl)⟩)
                          refine Hv_mk (Kv_c (x := (18, m_md t9, 1)) rfl (Kv_c (x := (5, m_md t9, 3)) rfl (Kv_c (x := (4, m_md t9, 3)) rfl (Kv_c (x := (56, m_md t4, 2)) rfl hK)))) (C_t56.1.2.2.2.2.2.2 hTt) C_t56 hT (by omega) (by omega) (by omega) ?_ ?_ ?_ (by omega) ?_ ?_ ?_
                          · exact ⟨(Io_n (by decide) (by decide) I_m_mdt9_t56.1 I_m_mdt9_t56.2.1 I_m_mdt9_t56.2.2.1 (fun q => absurd q (by decide)) (fun q => absurd q (by decide)) I_m_mdt9_t56.2.2.2), (Nd_0 (by decide) Mo_nil), ⟨(Io_n (by decide) (by decide) I_m_mdt9_t56.1 I_m_mdt9_t56.2.1 I_m_mdt9_t56.2.2.1 (fun q => absurd q (by decide)) (fun q => absurd q (by decide)) I_m_mdt9_t56.2.2.2), (Nd_5 (Mo_cons (fun q => show m_md t9 ≤ m_md t9 from by omega) Mo_nil) (Or.inl ⟨1, rfl⟩)), ⟨(Io_n (by decide) (by decide) I_m_mdt9_t56.1 I_m_mdt9_t56.2.1 I_m_mdt9_t56.2.2.1 (fun q => absurd q (by decide)) (fun q => absurd q (by decide)) I_m_mdt9_t56.2.2.2), (Nd_A (by decide) (Mo_cons (fun q => show m_md t9 ≤ m_md t9 from by omega) (Mo_cons (fun q => show m_md t9 ≤ m_md t9 from by omega) Mo_nil)) (Or.inr ⟨(18, m_md t9, 1), (List.mem_cons_of_mem _ List.mem_cons_self), rfl, Or.inr (Or.inl rfl)⟩)), ⟨(Io_n (by decide) (by decide) I_m_mdt4_t56.1 I_m_mdt4_t56.2.1 I_m_mdt4_t56.2.2.1 (fun q => absurd q (by decide)) (fun q => absurd q (by decide)) I_m_mdt4_t56.2.2.2), (Nd_56 (Mo_cons (fun q => show m_md t4 ≤ m_md t9 from by omega) (Mo_cons (fun q => show m_md t4 ≤ m_md t9 from by omega) (Mo_cons (fun q => show m_md t4 ≤ m_md t9 from by omega) Mo_nil))) (fun _ => h56)), Stk_step (N := n) (pop := (42, n, t)) (new := [(56, m_md t4, 2), (4, m_md t9, 3), (5, m_md t9, 3), (18, m_md t9, 1)]) F0 C_t56.1.to2 (fun (h : nk 42 = false) => absurd h (by decide)) (fun q _ h => h (42, n, t) rfl) (fun _ => rfl) (fun y hy hk => ⟨rfl, (Mo_cons (fun q => show n ≤ m_md t4 from by omega) (Mo_cons (fun q => show n ≤ m_md t9 from by omega) (Mo_cons (fun q => show n ≤ m_md t9 from by omega) (Mo_cons (fun q => show n ≤ m_md t9 from by omega) Mo_nil)))) y hy hk⟩) (fun (h : 42 = 3 ∨ 42 = 18 ∨ 42 = 41) => absurd h (by decide)) (fun (h : 42 = 18) => absurd h (by decide)) (fun _ h16 => (Or.inr ⟨f_n_t56, (Ab_some (y := (56, m_md t4, 2)) rfl (show n < m_md t4 from by omega)), H50_no la_n_t56 wl_n_t56 (by decide)⟩)) r [] (fun y hy => absurd hy List.not_mem_nil) hS⟩⟩⟩⟩
                          · exact (Aj_up (x := (18, m_md t9, 1)) (Aj_up (x := (5, m_md t9, 3)) (Aj_up (x := (4, m_md t9, 3)) (Aj_sub (y := (56, m_md t4, 2)) hJ (Nat.le_of_ble_eq_true rfl)) (Or.inr (Nat.le_of_ble_eq_true rfl))) (Or.inr (Nat.le_of_ble_eq_true rfl))) (Or.inr (Nat.le_of_ble_eq_true rfl)))
                          · show m_dp t56 = (dlt 18 + (dlt 5 + (dlt 4 + (dlt 56 + sD r))))
                            have : dlt 18 = 0 := rfl; have : dlt 4 = 0 := rfl; have : dlt 42 = 0 := rfl; have : dlt 5 = 0 := rfl; have : dlt 56 = 0 := rfl; omega
                          · show m_rw t56 = (rho 18 + (rho 5 + (rho 4 + (rho 56 + sR r))))
                            have : rho 18 = 0 := rfl; have : rho 4 = 0 := rfl; have : rho 42 = 0 := rfl; have : rho 5 = 0 := rfl; have : rho 56 = 0 := rfl; omega
                          · show m_md t56 + (mu7 18 + (mu7 5 + (mu7 4 + (mu7 56 + sM r)))) ≤ 3 * m_at t56 + 7 * (r.length + 1 + 1 + 1 + 1) + 10
                            have : mu7 18 = 5 := rfl; have : mu7 4 = 7 := rfl; have : mu7 42 = 8 := rfl; have : mu7 5 = 7 := rfl; have : mu7 56 = 7 := rfl; omega
                          · show (wt 18 + (wt 5 + (wt 4 + (wt 56 + sW r)))) + 6 * (4096 - m_at t56) + 4 * (600 - (r.length + 1 + 1 + 1 + 1)) < (wt 42 + sW r) + 6 * (4096 - m_at t0) + 4 * (600 - (r.length + 1))
                            have : wt 18 = 0 := rfl; have : wt 4 = 5 := rfl; have : wt 42 = 5 := rfl; have : wt 5 = 5 := rfl; have : wt 56 = 5 := rfl; omega
                        · refine Ok_ife (Nat.lt_trans (lo_lt (C_t11.tk hT) _) (by decide)) (by decide) (fun q57 => ?_) (fun q57 => ?_)
                          · refine Kp_push C_t11 (by omega) (fun t58 C_t58 X_t58 a_t58 b_t58 d_t58 w_t58 u_t58 v_t58 j_t58 l_t58 => ?_)
                            have e_t58 := C_t58.2.2.2.1
                            rw [a_t11] at a_t58
                            rw [b_t11] at b_t58
                            rw [d_t11] at d_t58
                            rw [w_t11] at w_t58
                            rw [u_t11] at u_t58
                            rw [v_t11] at v_t58
                            clear d_t11 w_t11 u_t11 v_t11 e_t11 a_t11 b_t11
                            have I_n_t58 := I_n_t11.flat X_t58
                            have f_n_t58 := f_n_t11.ex I_n_t11 (X_t58 0)
                            have u_n_t58 := u_n_t11.ex I_n_t11 (X_t58 0)
                            have I_m_mdt4_t58 := I_m_mdt4_t11.flat X_t58
                            have f_m_mdt4_t58 := f_m_mdt4_t11.ex I_m_mdt4_t11 (X_t58 0)
                            have I_m_mdt9_t58 := I_m_mdt9_t11.flat X_t58
                            have u_m_mdt9_t58 := u_m_mdt9_t11.ex I_m_mdt9_t11 (X_t58 0)
                            have hv_m_mdt4_t58 : V56 t58 (m_md t4) (m_md t0) n := hv_m_mdt4_t11.flat j_t58
                            have x69_t58 : U69 t58 (m_md t9) := U69_flat j_t58 x69_t11
                            have la_n_t58 : m_la t58 n = (m_md t4) + 1 := by rw [j_t58.2.2.1]; exact la_n_t11
                            have wl_n_t58 : m_wh t58 ((m_md t4)) = 56 := by rw [j_t58.1]; exact wl_n_t11
                            clear la_n_t11 wl_n_t11
                            have la_m_mdt4_t58 : m_la t58 (m_md t4) = (m_md t9) + 1 := by rw [j_t58.2.2.1]; exact la_m_mdt4_t11
                            have wl_m_mdt4_t58 : m_wh t58 ((m_md t9)) = 13 := by rw [j_t58.1]; exact wl_m_mdt4_t11
                            clear la_m_mdt4_t11 wl_m_mdt4_t11
                            refine Kp_push C_t58 (by omega) (fun t59 C_t59 X_t59 a_t59 b_t59 d_t59 w_t59 u_t59 v_t59 j_t59 l_t59 => ?_)
                            have e_t59 := C_t59.2.2.2.1
                            rw [a_t58] at a_t59
                            rw [b_t58] at b_t59
                            rw [d_t58] at d_t59
                            rw [w_t58] at w_t59
                            rw [u_t58] at u_t59
                            rw [v_t58] at v_t59
                            clear d_t58 w_t58 u_t58 v_t58 e_t58 a_t58 b_t58
                            have I_n_t59 := I_n_t58.flat X_t59
                            have f_n_t59 := f_n_t58.ex I_n_t58 (X_t59 0)
                            have u_n_t59 := u_n_t58.ex I_n_t58 (X_t59 0)
                            have I_m_mdt4_t59 := I_m_mdt4_t58.flat X_t59
                            have f_m_mdt4_t59 := f_m_mdt4_t58.ex I_m_mdt4_t58 (X_t59 0)
                            have I_m_mdt9_t59 := I_m_mdt9_t58.flat X_t59
                            have u_m_mdt9_t59 := u_m_mdt9_t58.ex I_m_mdt9_t58 (X_t59 0)
                            have hv_m_mdt4_t59 : V56 t59 (m_md t4) (m_md t0) n := hv_m_mdt4_t58.flat j_t59
                            have x69_t59 : U69 t59 (m_md t9) := U69_flat j_t59 x69_t58
                            have la_n_t59 : m_la t59 n = (m_md t4) + 1 := by rw [j_t59.2.2.1]; exact la_n_t58
                            have wl_n_t59 : m_wh t59 ((m_md t4)) = 56 := by rw [j_t59.1]; exact wl_n_t58
                            clear la_n_t58 wl_n_t58
                            have la_m_mdt4_t59 : m_la t59 (m_md t4) = (m_md t9) + 1 := by rw [j_t59.2.2.1]; exact la_m_mdt4_t58
                            have wl_m_mdt4_t59 : m_wh t59 ((m_md t9)) = 13 := by rw [j_t59.1]; exact wl_m_mdt4_t58
                            clear la_m_mdt4_t58 wl_m_mdt4_t58
                            refine Ok_ret (show Ok _ _ _ from ?_)
                            refine Ok_ret (show Ok _ _ _ from ?_)
                            have h56 : N56 t59 (m_md t4) [(4, m_md t9, 3), (5, m_md t9, 3), (18, m_md t9, 1)] := N56_mk hv_m_mdt4_t59 la_m_mdt4_t59 (by omega) (by omega) (by omega) (by omega) (fun y hy => by cases hy; show m_md t9 ≤ m_md t9; omega) I_n_t59 I_m_mdt9_t59 u_m_mdt9_t59 x69_t59 (Or.inr ⟨(18, m_md t9, 1), (List.mem_cons_of_mem _ (List.mem_cons_of_mem _ List.mem_cons_self)), rfl, Or.inr (Or.inl rfl)⟩)
                            refine Hv_mk (Kv_c (x := (18, m_md t9, 1)) rfl (Kv_c (x := (5, m_md t9, 3)) rfl (Kv_c (x := (4, m_md t9, 3)) rfl (Kv_c (x := (56, m_md t4, 2)) rfl hK)))) (C_t59.1.2.2.2.2.2.2 hTt) C_t59 hT (by omega) (by omega) (by omega) ?_ ?_ ?_ (by omega) ?_ ?_ ?_
                            · exact ⟨(Io_n (by decide) (by decide) I_m_mdt9_t59.1 I_m_mdt9_t59.2.1 I_m_mdt9_t59.2.2.1 (fun q => absurd q (by decide)) (fun q => absurd q (by decide)) I_m_mdt9_t59.2.2.2), (Nd_0 (by decide) Mo_nil), ⟨(Io_n (by decide) (by decide) I_m_mdt9_t59.1 I_m_mdt9_t59.2.1 I_m_mdt9_t59.2.2.1 (fun q => absurd q (by decide)) (fun q => absurd q (by decide)) I_m_mdt9_t59.2.2.2), (Nd_5 (Mo_cons (fun q => show m_md t9 ≤ m_md t9 from by omega) Mo_nil) (Or.inl ⟨1, rfl⟩)), ⟨(Io_n (by decide) (by decide) I_m_mdt9_t59.1 I_m_mdt9_t59.2.1 I_m_mdt9_t59.2.2.1 (fun q => absurd q (by decide)) (fun q => absurd q (by decide)) I_m_mdt9_t59.2.2.2), (Nd_A (by decide) (Mo_cons (fun q => show m_md t9 ≤ m_md t9 from by omega) (Mo_cons (fun q => show m_md t9 ≤ m_md t9 from by omega) Mo_nil)) (Or.inr ⟨(18, m_md t9, 1), (List.mem_cons_of_mem _ List.mem_cons_self), rfl, Or.inr (Or.inl rfl)⟩)), ⟨(Io_n (by decide) (by decide) I_m_mdt4_t59.1 I_m_mdt4_t59.2.1 I_m_mdt4_t59.2.2.1 (fun q => absurd q (by decide)) (fun q => absurd q (by decide)) I_m_mdt4_t59.2.2.2), (Nd_56 (Mo_cons (fun q => show m_md t4 ≤ m_md t9 from by omega) (Mo_cons (fun q => show m_md t4 ≤ m_md t9 from by omega) (Mo_cons (fun q => show m_md t4 ≤ m_md t9 from by omega) Mo_nil))) (fun _ => h56)), Stk_step (N := n) (pop := (42, n, t)) (new := [(56, m_md t4, 2), (4, m_md t9, 3), (5, m_md t9, 3), (18, m_md t9, 1)]) F0 C_t59.1.to2 (fun (h : nk 42 = false) => absurd h (by decide)) (fun q _ h => h (42, n, t) rfl) (fun _ => rfl) (fun y hy hk => ⟨rfl, (Mo_cons (fun q => show n ≤ m_md t4 from by omega) (Mo_cons (fun q => show n ≤ m_md t9 from by omega) (Mo_cons (fun q => show n ≤ m_md t9 from by omega) (Mo_cons (fun q => show n ≤ m_md t9 from by omega) Mo_nil)))) y hy hk⟩) (fun (h : 42 = 3 ∨ 42 = 18 ∨ 42 = 41) => absurd h (by decide)) (fun (h : 42 = 18) => absurd h (by decide)) (fun _ h16 => (Or.inr ⟨f_n_t59, (Ab_some (y := (56, m_md t4, 2)) rfl (show n < m_md t4 from by omega)), H50_no la_n_t59 wl_n_t59 (by decide)⟩)) r [] (fun y hy => absurd hy List.not_mem_nil) hS⟩⟩⟩⟩
                            · exact (Aj_up (x := (18, m_md t9, 1)) (Aj_up (x := (5, m_md t9, 3)) (Aj_up (x := (4, m_md t9, 3)) (Aj_sub (y := (56, m_md t4, 2)) hJ (Nat.le_of_ble_eq_true rfl)) (Or.inr (Nat.le_of_ble_eq_true rfl))) (Or.inr (Nat.le_of_ble_eq_true rfl))) (Or.inr (Nat.le_of_ble_eq_true rfl)))
                            · show m_dp t59 = (dlt 18 + (dlt 5 + (dlt 4 + (dlt 56 + sD r))))
                              have : dlt 18 = 0 := rfl; have : dlt 4 = 0 := rfl; have : dlt 42 = 0 := rfl; have : dlt 5 = 0 := rfl; have : dlt 56 = 0 := rfl; omega
                            · show m_rw t59 = (rho 18 + (rho 5 + (rho 4 + (rho 56 + sR r))))
                              have : rho 18 = 0 := rfl; have : rho 4 = 0 := rfl; have : rho 42 = 0 := rfl; have : rho 5 = 0 := rfl; have : rho 56 = 0 := rfl; omega
                            · show m_md t59 + (mu7 18 + (mu7 5 + (mu7 4 + (mu7 56 + sM r)))) ≤ 3 * m_at t59 + 7 * (r.length + 1 + 1 + 1 + 1) + 10
                              have : mu7 18 = 5 := rfl; have : mu7 4 = 7 := rfl; have : mu7 42 = 8 := rfl; have : mu7 5 = 7 := rfl; have : mu7 56 = 7 := rfl; omega
                            · show (wt 18 + (wt 5 + (wt 4 + (wt 56 + sW r)))) + 6 * (4096 - m_at t59) + 4 * (600 - (r.length + 1 + 1 + 1 + 1)) < (wt 42 + sW r) + 6 * (4096 - m_at t0) + 4 * (600 - (r.length + 1))
                              have : wt 18 = 0 := rfl; have : wt 4 = 5 := rfl; have : wt 42 = 5 := rfl; have : wt 5 = 5 := rfl; have : wt 56 = 5 := rfl; omega
                          · refine Kp_error C_t11 (by omega) (fun t60 C_t60 X_t60 a_t60 b_t60 d_t60 w_t60 u_t60 v_t60 j_t60 l_t60 => ?_)
                            have wb_t60 := w_t60.2
                            have w_t60 := Nat.pos_of_ne_zero w_t60.1
                            have e_t60 := C_t60.2.2.2.1
                            have I_n_t60 := I_n_t11.flat X_t60
                            have f_n_t60 := f_n_t11.ex I_n_t11 (X_t60 0)
                            have u_n_t60 := u_n_t11.ex I_n_t11 (X_t60 0)
                            have I_m_mdt4_t60 := I_m_mdt4_t11.flat X_t60
                            have f_m_mdt4_t60 := f_m_mdt4_t11.ex I_m_mdt4_t11 (X_t60 0)
                            have I_m_mdt9_t60 := I_m_mdt9_t11.flat X_t60
                            have u_m_mdt9_t60 := u_m_mdt9_t11.ex I_m_mdt9_t11 (X_t60 0)
                            have hv_m_mdt4_t60 : V56 t60 (m_md t4) (m_md t0) n := hv_m_mdt4_t11.flat j_t60
                            have x69_t60 : U69 t60 (m_md t9) := U69_flat j_t60 x69_t11
                            have la_n_t60 : m_la t60 n = (m_md t4) + 1 := by rw [j_t60.2.2.1]; exact la_n_t11
                            have wl_n_t60 : m_wh t60 ((m_md t4)) = 56 := by rw [j_t60.1]; exact wl_n_t11
                            clear la_n_t11 wl_n_t11
                            have la_m_mdt4_t60 : m_la t60 (m_md t4) = (m_md t9) + 1 := by rw [j_t60.2.2.1]; exact la_m_mdt4_t11
                            have wl_m_mdt4_t60 : m_wh t60 ((m_md t9)) = 13 := by rw [j_t60.1]; exact wl_m_mdt4_t11
                            clear la_m_mdt4_t11 wl_m_mdt4_t11
                            refine Ok_ret (show Ok _ _ _ from ?_)
                            refine Ok_ret (show Ok _ _ _ from ?_)
                            exact Or.inl ⟨Nat.ne_of_gt (show 0 < m_wr t60 from by omega), by omega, by omega, C_t60.2.2.2.2.2, by omega⟩
        · refine Kp_child C_t11 I_m_mdt9_t11.1 I_m_mdt9_t11.2.1 I_m_mdt9_t11.2.2.1 (by omega) (by omega) (by decide) (by decide) (fun t61 C_t61 X_t61 a_t61 b_t61 d_t61 w_t61 u_t61 v_t61 j_t61 l_t61 => ?_)
          have e_t61 := C_t61.2.2.2.1
          rw [a_t11] at a_t61
          rw [b_t11] at b_t61
          rw [d_t11] at d_t61
          rw [w_t11] at w_t61
          rw [u_t11] at u_t61
          rw [v_t11] at v_t61
          clear d_t11 w_t11 u_t11 v_t11 e_t11 a_t11
          have I_n_t61 := I_n_t11.chd X_t61 j_t61
          have f_n_t61 := f_n_t11.ex I_n_t11 (X_t61 0 (Nat.zero_le _))
          have u_n_t61 := u_n_t11.ex I_n_t11 (X_t61 0 (Nat.zero_le _))
          have I_m_mdt4_t61 := I_m_mdt4_t11.chd X_t61 j_t61
          have f_m_mdt4_t61 := f_m_mdt4_t11.ex I_m_mdt4_t11 (X_t61 0 (Nat.zero_le _))
          have I_m_mdt9_t61 := I_m_mdt9_t11.chd X_t61 j_t61
          have u_m_mdt9_t61 := u_m_mdt9_t11.ex I_m_mdt9_t11 (X_t61 0 (Nat.zero_le _))
          have hv_m_mdt4_t61 : V56 t61 (m_md t4) (m_md t0) n := hv_m_mdt4_t11.chd I_m_mdt4_t11.1 j_t61
          have x69_t61 : U69 t61 (m_md t9) := U69_ch j_t61 (by decide)
          have la_n_t61 : m_la t61 n = (m_md t4) + 1 := by rw [(j_t61.2.2.2.2.2.2.2.1 n I_n_t11.1 (by omega)).1]; exact la_n_t11
          have wl_n_t61 : m_wh t61 ((m_md t4)) = 56 := by rw [(j_t61.2.2.2.2.2.2.1 ((m_md t4)) (by omega)).2]; exact wl_n_t11
          clear la_n_t11 wl_n_t11
          have la_m_mdt4_t61 : m_la t61 (m_md t4) = (m_md t9) + 1 := by rw [(j_t61.2.2.2.2.2.2.2.1 (m_md t4) I_m_mdt4_t11.1 (by omega)).1]; exact la_m_mdt4_t11
          have wl_m_mdt4_t61 : m_wh t61 ((m_md t9)) = 13 := by rw [(j_t61.2.2.2.2.2.2.1 ((m_md t9)) (by omega)).2]; exact wl_m_mdt4_t11
          clear la_m_mdt4_t11 wl_m_mdt4_t11
          have f_m_mdt9_t61 : Fz t61 (m_md t9) := j_t61.2.2.2.2.1
          have I_m_mdt11_t61 : Nq t61 (m_md t11) := Nq.chn j_t61 (by omega) I_m_mdt9_t11 (by decide)
          have u_m_mdt11_t61 : Up t61 (m_md t11) := Or.inl j_t61.2.1
          have la_m_mdt9_t61 : m_la t61 (m_md t9) = (m_md t11) + 1 := j_t61.2.2.2.2.2.1
          have wl_m_mdt9_t61 : m_wh t61 (m_md t11) = 88 := j_t61.1
          have z_t62 : m_at t61 < m_ct t61 := lo_ne (Nat.ne_of_gt (show 0 < lo t61 (m_at t61) from by omega))
          refine Kp_at C_t61 (fun t62 C_t62 X_t62 a_t62 b_t62 d_t62 w_t62 u_t62 v_t62 j_t62 l_t62 => ?_)
          have e_t62 := C_t62.2.2.2.1
          rw [a_t61] at a_t62
          rw [b_t61] at b_t62
          rw [d_t61] at d_t62
          rw [w_t61] at w_t62
          rw [u_t61] at u_t62
          rw [v_t61] at v_t62
          rw [a_t61, e_t61] at z_t62
          clear z_t8
          clear d_t61 w_t61 u_t61 v_t61 e_t61 a_t61 b_t61
          have I_n_t62 := I_n_t61.flat X_t62
          have f_n_t62 := f_n_t61.ex I_n_t61 (X_t62 0)
          have u_n_t62 := u_n_t61.ex I_n_t61 (X_t62 0)
          have I_m_mdt4_t62 := I_m_mdt4_t61.flat X_t62
          have f_m_mdt4_t62 := f_m_mdt4_t61.ex I_m_mdt4_t61 (X_t62 0)
          have I_m_mdt9_t62 := I_m_mdt9_t61.flat X_t62
          have f_m_mdt9_t62 := f_m_mdt9_t61.ex I_m_mdt9_t61 (X_t62 0)
          have u_m_mdt9_t62 := u_m_mdt9_t61.ex I_m_mdt9_t61 (X_t62 0)
          have I_m_mdt11_t62 := I_m_mdt11_t61.flat X_t62
          have u_m_mdt11_t62 := u_m_mdt11_t61.ex I_m_mdt11_t61 (X_t62 0)
          have hv_m_mdt4_t62 : V56 t62 (m_md t4) (m_md t0) n := hv_m_mdt4_t61.flat j_t62
          have x69_t62 : U69 t62 (m_md t9) := U69_flat j_t62 x69_t61
          have la_n_t62 : m_la t62 n = (m_md t4) + 1 := by rw [j_t62.2.2.1]; exact la_n_t61
          have wl_n_t62 : m_wh t62 ((m_md t4)) = 56 := by rw [j_t62.1]; exact wl_n_t61
          clear la_n_t61 wl_n_t61
          have la_m_mdt4_t62 : m_la t62 (m_md t4) = (m_md t9) + 1 := by rw [j_t62.2.2.1]; exact la_m_mdt4_t61
          have wl_m_mdt4_t62 : m_wh t62 ((m_md t9)) = 13 := by rw [j_t62.1]; exact wl_m_mdt4_t61
          clear la_m_mdt4_t61 wl_m_mdt4_t61
          have la_m_mdt9_t62 : m_la t62 (m_md t9) = (m_md t11) + 1 := by rw [j_t62.2.2.1]; exact la_m_mdt9_t61
          have wl_m_mdt9_t62 : m_wh t62 ((m_md t11)) = 88 := by rw [j_t62.1]; exact wl_m_mdt9_t61
          clear la_m_mdt9_t61 wl_m_mdt9_t61
          refine Ok_ret (show Ok _ _ _ from ?_)
          refine Ok_ret (show Ok _ _ _ from ?_)
          have h56 : N56 t62 (m_md t4) [(4, m_md t9, 3)] := N56_mk hv_m_mdt4_t62 la_m_mdt4_t62 (by omega) (by omega) (by omega) (by omega) (fun y hy => by cases hy; show m_md t9 ≤ m_md t9; omega) I_n_t62 I_m_mdt9_t62 u_m_mdt9_t62 x69_t62 (Or.inl f_m_mdt9_t62)
          refine Hv_mk (Kv_c (x := (4, m_md t9, 3)) rfl (Kv_c (x := (56, m_md t4, 2)) rfl hK)) (C_t62.1.2.2.2.2.2.2 hTt) C_t62 hT (by omega) (by omega) (by omega) ?_ ?_ ?_ (by omega) ?_ ?_ ?_
          · exact ⟨(Io_n (by decide) (by decide) I_m_mdt9_t62.1 I_m_mdt9_t62.2.1 I_m_mdt9_t62.2.2.1 (fun q => absurd q (by decide)) (fun q => absurd q (by decide)) I_m_mdt9_t62.2.2.2), (Nd_A (by decide) Mo_nil (Or.inl f_m_mdt9_t62)), ⟨(Io_n (by decide) (by decide) I_m_mdt4_t62.1 I_m_mdt4_t62.2.1 I_m_mdt4_t62.2.2.1 (fun q => absurd q (by decide)) (fun q => absurd q (by decide)) I_m_mdt4_t62.2.2.2), (Nd_56 (Mo_cons (fun q => show m_md t4 ≤ m_md t9 from by omega) Mo_nil) (fun _ => h56)), Stk_step (N := n) (pop := (42, n, t)) (new := [(56, m_md t4, 2), (4, m_md t9, 3)]) F0 C_t62.1.to2 (fun (h : nk 42 = false) => absurd h (by decide)) (fun q _ h => h (42, n, t) rfl) (fun _ => rfl) (fun y hy hk => ⟨rfl, (Mo_cons (fun q => show n ≤ m_md t4 from by omega) (Mo_cons (fun q => show n ≤ m_md t9 from by omega) Mo_nil)) y hy hk⟩) (fun (h : 42 = 3 ∨ 42 = 18 ∨ 42 = 41) => absurd h (by decide)) (fun (h : 42 = 18) => absurd h (by decide)) (fun _ h16 => (Or.inr ⟨f_n_t62, (Ab_some (y := (56, m_md t4, 2)) rfl (show n < m_md t4 from by omega)), H50_no la_n_t62 wl_n_t62 (by decide)⟩)) r [] (fun y hy => absurd hy List.not_mem_nil) hS⟩⟩
          · exact (Aj_up (x := (4, m_md t9, 3)) (Aj_sub (y := (56, m_md t4, 2)) hJ (Nat.le_of_ble_eq_true rfl)) (Or.inr (Nat.le_of_ble_eq_true rfl)))
          · show m_dp t62 = (dlt 4 + (dlt 56 + sD r))
            have : dlt 4 = 0 := rfl; have : dlt 42 = 0 := rfl; have : dlt 56 = 0 := rfl; omega
          · show m_rw t62 = (rho 4 + (rho 56 + sR r))
            have : rho 4 = 0 := rfl; have : rho 42 = 0 := rfl; have : rho 56 = 0 := rfl; omega
          · show m_md t62 + (mu7 4 + (mu7 56 + sM r)) ≤ 3 * m_at t62 + 7 * (r.length + 1 + 1) + 10
            have : mu7 4 = 7 := rfl; have : mu7 42 = 8 := rfl; have : mu7 56 = 7 := rfl; omega
          · show (wt 4 + (wt 56 + sW r)) + 6 * (4096 - m_at t62) + 4 * (600 - (r.length + 1 + 1)) < (wt 42 + sW r) + 6 * (4096 - m_at t0) + 4 * (600 - (r.length + 1))
            have : wt 4 = 5 := rfl; have : wt 42 = 5 := rfl; have : wt 56 = 5 := rfl; omega
      · refine Ok_ife (Nat.lt_trans (lo_lt (C_t11.tk hT) _) (by decide)) (by decide) (fun q63 => ?_) (fun q63 => ?_)
        · refine Ok_bnc ?_
          try unfold b_X6_name
          refine Kp_look C_t11 hT (by omega) ?_
          refine Ok_ife (Nat.lt_trans (lo_lt (C_t11.tk hT) _) (by decide)) (by decide) (fun q => ?_) (fun q => absurd q63 q)
          refine Kp_child C_t11 I_m_mdt9_t11.1 I_m_mdt9_t11.2.1 I_m_mdt9_t11.2.2.1 (by omega) (by omega) (by decide) (by decide) (fun t65 C_t65 X_t65 a_t65 b_t65 d_t65 w_t65 u_t65 v_t65 j_t65 l_t65 => ?_)
          have e_t65 := C_t65.2.2.2.1
          rw [a_t11] at a_t65
          rw [b_t11] at b_t65
          rw [d_t11] at d_t65
          rw [w_t11] at w_t65
          rw [u_t11] at u_t65
          rw [v_t11] at v_t65
          clear d_t11 w_t11 u_t11 v_t11 e_t11 a_t11
          have I_n_t65 := I_n_t11.chd X_t65 j_t65
          have f_n_t65 := f_n_t11.ex I_n_t11 (X_t65 0 (Nat.zero_le _))
          have u_n_t65 := u_n_t11.ex I_n_t11 (X_t65 0 (Nat.zero_le _))
          have I_m_mdt4_t65 := I_m_mdt4_t11.chd X_t65 j_t65
          have f_m_mdt4_t65 := f_m_mdt4_t11.ex I_m_mdt4_t11 (X_t65 0 (Nat.zero_le _))
          have I_m_mdt9_t65 := I_m_mdt9_t11.chd X_t65 j_t65
          have u_m_mdt9_t65 := u_m_mdt9_t11.ex I_m_mdt9_t11 (X_t65 0 (Nat.zero_le _))
          have hv_m_mdt4_t65 : V56 t65 (m_md t4) (m_md t0) n := hv_m_mdt4_t11.chd I_m_mdt4_t11.1 j_t65
          have x69_t65 : U69 t65 (m_md t9) := U69_ch j_t65 (by decide)
          have la_n_t65 : m_la t65 n = (m_md t4) + 1 := by rw [(j_t65.2.2.2.2.2.2.2.1 n I_n_t11.1 (by omega)).1]; exact la_n_t11
          have wl_n_t65 : m_wh t65 ((m_md t4)) = 56 := by rw [(j_t65.2.2.2.2.2.2.1 ((m_md t4)) (by omega)).2]; exact wl_n_t11
          clear la_n_t11 wl_n_t11
          have la_m_mdt4_t65 : m_la t65 (m_md t4) = (m_md t9) + 1 := by rw [(j_t65.2.2.2.2.2.2.2.1 (m_md t4) I_m_mdt4_t11.1 (by omega)).1]; exact la_m_mdt4_t11
          have wl_m_mdt4_t65 : m_wh t65 ((m_md t9)) = 13 := by rw [(j_t65.2.2.2.2.2.2.1 ((m_md t9)) (by omega)).2]; exact wl_m_mdt4_t11
          clear la_m_mdt4_t11 wl_m_mdt4_t11
          have f_m_mdt9_t65 : Fz t65 (m_md t9) := j_t65.2.2.2.2.1
          have I_m_mdt11_t65 : Nq t65 (m_md t11) := Nq.chn j_t65 (by omega) I_m_mdt9_t11 (by decide)
          have u_m_mdt11_t65 : Up t65 (m_md t11) := Or.inl j_t65.2.1
          have la_m_mdt9_t65 : m_la t65 (m_md t9) = (m_md t11) + 1 := j_t65.2.2.2.2.2.1
          have wl_m_mdt9_t65 : m_wh t65 (m_md t11) = 5 := j_t65.1
          have z_t66 : m_at t65 < m_ct t65 := lo_ne (Nat.ne_of_gt (show 0 < lo t65 (m_at t65) from by omega))
          refine Kp_at C_t65 (fun t66 C_t66 X_t66 a_t66 b_t66 d_t66 w_t66 u_t66 v_t66 j_t66 l_t66 => ?_)
          have e_t66 := C_t66.2.2.2.1
          rw [a_t65] at a_t66
          rw [b_t65] at b_t66
          rw [d_t65] at d_t66
          rw [w_t65] at w_t66
          rw [u_t65] at u_t66
          rw [v_t65] at v_t66
          rw [a_t65, e_t65] at z_t66
          clear z_t8
          clear d_t65 w_t65 u_t65 v_t65 e_t65 a_t65 b_t65
          have I_n_t66 := I_n_t65.flat X_t66
          have f_n_t66 := f_n_t65.ex I_n_t65 (X_t66 0)
          have u_n_t66 := u_n_t65.ex I_n_t65 (X_t66 0)
          have I_m_mdt4_t66 := I_m_mdt4_t65.flat X_t66
          have f_m_mdt4_t66 := f_m_mdt4_t65.ex I_m_mdt4_t65 (X_t66 0)
          have I_m_mdt9_t66 := I_m_mdt9_t65.flat X_t66
          have f_m_mdt9_t66 := f_m_mdt9_t65.ex I_m_mdt9_t65 (X_t66 0)
          have u_m_mdt9_t66 := u_m_mdt9_t65.ex I_m_mdt9_t65 (X_t66 0)
          have I_m_mdt11_t66 := I_m_mdt11_t65.flat X_t66
          have u_m_mdt11_t66 := u_m_mdt11_t65.ex I_m_mdt11_t65 (X_t66 0)
          have hv_m_mdt4_t66 : V56 t66 (m_md t4) (m_md t0) n := hv_m_mdt4_t65.flat j_t66
          have x69_t66 : U69 t66 (m_md t9) := U69_flat j_t66 x69_t65
          have la_n_t66 : m_la t66 n = (m_md t4) + 1 := by rw [j_t66.2.2.1]; exact la_n_t65
          have wl_n_t66 : m_wh t66 ((m_md t4)) = 56 := by rw [j_t66.1]; exact wl_n_t65
          clear la_n_t65 wl_n_t65
          have la_m_mdt4_t66 : m_la t66 (m_md t4) = (m_md t9) + 1 := by rw [j_t66.2.2.1]; exact la_m_mdt4_t65
          have wl_m_mdt4_t66 : m_wh t66 ((m_md t9)) = 13 := by rw [j_t66.1]; exact wl_m_mdt4_t65
          clear la_m_mdt4_t65 wl_m_mdt4_t65
          have la_m_mdt9_t66 : m_la t66 (m_md t9) = (m_md t11) + 1 := by rw [j_t66.2.2.1]; exact la_m_mdt9_t65
          have wl_m_mdt9_t66 : m_wh t66 ((m_md t11)) = 5 := by rw [j_t66.1]; exact wl_m_mdt9_t65
          clear la_m_mdt9_t65 wl_m_mdt9_t65
          refine Ok_ret (show Ok _ _ _ from ?_)
          refine Kp_push C_t66 (by omega) (fun t67 C_t67 X_t67 a_t67 b_t67 d_t67 w_t67 u_t67 v_t67 j_t67 l_t67 => ?_)
          have e_t67 := C_t67.2.2.2.1
          rw [a_t66] at a_t67
          rw [b_t66] at b_t67
          rw [d_t66] at d_t67
          rw [w_t66] at w_t67
          rw [u_t66] at u_t67
          rw [v_t66] at v_t67
          clear d_t66 w_t66 u_t66 v_t66 e_t66 a_t66 b_t66
          have I_n_t67 := I_n_t66.flat X_t67
          have f_n_t67 := f_n_t66.ex I_n_t66 (X_t67 0)
          have u_n_t67 := u_n_t66.ex I_n_t66 (X_t67 0)
          have I_m_mdt4_t67 := I_m_mdt4_t66.flat X_t67
          have f_m_mdt4_t67 := f_m_mdt4_t66.ex I_m_mdt4_t66 (X_t67 0)
          have I_m_mdt9_t67 := I_m_mdt9_t66.flat X_t67
          have f_m_mdt9_t67 := f_m_mdt9_t66.ex I_m_mdt9_t66 (X_t67 0)
          have u_m_mdt9_t67 := u_m_mdt9_t66.ex I_m_mdt9_t66 (X_t67 0)
          have I_m_mdt11_t67 := I_m_mdt11_t66.flat X_t67
          have u_m_mdt11_t67 := u_m_mdt11_t66.ex I_m_mdt11_t66 (X_t67 0)
          have hv_m_mdt4_t67 : V56 t67 (m_md t4) (m_md t0) n := hv_m_mdt4_t66.flat j_t67
          have x69_t67 : U69 t67 (m_md t9) := U69_flat j_t67 x69_t66
          have la_n_t67 : m_la t67 n = (m_md t4) + 1 := by rw [j_t67.2.2.1]; exact la_n_t66
          have wl_n_t67 : m_wh t67 ((m_md t4)) = 56 := by rw [j_t67.1]; exact wl_n_t66
          clear la_n_t66 wl_n_t66
          have la_m_mdt4_t67 : m_la t67 (m_md t4) = (m_md t9) + 1 := by rw [j_t67.2.2.1]; exact la_m_mdt4_t66
          have wl_m_mdt4_t67 : m_wh t67 ((m_md t9)) = 13 := by rw [j_t67.1]; exact wl_m_mdt4_t66
          clear la_m_mdt4_t66 wl_m_mdt4_t66
          have la_m_mdt9_t67 : m_la t67 (m_md t9) = (m_md t11) + 1 := by rw [j_t67.2.2.1]; exact la_m_mdt9_t66
          have wl_m_mdt9_t67 : m_wh t67 ((m_md t11)) = 5 := by rw [j_t67.1]; exact wl_m_mdt9_t66
          clear la_m_mdt9_t66 wl_m_mdt9_t66
          refine Ok_ret (show Ok _ _ _ from ?_)
          refine Ok_ret (show Ok _ _ _ from ?_)
          have h56 : N56 t67 (m_md t4) [(4, m_md t9, 3), (5, m_md t9, 3)] := N56_mk hv_m_mdt4_t67 la_m_mdt4_t67 (by omega) (by omega) (by omega) (by omega) (fun y hy => by cases hy; show m_md t9 ≤ m_md t9; omega) I_n_t67 I_m_mdt9_t67 u_m_mdt9_t67 x69_t67 (Or.inl f_m_mdt9_t67)
          refine Hv_mk (Kv_c (x := (5, m_md t9, 3)) rfl (Kv_c (x := (4, m_md t9, 3)) rfl (Kv_c (x := (56, m_md t4, 2)) rfl hK))) (C_t67.1.2.2.2.2.2.2 hTt) C_t67 hT (by omega) (by omega) (by omega) ?_ ?_ ?_ (by omega) ?_ ?_ ?_
          · exact ⟨(Io_n (by decide) (by decide) I_m_mdt9_t67.1 I_m_mdt9_t67.2.1 I_m_mdt9_t67.2.2.1 (fun q => absurd q (by decide)) (fun q => absurd q (by decide)) I_m_mdt9_t67.2.2.2), (Nd_5 Mo_nil (Or.inr (N5_mk f_m_mdt9_t67 (Ab_none rfl) la_m_mdt9_t67 wl_m_mdt9_t67 (Or.inl (by decide))))), ⟨(Io_n (by decide) (by decide) I_m_mdt9_t67.1 I_m_mdt9_t67.2.1 I_m_mdt9_t67.2.2.1 (fun q => absurd q (by decide)) (fun q => absurd q (by decide)) I_m_mdt9_t67.2.2.2), (Nd_A (by decide) (Mo_cons (fun q => show m_md t9 ≤ m_md t9 from by omega) Mo_nil) (Or.inl f_m_mdt9_t67)), ⟨(Io_n (by decide) (by decide) I_m_mdt4_t67.1 I_m_mdt4_t67.2.1 I_m_mdt4_t67.2.2.1 (fun q => absurd q (by decide)) (fun q => absurd q (by decide)) I_m_mdt4_t67.2.2.2), (Nd_56 (Mo_cons (fun q => show m_md t4 ≤ m_md t9 from by omega) (Mo_cons (fun q => show m_md t4 ≤ m_md t9 from by omega) Mo_nil)) (fun _ => h56)), Stk_step (N := n) (pop := (42, n, t)) (new := [(56, m_md t4, 2), (4, m_md t9, 3), (5, m_md t9, 3)]) F0 C_t67.1.to2 (fun (h : nk 42 = false) => absurd h (by decide)) (fun q _ h => h (42, n, t) rfl) (fun _ => rfl) (fun y hy hk => ⟨rfl, (Mo_cons (fun q => show n ≤ m_md t4 from by omega) (Mo_cons (fun q => show n ≤ m_md t9 from by omega) (Mo_cons (fun q => show n ≤ m_md t9 from by omega) Mo_nil))) y hy hk⟩) (fun (h : 42 = 3 ∨ 42 = 18 ∨ 42 = 41) => absurd h (by decide)) (fun (h : 42 = 18) => absurd h (by decide)) (fun _ h16 => (Or.inr ⟨f_n_t67, (Ab_some (y := (56, m_md t4, 2)) rfl (show n < m_md t4 from by omega)), H50_no la_n_t67 wl_n_t67 (by decide)⟩)) r [] (fun y hy => absurd hy List.not_mem_nil) hS⟩⟩⟩
          · exact (Aj_up (x := (5, m_md t9, 3)) (Aj_up (x := (4, m_md t9, 3)) (Aj_sub (y := (56, m_md t4, 2)) hJ (Nat.le_of_ble_eq_true rfl)) (Or.inr (Nat.le_of_ble_eq_true rfl))) (Or.inr (Nat.le_of_ble_eq_true rfl)))
          · show m_dp t67 = (dlt 5 + (dlt 4 + (dlt 56 + sD r)))
            have : dlt 4 = 0 := rfl; have : dlt 42 = 0 := rfl; have : dlt 5 = 0 := rfl; have : dlt 56 = 0 := rfl; omega
          · show m_rw t67 = (rho 5 + (rho 4 + (rho 56 + sR r)))
            have : rho 4 = 0 := rfl; have : rho 42 = 0 := rfl; have : rho 5 = 0 := rfl; have : rho 56 = 0 := rfl; omega
          · show m_md t67 + (mu7 5 + (mu7 4 + (mu7 56 + sM r))) ≤ 3 * m_at t67 + 7 * (r.length + 1 + 1 + 1) + 10
            have : mu7 4 = 7 := rfl; have : mu7 42 = 8 := rfl; have : mu7 5 = 7 := rfl; have : mu7 56 = 7 := rfl; omega
          · show (wt 5 + (wt 4 + (wt 56 + sW r))) + 6 * (4096 - m_at t67) + 4 * (600 - (r.length + 1 + 1 + 1)) < (wt 42 + sW r) + 6 * (4096 - m_at t0) + 4 * (600 - (r.length + 1))
            have : wt 4 = 5 := rfl; have : wt 42 = 5 := rfl; have : wt 5 = 5 := rfl; have : wt 56 = 5 := rfl; omega
        · refine Ok_ife (Nat.lt_trans (lo_lt (C_t11.tk hT) _) (by decide)) (by decide) (fun q68 => ?_) (fun q68 => ?_)
          · refine Kp_child C_t11 I_m_mdt9_t11.1 I_m_mdt9_t11.2.1 I_m_mdt9_t11.2.2.1 (by omega) (by omega) (by decide) (by decide) (fun t69 C_t69 X_t69 a_t69 b_t69 d_t69 w_t69 u_t69 v_t69 j_t69 l_t69 => ?_)
            have e_t69 := C_t69.2.2.2.1
            rw [a_t11] at a_t69
            rw [b_t11] at b_t69
            rw [d_t11] at d_t69
            rw [w_t11] at w_t69
            rw [u_t11] at u_t69
            rw [v_t11] at v_t69
            clear d_t11 w_t11 u_t11 v_t11 e_t11 a_t11
            have I_n_t69 := I_n_t11.chd X_t69 j_t69
            have f_n_t69 := f_n_t11.ex I_n_t11 (X_t69 0 (Nat.zero_le _))
            have u_n_t69 := u_n_t11.ex I_n_t11 (X_t69 0 (Nat.zero_le _))
            have I_m_mdt4_t69 := I_m_mdt4_t11.chd X_t69 j_t69
            have f_m_mdt4_t69 := f_m_mdt4_t11.ex I_m_mdt4_t11 (X_t69 0 (Nat.zero_le _))
            have I_m_mdt9_t69 := I_m_mdt9_t11.chd X_t69 j_t69
            have u_m_mdt9_t69 := u_m_mdt9_t11.ex I_m_mdt9_t11 (X_t69 0 (Nat.zero_le _))
            have hv_m_mdt4_t69 : V56 t69 (m_md t4) (m_md t0) n := hv_m_mdt4_t11.chd I_m_mdt4_t11.1 j_t69
            have x69_t69 : U69 t69 (m_md t9) := U69_ch j_t69 (by decide)
            have la_n_t69 : m_la t69 n = (m_md t4) + 1 := by rw [(j_t69.2.2.2.2.2.2.2.1 n I_n_t11.1 (by omega)).1]; exact la_n_t11
            have wl_n_t69 : m_wh t69 ((m_md t4)) = 56 := by rw [(j_t69.2.2.2.2.2.2.1 ((m_md t4)) (by omega)).2]; exact wl_n_t11
            clear la_n_t11 wl_n_t11
            have la_m_mdt4_t69 : m_la t69 (m_md t4) = (m_md t9) + 1 := by rw [(j_t69.2.2.2.2.2.2.2.1 (m_md t4) I_m_mdt4_t11.1 (by omega)).1]; exact la_m_mdt4_t11
            have wl_m_mdt4_t69 : m_wh t69 ((m_md t9)) = 13 := by rw [(j_t69.2.2.2.2.2.2.1 ((m_md t9)) (by omega)).2]; exact wl_m_mdt4_t11
            clear la_m_mdt4_t11 wl_m_mdt4_t11
            have f_m_mdt9_t69 : Fz t69 (m_md t9) := j_t69.2.2.2.2.1
            have I_m_mdt11_t69 : Nq t69 (m_md t11) := Nq.chn j_t69 (by omega) I_m_mdt9_t11 (by decide)
            have u_m_mdt11_t69 : Up t69 (m_md t11) := Or.inl j_t69.2.1
            have la_m_mdt9_t69 : m_la t69 (m_md t9) = (m_md t11) + 1 := j_t69.2.2.2.2.2.1
            have wl_m_mdt9_t69 : m_wh t69 (m_md t11) = 89 := j_t69.1
            refine Kp_more C_t69 (by omega) (by omega) (fun t70 C_t70 X_t70 a_t70 b_t70 d_t70 w_t70 u_t70 v_t70 j_t70 l_t70 => ?_)
            have e_t70 := C_t70.2.2.2.1
            rcases w_t70 with ⟨w_t70, y_t70⟩ | ⟨w_t70, wb_t70⟩
            · rw [a_t69] at a_t70
              rw [b_t69] at b_t70
              rw [d_t69] at d_t70
              rw [w_t69] at w_t70
              rw [u_t69] at u_t70
              rw [v_t69] at v_t70
              rw [d_t70] at y_t70
              clear d_t69 w_t69 u_t69 v_t69 e_t69 a_t69 b_t69
              have I_n_t70 := I_n_t69.flat X_t70
              have f_n_t70 := f_n_t69.ex I_n_t69 (X_t70 0)
              have u_n_t70 := u_n_t69.ex I_n_t69 (X_t70 0)
              have I_m_mdt4_t70 := I_m_mdt4_t69.flat X_t70
              have f_m_mdt4_t70 := f_m_mdt4_t69.ex I_m_mdt4_t69 (X_t70 0)
              have I_m_mdt9_t70 := I_m_mdt9_t69.flat X_t70
              have f_m_mdt9_t70 := f_m_mdt9_t69.ex I_m_mdt9_t69 (X_t70 0)
              have u_m_mdt9_t70 := u_m_mdt9_t69.ex I_m_mdt9_t69 (X_t70 0)
              have I_m_mdt11_t70 := I_m_mdt11_t69.flat X_t70
              have u_m_mdt11_t70 := u_m_mdt11_t69.ex I_m_mdt11_t69 (X_t70 0)
              have hv_m_mdt4_t70 : V56 t70 (m_md t4) (m_md t0) n := hv_m_mdt4_t69.flat j_t70
              have x69_t70 : U69 t70 (m_md t9) := U69_flat j_t70 x69_t69
              have la_n_t70 : m_la t70 n = (m_md t4) + 1 := by rw [j_t70.2.2.1]; exact la_n_t69
              have wl_n_t70 : m_wh t70 ((m_md t4)) = 56 := by rw [j_t70.1]; exact wl_n_t69
              clear la_n_t69 wl_n_t69
              have la_m_mdt4_t70 : m_la t70 (m_md t4) = (m_md t9) + 1 := by rw [j_t70.2.2.1]; exact la_m_mdt4_t69
              have wl_m_mdt4_t70 : m_wh t70 ((m_md t9)) = 13 := by rw [j_t70.1]; exact wl_m_mdt4_t69
              clear la_m_mdt4_t69 wl_m_mdt4_t69
              have la_m_mdt9_t70 : m_la t70 (m_md t9) = (m_md t11) + 1 := by rw [j_t70.2.2.1]; exact la_m_mdt9_t69
              have wl_m_mdt9_t70 : m_wh t70 ((m_md t11)) = 89 := by rw [j_t70.1]; exact wl_m_mdt9_t69
              clear la_m_mdt9_t69 wl_m_mdt9_t69
              have z_t71 : m_at t70 < m_ct t70 := lo_ne (Nat.ne_of_gt (show 0 < lo t70 (m_at t70) from by omega))
              refine Kp_at C_t70 (fun t71 C_t71 X_t71 a_t71 b_t71 d_t71 w_t71 u_t71 v_t71 j_t71 l_t71 => ?_)
              have e_t71 := C_t71.2.2.2.1
              rw [a_t70] at a_t71
              rw [b_t70] at b_t71
              rw [d_t70] at d_t71
              rw [w_t70] at w_t71
              rw [u_t70] at u_t71
              rw [v_t70] at v_t71
              rw [a_t70, e_t70] at z_t71
              clear z_t8
              clear d_t70 w_t70 u_t70 v_t70 e_t70 a_t70 b_t70
              have I_n_t71 := I_n_t70.flat X_t71
              have f_n_t71 := f_n_t70.ex I_n_t70 (X_t71 0)
              have u_n_t71 := u_n_t70.ex I_n_t70 (X_t71 0)
              have I_m_mdt4_t71 := I_m_mdt4_t70.flat X_t71
              have f_m_mdt4_t71 := f_m_mdt4_t70.ex I_m_mdt4_t70 (X_t71 0)
              have I_m_mdt9_t71 := I_m_mdt9_t70.flat X_t71
              have f_m_mdt9_t71 := f_m_mdt9_t70.ex I_m_mdt9_t70 (X_t71 0)
              have u_m_mdt9_t71 := u_m_mdt9_t70.ex I_m_mdt9_t70 (X_t71 0)
              have I_m_mdt11_t71 := I_m_mdt11_t70.flat X_t71
              have u_m_mdt11_t71 := u_m_mdt11_t70.ex I_m_mdt11_t70 (X_t71 0)
              have hv_m_mdt4_t71 : V56 t71 (m_md t4) (m_md t0) n := hv_m_mdt4_t70.flat j_t71
              have x69_t71 : U69 t71 (m_md t9) := U69_flat j_t71 x69_t70
              have la_n_t71 : m_la t71 n = (m_md t4) + 1 := by rw [j_t71.2.2.1]; exact la_n_t70
              have wl_n_t71 : m_wh t71 ((m_md t4)) = 56 := by rw [j_t71.1]; exact wl_n_t70
              clear la_n_t70 wl_n_t70
              have la_m_mdt4_t71 : m_la t71 (m_md t4) = (m_md t9) + 1 := by rw [j_t71.2.2.1]; exact la_m_mdt4_t70
              have wl_m_mdt4_t71 : m_wh t71 ((m_md t9)) = 13 := by rw [j_t71.1]; exact wl_m_mdt4_t70
              clear la_m_mdt4_t70 wl_m_mdt4_t70
              have la_m_mdt9_t71 : m_la t71 (m_md t9) = (m_md t11) + 1 := by rw [j_t71.2.2.1]; exact la_m_mdt9_t70
              have wl_m_mdt9_t71 : m_wh t71 ((m_md t11)) = 89 := by rw [j_t71.1]; exact wl_m_mdt9_t70
              clear la_m_mdt9_t70 wl_m_mdt9_t70
              refine Kp_push C_t71 (by omega) (fun t72 C_t72 X_t72 a_t72 b_t72 d_t72 w_t72 u_t72 v_t72 j_t72 l_t72 => ?_)
              have e_t72 := C_t72.2.2.2.1
              rw [a_t71] at a_t72
              rw [b_t71] at b_t72
              rw [d_t71] at d_t72
              rw [w_t71] at w_t72
              rw [u_t71] at u_t72
              rw [v_t71] at v_t72
              clear d_t71 w_t71 u_t71 v_t71 e_t71 a_t71 b_t71
              have I_n_t72 := I_n_t71.flat X_t72
              have f_n_t72 := f_n_t71.ex I_n_t71 (X_t72 0)
              have u_n_t72 := u_n_t71.ex I_n_t71 (X_t72 0)
              have I_m_mdt4_t72 := I_m_mdt4_t71.flat X_t72
              have f_m_mdt4_t72 := f_m_mdt4_t71.ex I_m_mdt4_t71 (X_t72 0)
              have I_m_mdt9_t72 := I_m_mdt9_t71.flat X_t72
              have f_m_mdt9_t72 := f_m_mdt9_t71.ex I_m_mdt9_t71 (X_t72 0)
              have u_m_mdt9_t72 := u_m_mdt9_t71.ex I_m_mdt9_t71 (X_t72 0)
              have I_m_mdt11_t72 := I_m_mdt11_t71.flat X_t72
              have u_m_mdt11_t72 := u_m_mdt11_t71.ex I_m_mdt11_t71 (X_t72 0)
              have hv_m_mdt4_t72 : V56 t72 (m_md t4) (m_md t0) n := hv_m_mdt4_t71.flat j_t72
              have x69_t72 : U69 t72 (m_md t9) := U69_flat j_t72 x69_t71
              have la_n_t72 : m_la t72 n = (m_md t4) + 1 := by rw [j_t72.2.2.1]; exact la_n_t71
              have wl_n_t72 : m_wh t72 ((m_md t4)) = 56 := by rw [j_t72.1]; exact wl_n_t71
              clear la_n_t71 wl_n_t71
              have la_m_mdt4_t72 : m_la t72 (m_md t4) = (m_md t9) + 1 := by rw [j_t72.2.2.1]; exact la_m_mdt4_t71
              have wl_m_mdt4_t72 : m_wh t72 ((m_md t9)) = 13 := by rw [j_t72.1]; exact wl_m_mdt4_t71
              clear la_m_mdt4_t71 wl_m_mdt4_t71
              have la_m_mdt9_t72 : m_la t72 (m_md t9) = (m_md t11) + 1 := by rw [j_t72.2.2.1]; exact la_m_mdt9_t71
              have wl_m_mdt9_t72 : m_wh t72 ((m_md t11)) = 89 := by rw [j_t72.1]; exact wl_m_mdt9_t71
              clear la_m_mdt9_t71 wl_m_mdt9_t71
              refine Ok_bnc ?_
              try unfold b_X6_expression
              refine Kp_push C_t72 (by omega) (fun t74 C_t74 X_t74 a_t74 b_t74 d_t74 w_t74 u_t74 v_t74 j_t74 l_t74 => ?_)
              have e_t74 := C_t74.2.2.2.1
              rw [a_t72] at a_t74
              rw [b_t72] at b_t74
              rw [d_t72] at d_t74
              rw [w_t72] at w_t74
              rw [u_t72] at u_t74
              rw [v_t72] at v_t74
              clear d_t72 w_t72 u_t72 v_t72 e_t72 a_t72 b_t72
              have I_n_t74 := I_n_t72.flat X_t74
              have f_n_t74 := f_n_t72.ex I_n_t72 (X_t74 0)
              have u_n_t74 := u_n_t72.ex I_n_t72 (X_t74 0)
              have I_m_mdt4_t74 := I_m_mdt4_t72.flat X_t74
              have f_m_mdt4_t74 := f_m_mdt4_t72.ex I_m_mdt4_t72 (X_t74 0)
              have I_m_mdt9_t74 := I_m_mdt9_t72.flat X_t74
              have f_m_mdt9_t74 := f_m_mdt9_t72.ex I_m_mdt9_t72 (X_t74 0)
              have u_m_mdt9_t74 := u_m_mdt9_t72.ex I_m_mdt9_t72 (X_t74 0)
              have I_m_mdt11_t74 := I_m_mdt11_t72.flat X_t74
              have u_m_mdt11_t74 := u_m_mdt11_t72.ex I_m_mdt11_t72 (X_t74 0)
              have hv_m_mdt4_t74 : V56 t74 (m_md t4) (m_md t0) n := hv_m_mdt4_t72.flat j_t74
              have x69_t74 : U69 t74 (m_md t9) := U69_flat j_t74 x69_t72
              have la_n_t74 : m_la t74 n = (m_md t4) + 1 := by rw [j_t74.2.2.1]; exact la_n_t72
              have wl_n_t74 : m_wh t74 ((m_md t4)) = 56 := by rw [j_t74.1]; exact wl_n_t72
              clear la_n_t72 wl_n_t72
              have la_m_mdt4_t74 : m_la t74 (m_md t4) = (m_md t9) + 1 := by rw [j_t74.2.2.1]; exact la_m_mdt4_t72
              have wl_m_mdt4_t74 : m_wh t74 ((m_md t9)) = 13 := by rw [j_t74.1]; exact wl_m_mdt4_t72
              clear la_m_mdt4_t72 wl_m_mdt4_t72
              have la_m_mdt9_t74 : m_la t74 (m_md t9) = (m_md t11) + 1 := by rw [j_t74.2.2.1]; exact la_m_mdt9_t72
              have wl_m_mdt9_t74 : m_wh t74 ((m_md t11)) = 89 := by rw [j_t74.1]; exact wl_m_mdt9_t72
              clear la_m_mdt9_t72 wl_m_mdt9_t72
              refine Kp_push C_t74 (by omega) (fun t75 C_t75 X_t75 a_t75 b_t75 d_t75 w_t75 u_t75 v_t75 j_t75 l_t75 => ?_)
              have e_t75 := C_t75.2.2.2.1
              rw [a_t74] at a_t75
              rw [b_t74] at b_t75
              rw [d_t74] at d_t75
              rw [w_t74] at w_t75
              rw [u_t74] at u_t75
              rw [v_t74] at v_t75
              clear d_t74 w_t74 u_t74 v_t74 e_t74 a_t74 b_t74
              have I_n_t75 := I_n_t74.flat X_t75
              have f_n_t75 := f_n_t74.ex I_n_t74 (X_t75 0)
              have u_n_t75 := u_n_t74.ex I_n_t74 (X_t75 0)
              have I_m_mdt4_t75 := I_m_mdt4_t74.flat X_t75
              have f_m_mdt4_t75 := f_m_mdt4_t74.ex I_m_mdt4_t74 (X_t75 0)
              have I_m_mdt9_t75 := I_m_mdt9_t74.flat X_t75
              have f_m_mdt9_t75 := f_m_mdt9_t74.ex I_m_mdt9_t74 (X_t75 0)
              have u_m_mdt9_t75 := u_m_mdt9_t74.ex I_m_mdt9_t74 (X_t75 0)
              have I_m_mdt11_t75 := I_m_mdt11_t74.flat X_t75
              have u_m_mdt11_t75 := u_m_mdt11_t74.ex I_m_mdt11_t74 (X_t75 0)
              have hv_m_mdt4_t75 : V56 t75 (m_md t4) (m_md t0) n := hv_m_mdt4_t74.flat j_t75
              have x69_t75 : U69 t75 (m_md t9) := U69_flat j_t75 x69_t74
              have la_n_t75 : m_la t75 n = (m_md t4) + 1 := by rw [j_t75.2.2.1]; exact la_n_t74
              have wl_n_t75 : m_wh t75 ((m_md t4)) = 56 := by rw [j_t75.1]; exact wl_n_t74
              clear la_n_t74 wl_n_t74
              have la_m_mdt4_t75 : m_la t75 (m_md t4) = (m_md t9) + 1 := by rw [j_t75.2.2.1]; exact la_m_mdt4_t74
              have wl_m_mdt4_t75 : m_wh t75 ((m_md t9)) = 13 := by rw [j_t75.1]; exact wl_m_mdt4_t74
              clear la_m_mdt4_t74 wl_m_mdt4_t74
              have la_m_mdt9_t75 : m_la t75 (m_md t9) = (m_md t11) + 1 := by rw [j_t75.2.2.1]; exact la_m_mdt9_t74
              have wl_m_mdt9_t75 : m_wh t75 ((m_md t11)) = 89 := by rw [j_t75.1]; exact wl_m_mdt9_t74
              clear la_m_mdt9_t74 wl_m_mdt9_t74
              refine Ok_ret (show Ok _ _ _ from ?_)
              refine Ok_ret (show Ok _ _ _ from ?_)
              refine Ok_ret (show Ok _ _ _ from ?_)
              have h56 : N56 t75 (m_md t4) [(4, m_md t9, 3), (8, 79, 0), (2, m_md t11, 0 ||| (1 * 256)), (3, m_md t11, 0)] := N56_mk hv_m_mdt4_t75 la_m_mdt4_t75 (by omega) (by omega) (by omega) (by omega) (fun y hy => by cases hy; show m_md t9 ≤ m_md t9; omega) I_n_t75 I_m_mdt9_t75 u_m_mdt9_t75 x69_t75 (Or.inl f_m_mdt9_t75)
              refine Hv_mk (Kv_c (x := (3, m_md t11, 0)) rfl (Kv_c (x := (2, m_md t11, 0 ||| (1 * 256))) rfl (Kv_c (x := (8, 79, 0)) rfl (Kv_c (x := (4, m_md t9, 3)) rfl (Kv_c (x := (56, m_md t4, 2)) rfl hK))))) (C_t75.1.2.2.2.2.2.2 hTt) C_t75 hT (by omega) (by omega) (by omega) ?_ ?_ ?_ (by omega) ?_ ?_ ?_
              · exact ⟨(Io_n (by decide) (by decide) I_m_mdt11_t75.1 I_m_mdt11_t75.2.1 I_m_mdt11_t75.2.2.1 (fun q => absurd q (by decide)) (fun q => absurd q (by decide)) I_m_mdt11_t75.2.2.2), (Nd_0 (by decide) Mo_nil), ⟨(Io_2 (by have := or_256 (b := 1) (show 0 < 256 from by omega); omega) (by have := or_256 (b := 1) (show 0 < 256 from by omega); omega) (by have := or_256 (b := 1) (show 0 < 256 from by omega); omega) I_m_mdt11_t75.1 I_m_mdt11_t75.2.1 I_m_mdt11_t75.2.2.1 I_m_mdt11_t75.2.2.2), (Nd_A (by decide) (Mo_cons (fun q => show m_md t11 ≤ m_md t11 from by omega) Mo_nil) (Or.inr ⟨(3, m_md t11, 0), List.mem_cons_self, rfl, Or.inl rfl⟩)), ⟨(Io_78 (by decide) (by decide) (by decide)), (Nd_x (by decide)), ⟨(Io_n (by decide) (by decide) I_m_mdt9_t75.1 I_m_mdt9_t75.2.1 I_m_mdt9_t75.2.2.1 (fun q => absurd q (by decide)) (fun q => absurd q (by decide)) I_m_mdt9_t75.2.2.2), (Nd_A (by decide) (Mo_cons (fun q => absurd (show nk 8 = true from q) (by decide)) (Mo_cons (fun q => show m_md t9 ≤ m_md t11 from by omega) (Mo_cons (fun q => show m_md t9 ≤ m_md t11 from by omega) Mo_nil))) (Or.inl f_m_mdt9_t75)), ⟨(Io_n (by decide) (by decide) I_m_mdt4_t75.1 I_m_mdt4_t75.2.1 I_m_mdt4_t75.2.2.1 (fun q => absurd q (by decide)) (fun q => absurd q (by decide)) I_m_mdt4_t75.2.2.2), (Nd_56 (Mo_cons (fun q => show m_md t4 ≤ m_md t9 from by omega) (Mo_cons (fun q => absurd (show nk 8 = true from q) (by decide)) (Mo_cons (fun q => show m_md t4 ≤ m_md t11 from by omega) (Mo_cons (fun q => show m_md t4 ≤ m_md t11 from by omega) Mo_nil)))) (fun _ => h56)), Stk_step (N := n) (pop := (42, n, t)) (new := [(56, m_md t4, 2), (4, m_md t9, 3), (8, 79, 0), (2, m_md t11, 0 ||| (1 * 256)), (3, m_md t11, 0)]) F0 C_t75.1.to2 (fun (h : nk 42 = false) => absurd h (by decide)) (fun q _ h => h (42, n, t) rfl) (fun _ => rfl) (fun y hy hk => ⟨rfl, (Mo_cons (fun q => show n ≤ m_md t4 from by omega) (Mo_cons (fun q => show n ≤ m_md t9 from by omega) (Mo_cons (fun q => absurd (show nk 8 = true from q) (by decide)) (Mo_cons (fun q => show n ≤ m_md t11 from by omega) (Mo_cons (fun q => show n ≤ m_md t11 from by omega) Mo_nil))))) y hy hk⟩) (fun (h : 42 = 3 ∨ 42 = 18 ∨ 42 = 41) => absurd h (by decide)) (fun (h : 42 = 18) => absurd h (by decide)) (fun _ h16 => (Or.inr ⟨f_n_t75, (Ab_some (y := (56, m_md t4, 2)) rfl (show n < m_md t4 from by omega)), H50_no la_n_t75 wl_n_t75 (by decide)⟩)) r [] (fun y hy => absurd hy List.not_mem_nil) hS⟩⟩⟩⟩⟩
              · exact (Aj_up (x := (3, m_md t11, 0)) (Aj_up (x := (2, m_md t11, 0 ||| (1 * 256))) (Aj_up (x := (8, 79, 0)) (Aj_up (x := (4, m_md t9, 3)) (Aj_sub (y := (56, m_md t4, 2)) hJ (Nat.le_of_ble_eq_true rfl)) (Or.inr (Nat.le_of_ble_eq_true rfl))) (Or.inr (Nat.le_of_ble_eq_true rfl))) (Or.inl (Nat.le_of_ble_eq_true rfl))) (Or.inr (show 2 < 9 - (0 ||| (1 * 256)) / 256 from by have := or_256 (b := 1) (show 0 < 256 from by omega); omega)))
              · show m_dp t75 = (dlt 3 + (dlt 2 + (dlt 8 + (dlt 4 + (dlt 56 + sD r)))))
                have : dlt 2 = 0 := rfl; have : dlt 3 = 0 := rfl; have : dlt 4 = 0 := rfl; have : dlt 42 = 0 := rfl; have : dlt 56 = 0 := rfl; have : dlt 8 = 1 := rfl; omega
              · show m_rw t75 = (rho 3 + (rho 2 + (rho 8 + (rho 4 + (rho 56 + sR r)))))
                have : rho 2 = 0 := rfl; have : rho 3 = 0 := rfl; have : rho 4 = 0 := rfl; have : rho 42 = 0 := rfl; have : rho 56 = 0 := rfl; have : rho 8 = 0 := rfl; omega
              · show m_md t75 + (mu7 3 + (mu7 2 + (mu7 8 + (mu7 4 + (mu7 56 + sM r))))) ≤ 3 * m_at t75 + 7 * (r.length + 1 + 1 + 1 + 1 + 1) + 10
                have : mu7 2 = 7 := rfl; have : mu7 3 = 5 := rfl; have : mu7 4 = 7 := rfl; have : mu7 42 = 8 := rfl; have : mu7 56 = 7 := rfl; have : mu7 8 = 4 := rfl; omega
              · show (wt 3 + (wt 2 + (wt 8 + (wt 4 + (wt 56 + sW r))))) + 6 * (4096 - m_at t75) + 4 * (600 - (r.length + 1 + 1 + 1 + 1 + 1)) < (wt 42 + sW r) + 6 * (4096 - m_at t0) + 4 * (600 - (r.length + 1))
                have : wt 2 = 5 := rfl; have : wt 3 = 3 := rfl; have : wt 4 = 5 := rfl; have : wt 42 = 5 := rfl; have : wt 56 = 5 := rfl; have : wt 8 = 0 := rfl; omega
            · have w_t70 := Nat.pos_of_ne_zero w_t70
              have I_n_t70 := I_n_t69.flat X_t70
              have f_n_t70 := f_n_t69.ex I_n_t69 (X_t70 0)
              have u_n_t70 := u_n_t69.ex I_n_t69 (X_t70 0)
              have I_m_mdt4_t70 := I_m_mdt4_t69.flat X_t70
              have f_m_mdt4_t70 := f_m_mdt4_t69.ex I_m_mdt4_t69 (X_t70 0)
              have I_m_mdt9_t70 := I_m_mdt9_t69.flat X_t70
              have f_m_mdt9_t70 := f_m_mdt9_t69.ex I_m_mdt9_t69 (X_t70 0)
              have u_m_mdt9_t70 := u_m_mdt9_t69.ex I_m_mdt9_t69 (X_t70 0)
              have I_m_mdt11_t70 := I_m_mdt11_t69.flat X_t70
              have u_m_mdt11_t70 := u_m_mdt11_t69.ex I_m_mdt11_t69 (X_t70 0)
              have hv_m_mdt4_t70 : V56 t70 (m_md t4) (m_md t0) n := hv_m_mdt4_t69.flat j_t70
              have x69_t70 : U69 t70 (m_md t9) := U69_flat j_t70 x69_t69
              have la_n_t70 : m_la t70 n = (m_md t4) + 1 := by rw [j_t70.2.2.1]; exact la_n_t69
              have wl_n_t70 : m_wh t70 ((m_md t4)) = 56 := by rw [j_t70.1]; exact wl_n_t69
              clear la_n_t69 wl_n_t69
              have la_m_mdt4_t70 : m_la t70 (m_md t4) = (m_md t9) + 1 := by rw [j_t70.2.2.1]; exact la_m_mdt4_t69
              have wl_m_mdt4_t70 : m_wh t70 ((m_md t9)) = 13 := by rw [j_t70.1]; exact wl_m_mdt4_t69
              clear la_m_mdt4_t69 wl_m_mdt4_t69
              have la_m_mdt9_t70 : m_la t70 (m_md t9) = (m_md t11) + 1 := by rw [j_t70.2.2.1]; exact la_m_mdt9_t69
              have wl_m_mdt9_t70 : m_wh t70 ((m_md t11)) = 89 := by rw [j_t70.1]; exact wl_m_mdt9_t69
              clear la_m_mdt9_t69 wl_m_mdt9_t69
              refine Kp_at C_t70 (fun t76 C_t76 X_t76 a_t76 b_t76 d_t76 w_t76 u_t76 v_t76 j_t76 l_t76 => ?_)
              have e_t76 := C_t76.2.2.2.1
              have I_n_t76 := I_n_t70.flat X_t76
              have f_n_t76 := f_n_t70.ex I_n_t70 (X_t76 0)
              have u_n_t76 := u_n_t70.ex I_n_t70 (X_t76 0)
              have I_m_mdt4_t76 := I_m_mdt4_t70.flat X_t76
              have f_m_mdt4_t76 := f_m_mdt4_t70.ex I_m_mdt4_t70 (X_t76 0)
              have I_m_mdt9_t76 := I_m_mdt9_t70.flat X_t76
              have f_m_mdt9_t76 := f_m_mdt9_t70.ex I_m_mdt9_t70 (X_t76 0)
              have u_m_mdt9_t76 := u_m_mdt9_t70.ex I_m_mdt9_t70 (X_t76 0)
              have I_m_mdt11_t76 := I_m_mdt11_t70.flat X_t76
              have u_m_mdt11_t76 := u_m_mdt11_t70.ex I_m_mdt11_t70 (X_t76 0)
              have hv_m_mdt4_t76 : V56 t76 (m_md t4) (m_md t0) n := hv_m_mdt4_t70.flat j_t76
              have x69_t76 : U69 t76 (m_md t9) := U69_flat j_t76 x69_t70
              have la_n_t76 : m_la t76 n = (m_md t4) + 1 := by rw [j_t76.2.2.1]; exact la_n_t70
              have wl_n_t76 : m_wh t76 ((m_md t4)) = 56 := by rw [j_t76.1]; exact wl_n_t70
              clear la_n_t70 wl_n_t70
              have la_m_mdt4_t76 : m_la t76 (m_md t4) = (m_md t9) + 1 := by rw [j_t76.2.2.1]; exact la_m_mdt4_t70
              have wl_m_mdt4_t76 : m_wh t76 ((m_md t9)) = 13 := by rw [j_t76.1]; exact wl_m_mdt4_t70
              clear la_m_mdt4_t70 wl_m_mdt4_t70
              have la_m_mdt9_t76 : m_la t76 (m_md t9) = (m_md t11) + 1 := by rw [j_t76.2.2.1]; exact la_m_mdt9_t70
              have wl_m_mdt9_t76 : m_wh t76 ((m_md t11)) = 89 := by rw [j_t76.1]; exact wl_m_mdt9_t70
              clear la_m_mdt9_t70 wl_m_mdt9_t70
              refine Kp_push C_t76 (by omega) (fun t77 C_t77 X_t77 a_t77 b_t77 d_t77 w_t77 u_t77 v_t77 j_t77 l_t77 => ?_)
              have e_t77 := C_t77.2.2.2.1
              have I_n_t77 := I_n_t76.flat X_t77
              have f_n_t77 := f_n_t76.ex I_n_t76 (X_t77 0)
              have u_n_t77 := u_n_t76.ex I_n_t76 (X_t77 0)
              have I_m_mdt4_t77 := I_m_mdt4_t76.flat X_t77
              have f_m_mdt4_t77 := f_m_mdt4_t76.ex I_m_mdt4_t76 (X_t77 0)
              have I_m_mdt9_t77 := I_m_mdt9_t76.flat X_t77
              have f_m_mdt9_t77 := f_m_mdt9_t76.ex I_m_mdt9_t76 (X_t77 0)
              have u_m_mdt9_t77 := u_m_mdt9_t76.ex I_m_mdt9_t76 (X_t77 0)
              have I_m_mdt11_t77 := I_m_mdt11_t76.flat X_t77
              have u_m_mdt11_t77 := u_m_mdt11_t76.ex I_m_mdt11_t76 (X_t77 0)
              have hv_m_mdt4_t77 : V56 t77 (m_md t4) (m_md t0) n := hv_m_mdt4_t76.flat j_t77
              have x69_t77 : U69 t77 (m_md t9) := U69_flat j_t77 x69_t76
              have la_n_t77 : m_la t77 n = (m_md t4) + 1 := by rw [j_t77.2.2.1]; exact la_n_t76
              have wl_n_t77 : m_wh t77 ((m_md t4)) = 56 := by rw [j_t77.1]; exact wl_n_t76
              clear la_n_t76 wl_n_t76
              have la_m_mdt4_t77 : m_la t77 (m_md t4) = (m_md t9) + 1 := by rw [j_t77.2.2.1]; exact la_m_mdt4_t76
              have wl_m_mdt4_t77 : m_wh t77 ((m_md t9)) = 13 := by rw [j_t77.1]; exact wl_m_mdt4_t76
              clear la_m_mdt4_t76 wl_m_mdt4_t76
              have la_m_mdt9_t77 : m_la t77 (m_md t9) = (m_md t11) + 1 := by rw [j_t77.2.2.1]; exact la_m_mdt9_t76
              have wl_m_mdt9_t77 : m_wh t77 ((m_md t11)) = 89 := by rw [j_t77.1]; exact wl_m_mdt9_t76
              clear la_m_mdt9_t76 wl_m_mdt9_t76
              refine Ok_bnc ?_
              try unfold b_X6_expression
              refine Kp_push C_t77 (by omega) (fun t79 C_t79 X_t79 a_t79 b_t79 d_t79 w_t79 u_t79 v_t79 j_t79 l_t79 => ?_)
              have e_t79 := C_t79.2.2.2.1
              have I_n_t79 := I_n_t77.flat X_t79
              have f_n_t79 := f_n_t77.ex I_n_t77 (X_t79 0)
              have u_n_t79 := u_n_t77.ex I_n_t77 (X_t79 0)
              have I_m_mdt4_t79 := I_m_mdt4_t77.flat X_t79
              have f_m_mdt4_t79 := f_m_mdt4_t77.ex I_m_mdt4_t77 (X_t79 0)
              have I_m_mdt9_t79 := I_m_mdt9_t77.flat X_t79
              have f_m_mdt9_t79 := f_m_mdt9_t77.ex I_m_mdt9_t77 (X_t79 0)
              have u_m_mdt9_t79 := u_m_mdt9_t77.ex I_m_mdt9_t77 (X_t79 0)
              have I_m_mdt11_t79 := I_m_mdt11_t77.flat X_t79
              have u_m_mdt11_t79 := u_m_mdt11_t77.ex I_m_mdt11_t77 (X_t79 0)
              have hv_m_mdt4_t79 : V56 t79 (m_md t4) (m_md t0) n := hv_m_mdt4_t77.flat j_t79
              have x69_t79 : U69 t79 (m_md t9) := U69_flat j_t79 x69_t77
              have la_n_t79 : m_la t79 n = (m_md t4) + 1 := by rw [j_t79.2.2.1]; exact la_n_t77
              have wl_n_t79 : m_wh t79 ((m_md t4)) = 56 := by rw [j_t79.1]; exact wl_n_t77
              clear la_n_t77 wl_n_t77
              have la_m_mdt4_t79 : m_la t79 (m_md t4) = (m_md t9) + 1 := by rw [j_t79.2.2.1]; exact la_m_mdt4_t77
              have wl_m_mdt4_t79 : m_wh t79 ((m_md t9)) = 13 := by rw [j_t79.1]; exact wl_m_mdt4_t77
              clear la_m_mdt4_t77 wl_m_mdt4_t77
              have la_m_mdt9_t79 : m_la t79 (m_md t9) = (m_md t11) + 1 := by rw [j_t79.2.2.1]; exact la_m_mdt9_t77
              have wl_m_mdt9_t79 : m_wh t79 ((m_md t11)) = 89 := by rw [j_t79.1]; exact wl_m_mdt9_t77
              clear la_m_mdt9_t77 wl_m_mdt9_t77
              refine Kp_push C_t79 (by omega) (fun t80 C_t80 X_t80 a_t80 b_t80 d_t80 w_t80 u_t80 v_t80 j_t80 l_t80 => ?_)
              have e_t80 := C_t80.2.2.2.1
              have I_n_t80 := I_n_t79.flat X_t80
              have f_n_t80 := f_n_t79.ex I_n_t79 (X_t80 0)
              have u_n_t80 := u_n_t79.ex I_n_t79 (X_t80 0)
              have I_m_mdt4_t80 := I_m_mdt4_t79.flat X_t80
              have f_m_mdt4_t80 := f_m_mdt4_t79.ex I_m_mdt4_t79 (X_t80 0)
              have I_m_mdt9_t80 := I_m_mdt9_t79.flat X_t80
              have f_m_mdt9_t80 := f_m_mdt9_t79.ex I_m_mdt9_t79 (X_t80 0)
              have u_m_mdt9_t80 := u_m_mdt9_t79.ex I_m_mdt9_t79 (X_t80 0)
              have I_m_mdt11_t80 := I_m_mdt11_t79.flat X_t80
              have u_m_mdt11_t80 := u_m_mdt11_t79.ex I_m_mdt11_t79 (X_t80 0)
              have hv_m_mdt4_t80 : V56 t80 (m_md t4) (m_md t0) n := hv_m_mdt4_t79.flat j_t80
              have x69_t80 : U69 t80 (m_md t9) := U69_flat j_t80 x69_t79
              have la_n_t80 : m_la t80 n = (m_md t4) + 1 := by rw [j_t80.2.2.1]; exact la_n_t79
              have wl_n_t80 : m_wh t80 ((m_md t4)) = 56 := by rw [j_t80.1]; exact wl_n_t79
              clear la_n_t79 wl_n_t79
              have la_m_mdt4_t80 : m_la t80 (m_md t4) = (m_md t9) + 1 := by rw [j_t80.2.2.1]; exact la_m_mdt4_t79
              have wl_m_mdt4_t80 : m_wh t80 ((m_md t9)) = 13 := by rw [j_t80.1]; exact wl_m_mdt4_t79
              clear la_m_mdt4_t79 wl_m_mdt4_t79
              have la_m_mdt9_t80 : m_la t80 (m_md t9) = (m_md t11) + 1 := by rw [j_t80.2.2.1]; exact la_m_mdt9_t79
              have wl_m_mdt9_t80 : m_wh t80 ((m_md t11)) = 89 := by rw [j_t80.1]; exact wl_m_mdt9_t79
              clear la_m_mdt9_t79 wl_m_mdt9_t79
              refine Ok_ret (show Ok _ _ _ from ?_)
              refine Ok_ret (show Ok _ _ _ from ?_)
              refine Ok_ret (show Ok _ _ _ from ?_)
              exact Or.inl ⟨Nat.ne_of_gt (show 0 < m_wr t80 from by omega), by omega, by omega, C_t80.2.2.2.2.2, by omega⟩
          · refine Ok_ife (Nat.lt_trans (lo_lt (C_t11.tk hT) _) (by decide)) (by decide) (fun q81 => ?_) (fun q81 => ?_)
            · refine Kp_child C_t11 I_m_mdt9_t11.1 I_m_mdt9_t11.2.1 I_m_mdt9_t11.2.2.1 (by omega) (by omega) (by decide) (by decide) (fun t82 C_t82 X_t82 a_t82 b_t82 d_t82 w_t82 u_t82 v_t82 j_t82 l_t82 => ?_)
              have e_t82 := C_t82.2.2.2.1
              rw [a_t11] at a_t82
              rw [b_t11] at b_t82
              rw [d_t11] at d_t82
              rw [w_t11] at w_t82
              rw [u_t11] at u_t82
              rw [v_t11] at v_t82
              clear d_t11 w_t11 u_t11 v_t11 e_t11 a_t11
              have I_n_t82 := I_n_t11.chd X_t82 j_t82
              have f_n_t82 := f_n_t11.ex I_n_t11 (X_t82 0 (Nat.zero_le _))
              have u_n_t82 := u_n_t11.ex I_n_t11 (X_t82 0 (Nat.zero_le _))
              have I_m_mdt4_t82 := I_m_mdt4_t11.chd X_t82 j_t82
              have f_m_mdt4_t82 := f_m_mdt4_t11.ex I_m_mdt4_t11 (X_t82 0 (Nat.zero_le _))
              have I_m_mdt9_t82 := I_m_mdt9_t11.chd X_t82 j_t82
              have u_m_mdt9_t82 := u_m_mdt9_t11.ex I_m_mdt9_t11 (X_t82 0 (Nat.zero_le _))
              have hv_m_mdt4_t82 : V56 t82 (m_md t4) (m_md t0) n := hv_m_mdt4_t11.chd I_m_mdt4_t11.1 j_t82
              have x69_t82 : U69 t82 (m_md t9) := U69_ch j_t82 (by decide)
              have la_n_t82 : m_la t82 n = (m_md t4) + 1 := by rw [(j_t82.2.2.2.2.2.2.2.1 n I_n_t11.1 (by omega)).1]; exact la_n_t11
              have wl_n_t82 : m_wh t82 ((m_md t4)) = 56 := by rw [(j_t82.2.2.2.2.2.2.1 ((m_md t4)) (by omega)).2]; exact wl_n_t11
              clear la_n_t11 wl_n_t11
              have la_m_mdt4_t82 : m_la t82 (m_md t4) = (m_md t9) + 1 := by rw [(j_t82.2.2.2.2.2.2.2.1 (m_md t4) I_m_mdt4_t11.1 (by omega)).1]; exact la_m_mdt4_t11
              have wl_m_mdt4_t82 : m_wh t82 ((m_md t9)) = 13 := by rw [(j_t82.2.2.2.2.2.2.1 ((m_md t9)) (by omega)).2]; exact wl_m_mdt4_t11
              clear la_m_mdt4_t11 wl_m_mdt4_t11
              have f_m_mdt9_t82 : Fz t82 (m_md t9) := j_t82.2.2.2.2.1
              have I_m_mdt11_t82 : Nq t82 (m_md t11) := Nq.chn j_t82 (by omega) I_m_mdt9_t11 (by decide)
              have u_m_mdt11_t82 : Up t82 (m_md t11) := Or.inl j_t82.2.1
              have la_m_mdt9_t82 : m_la t82 (m_md t9) = (m_md t11) + 1 := j_t82.2.2.2.2.2.1
              have wl_m_mdt9_t82 : m_wh t82 (m_md t11) = 29 := j_t82.1
              refine Kp_more C_t82 (by omega) (by omega) (fun t83 C_t83 X_t83 a_t83 b_t83 d_t83 w_t83 u_t83 v_t83 j_t83 l_t83 => ?_)
              have e_t83 := C_t83.2.2.2.1
              rcases w_t83 with ⟨w_t83, y_t83⟩ | ⟨w_t83, wb_t83⟩
              · rw [a_t82] at a_t83
                rw [b_t82] at b_t83
                rw [d_t82] at d_t83
                rw [w_t82] at w_t83
                rw [u_t82] at u_t83
                rw [v_t82] at v_t83
                rw [d_t83] at y_t83
                clear d_t82 w_t82 u_t82 v_t82 e_t82 a_t82 b_t82
                have I_n_t83 := I_n_t82.flat X_t83
                have f_n_t83 := f_n_t82.ex I_n_t82 (X_t83 0)
                have u_n_t83 := u_n_t82.ex I_n_t82 (X_t83 0)
                have I_m_mdt4_t83 := I_m_mdt4_t82.flat X_t83
                have f_m_mdt4_t83 := f_m_mdt4_t82.ex I_m_mdt4_t82 (X_t83 0)
                have I_m_mdt9_t83 := I_m_mdt9_t82.flat X_t83
                have f_m_mdt9_t83 := f_m_mdt9_t82.ex I_m_mdt9_t82 (X_t83 0)
                have u_m_mdt9_t83 := u_m_mdt9_t82.ex I_m_mdt9_t82 (X_t83 0)
                have I_m_mdt11_t83 := I_m_mdt11_t82.flat X_t83
                have u_m_mdt11_t83 := u_m_mdt11_t82.ex I_m_mdt11_t82 (X_t83 0)
                have hv_m_mdt4_t83 : V56 t83 (m_md t4) (m_md t0) n := hv_m_mdt4_t82.flat j_t83
                have x69_t83 : U69 t83 (m_md t9) := U69_flat j_t83 x69_t82
                have la_n_t83 : m_la t83 n = (m_md t4) + 1 := by rw [j_t83.2.2.1]; exact la_n_t82
                have wl_n_t83 : m_wh t83 ((m_md t4)) = 56 := by rw [j_t83.1]; exact wl_n_t82
                clear la_n_t82 wl_n_t82
                have la_m_mdt4_t83 : m_la t83 (m_md t4) = (m_md t9) + 1 := by rw [j_t83.2.2.1]; exact la_m_mdt4_t82
                have wl_m_mdt4_t83 : m_wh t83 ((m_md t9)) = 13 := by rw [j_t83.1]; exact wl_m_mdt4_t82
                clear la_m_mdt4_t82 wl_m_mdt4_t82
                have la_m_mdt9_t83 : m_la t83 (m_md t9) = (m_md t11) + 1 := by rw [j_t83.2.2.1]; exact la_m_mdt9_t82
                have wl_m_mdt9_t83 : m_wh t83 ((m_md t11)) = 29 := by rw [j_t83.1]; exact wl_m_mdt9_t82
                clear la_m_mdt9_t82 wl_m_mdt9_t82
                have z_t84 : m_at t83 < m_ct t83 := lo_ne (Nat.ne_of_gt (show 0 < lo t83 (m_at t83) from by omega))
                refine Kp_at C_t83 (fun t84 C_t84 X_t84 a_t84 b_t84 d_t84 w_t84 u_t84 v_t84 j_t84 l_t84 => ?_)
                have e_t84 := C_t84.2.2.2.1
                rw [a_t83] at a_t84
                rw [b_t83] at b_t84
                rw [d_t83] at d_t84
                rw [w_t83] at w_t84
                rw [u_t83] at u_t84
                rw [v_t83] at v_t84
                rw [a_t83, e_t83] at z_t84
                clear z_t8
                clear d_t83 w_t83 u_t83 v_t83 e_t83 a_t83 b_t83
                have I_n_t84 := I_n_t83.flat X_t84
                have f_n_t84 := f_n_t83.ex I_n_t83 (X_t84 0)
                have u_n_t84 := u_n_t83.ex I_n_t83 (X_t84 0)
                have I_m_mdt4_t84 := I_m_mdt4_t83.flat X_t84
                have f_m_mdt4_t84 := f_m_mdt4_t83.ex I_m_mdt4_t83 (X_t84 0)
                have I_m_mdt9_t84 := I_m_mdt9_t83.flat X_t84
                have f_m_mdt9_t84 := f_m_mdt9_t83.ex I_m_mdt9_t83 (X_t84 0)
                have u_m_mdt9_t84 := u_m_mdt9_t83.ex I_m_mdt9_t83 (X_t84 0)
                have I_m_mdt11_t84 := I_m_mdt11_t83.flat X_t84
                have u_m_mdt11_t84 := u_m_mdt11_t83.ex I_m_mdt11_t83 (X_t84 0)
                have hv_m_mdt4_t84 : V56 t84 (m_md t4) (m_md t0) n := hv_m_mdt4_t83.flat j_t84
                have x69_t84 : U69 t84 (m_md t9) := U69_flat j_t84 x69_t83
                have la_n_t84 : m_la t84 n = (m_md t4) + 1 := by rw [j_t84.2.2.1]; exact la_n_t83
                have wl_n_t84 : m_wh t84 ((m_md t4)) = 56 := by rw [j_t84.1]; exact wl_n_t83
                clear la_n_t83 wl_n_t83
                have la_m_mdt4_t84 : m_la t84 (m_md t4) = (m_md t9) + 1 := by rw [j_t84.2.2.1]; exact la_m_mdt4_t83
                have wl_m_mdt4_t84 : m_wh t84 ((m_md t9)) = 13 := by rw [j_t84.1]; exact wl_m_mdt4_t83
                clear la_m_mdt4_t83 wl_m_mdt4_t83
                have la_m_mdt9_t84 : m_la t84 (m_md t9) = (m_md t11) + 1 := by rw [j_t84.2.2.1]; exact la_m_mdt9_t83
                have wl_m_mdt9_t84 : m_wh t84 ((m_md t11)) = 29 := by rw [j_t84.1]; exact wl_m_mdt9_t83
                clear la_m_mdt9_t83 wl_m_mdt9_t83
                refine Kp_push C_t84 (by omega) (fun t85 C_t85 X_t85 a_t85 b_t85 d_t85 w_t85 u_t85 v_t85 j_t85 l_t85 => ?_)
                have e_t85 := C_t85.2.2.2.1
                rw [a_t84] at a_t85
                rw [b_t84] at b_t85
                rw [d_t84] at d_t85
                rw [w_t84] at w_t85
                rw [u_t84] at u_t85
                rw [v_t84] at v_t85
                clear d_t84 w_t84 u_t84 v_t84 e_t84 a_t84 b_t84
                have I_n_t85 := I_n_t84.flat X_t85
                have f_n_t85 := f_n_t84.ex I_n_t84 (X_t85 0)
                have u_n_t85 := u_n_t84.ex I_n_t84 (X_t85 0)
                have I_m_mdt4_t85 := I_m_mdt4_t84.flat X_t85
                have f_m_mdt4_t85 := f_m_mdt4_t84.ex I_m_mdt4_t84 (X_t85 0)
                have I_m_mdt9_t85 := I_m_mdt9_t84.flat X_t85
                have f_m_mdt9_t85 := f_m_mdt9_t84.ex I_m_mdt9_t84 (X_t85 0)
                have u_m_mdt9_t85 := u_m_mdt9_t84.ex I_m_mdt9_t84 (X_t85 0)
                have I_m_mdt11_t85 := I_m_mdt11_t84.flat X_t85
                have u_m_mdt11_t85 := u_m_mdt11_t84.ex I_m_mdt11_t84 (X_t85 0)
                have hv_m_mdt4_t85 : V56 t85 (m_md t4) (m_md t0) n := hv_m_mdt4_t84.flat j_t85
                have x69_t85 : U69 t85 (m_md t9) := U69_flat j_t85 x69_t84
                have la_n_t85 : m_la t85 n = (m_md t4) + 1 := by rw [j_t85.2.2.1]; exact la_n_t84
                have wl_n_t85 : m_wh t85 ((m_md t4)) = 56 := by rw [j_t85.1]; exact wl_n_t84
                clear la_n_t84 wl_n_t84
                have la_m_mdt4_t85 : m_la t85 (m_md t4) = (m_md t9) + 1 := by rw [j_t85.2.2.1]; exact la_m_mdt4_t84
                have wl_m_mdt4_t85 : m_wh t85 ((m_md t9)) = 13 := by rw [j_t85.1]; exact wl_m_mdt4_t84
                clear la_m_mdt4_t84 wl_m_mdt4_t84
                have la_m_mdt9_t85 : m_la t85 (m_md t9) = (m_md t11) + 1 := by rw [j_t85.2.2.1]; exact la_m_mdt9_t84
                have wl_m_mdt9_t85 : m_wh t85 ((m_md t11)) = 29 := by rw [j_t85.1]; exact wl_m_mdt9_t84
                clear la_m_mdt9_t84 wl_m_mdt9_t84
                refine Kp_push C_t85 (by omega) (fun t86 C_t86 X_t86 a_t86 b_t86 d_t86 w_t86 u_t86 v_t86 j_t86 l_t86 => ?_)
                have e_t86 := C_t86.2.2.2.1
                rw [a_t85] at a_t86
                rw [b_t85] at b_t86
                rw [d_t85] at d_t86
                rw [w_t85] at w_t86
                rw [u_t85] at u_t86
                rw [v_t85] at v_t86
                clear d_t85 w_t85 u_t85 v_t85 e_t85 a_t85 b_t85
                have I_n_t86 := I_n_t85.flat X_t86
                have f_n_t86 := f_n_t85.ex I_n_t85 (X_t86 0)
                have u_n_t86 := u_n_t85.ex I_n_t85 (X_t86 0)
                have I_m_mdt4_t86 := I_m_mdt4_t85.flat X_t86
                have f_m_mdt4_t86 := f_m_mdt4_t85.ex I_m_mdt4_t85 (X_t86 0)
                have I_m_mdt9_t86 := I_m_mdt9_t85.flat X_t86
                have f_m_mdt9_t86 := f_m_mdt9_t85.ex I_m_mdt9_t85 (X_t86 0)
                have u_m_mdt9_t86 := u_m_mdt9_t85.ex I_m_mdt9_t85 (X_t86 0)
                have I_m_mdt11_t86 := I_m_mdt11_t85.flat X_t86
                have u_m_mdt11_t86 := u_m_mdt11_t85.ex I_m_mdt11_t85 (X_t86 0)
                have hv_m_mdt4_t86 : V56 t86 (m_md t4) (m_md t0) n := hv_m_mdt4_t85.flat j_t86
                have x69_t86 : U69 t86 (m_md t9) := U69_flat j_t86 x69_t85
                have la_n_t86 : m_la t86 n = (m_md t4) + 1 := by rw [j_t86.2.2.1]; exact la_n_t85
                have wl_n_t86 : m_wh t86 ((m_md t4)) = 56 := by rw [j_t86.1]; exact wl_n_t85
                clear la_n_t85 wl_n_t85
                have la_m_mdt4_t86 : m_la t86 (m_md t4) = (m_md t9) + 1 := by rw [j_t86.2.2.1]; exact la_m_mdt4_t85
                have wl_m_mdt4_t86 : m_wh t86 ((m_md t9)) = 13 := by rw [j_t86.1]; exact wl_m_mdt4_t85
                clear la_m_mdt4_t85 wl_m_mdt4_t85
                have la_m_mdt9_t86 : m_la t86 (m_md t9) = (m_md t11) + 1 := by rw [j_t86.2.2.1]; exact la_m_mdt9_t85
                have wl_m_mdt9_t86 : m_wh t86 ((m_md t11)) = 29 := by rw [j_t86.1]; exact wl_m_mdt9_t85
                clear la_m_mdt9_t85 wl_m_mdt9_t85
                refine Ok_ret (show Ok _ _ _ from ?_)
                refine Ok_ret (show Ok _ _ _ from ?_)
                have h56 : N56 t86 (m_md t4) [(4, m_md t9, 3), (20, m_md t11, 0), (21, m_md t11, 0)] := N56_mk hv_m_mdt4_t86 la_m_mdt4_t86 (by omega) (by omega) (by omega) (by omega) (fun y hy => by cases hy; show m_md t9 ≤ m_md t9; omega) I_n_t86 I_m_mdt9_t86 u_m_mdt9_t86 x69_t86 (Or.inl f_m_mdt9_t86)
                refine Hv_mk (Kv_c (x := (21, m_md t11, 0)) rfl (Kv_c (x := (20, m_md t11, 0)) rfl (Kv_c (x := (4, m_md t9, 3)) rfl (Kv_c (x := (56, m_md t4, 2)) rfl hK)))) (C_t86.1.2.2.2.2.2.2 hTt) C_t86 hT (by omega) (by omega) (by omega) ?_ ?_ ?_ (by omega) ?_ ?_ ?_
                · exact ⟨(Io_n (by decide) (by decide) I_m_mdt11_t86.1 I_m_mdt11_t86.2.1 I_m_mdt11_t86.2.2.1 (fun q => absurd q (by decide)) (fun q => absurd q (by decide)) I_m_mdt11_t86.2.2.2), (Nd_0 (by decide) Mo_nil), ⟨(Io_n (by decide) (by decide) I_m_mdt11_t86.1 I_m_mdt11_t86.2.1 I_m_mdt11_t86.2.2.1 (fun q => absurd q (by decide)) (fun q => absurd q (by decide)) I_m_mdt11_t86.2.2.2), (Nd_0 (by decide) (Mo_cons (fun q => show m_md t11 ≤ m_md t11 from by omega) Mo_nil)), ⟨(Io_n (by decide) (by decide) I_m_mdt9_t86.1 I_m_mdt9_t86.2.1 I_m_mdt9_t86.2.2.1 (fun q => absurd q (by decide)) (fun q => absurd q (by decide)) I_m_mdt9_t86.2.2.2), (Nd_A (by decide) (Mo_cons (fun q => show m_md t9 ≤ m_md t11 from by omega) (Mo_cons (fun q => show m_md t9 ≤ m_md t11 from by omega) Mo_nil)) (Or.inl f_m_mdt9_t86)), ⟨(Io_n (by decide) (by decide) I_m_mdt4_t86.1 I_m_mdt4_t86.2.1 I_m_mdt4_t86.2.2.1 (fun q => absurd q (by decide)) (fun q => absurd q (by decide)) I_m_mdt4_t86.2.2.2), (Nd_56 (Mo_cons (fun q => show m_md t4 ≤ m_md t9 from by omega) (Mo_cons (fun q => show m_md t4 ≤ m_md t11 from by omega) (Mo_cons (fun q => show m_md t4 ≤ m_md t11 from by omega) Mo_nil))) (fun _ => h56)), Stk_step (N := n) (pop := (42, n, t)) (new := [(56, m_md t4, 2), (4, m_md t9, 3), (20, m_md t11, 0), (21, m_md t11, 0)]) F0 C_t86.1.to2 (fun (h : nk 42 = false) => absurd h (by decide)) (fun q _ h => h (42, n, t) rfl) (fun _ => rfl) (fun y hy hk => ⟨rfl, (Mo_cons (fun q => show n ≤ m_md t4 from by omega) (Mo_cons (fun q => show n ≤ m_md t9 from by omega) (Mo_cons (fun q => show n ≤ m_md t11 from by omega) (Mo_cons (fun q => show n ≤ m_md t11 from by omega) Mo_nil)))) y hy hk⟩) (fun (h : 42 = 3 ∨ 42 = 18 ∨ 42 = 41) => absurd h (by decide)) (fun (h : 42 = 18) => absurd h (by decide)) (fun _ h16 => (Or.inr ⟨f_n_t86, (Ab_some (y := (56, m_md t4, 2)) rfl (show n < m_md t4 from by omega)), H50_no la_n_t86 wl_n_t86 (by decide)⟩)) r [] (fun y hy => absurd hy List.not_mem_nil) hS⟩⟩⟩⟩
                · exact (Aj_up (x := (21, m_md t11, 0)) (Aj_up (x := (20, m_md t11, 0)) (Aj_up (x := (4, m_md t9, 3)) (Aj_sub (y := (56, m_md t4, 2)) hJ (Nat.le_of_ble_eq_true rfl)) (Or.inr (Nat.le_of_ble_eq_true rfl))) (Or.inr (Nat.le_of_ble_eq_true rfl))) (Or.inl (Nat.le_of_ble_eq_true rfl)))
                · show m_dp t86 = (dlt 21 + (dlt 20 + (dlt 4 + (dlt 56 + sD r))))
                  have : dlt 20 = 1 := rfl; have : dlt 21 = 0 := rfl; have : dlt 4 = 0 := rfl; have : dlt 42 = 0 := rfl; have : dlt 56 = 0 := rfl; omega
                · show m_rw t86 = (rho 21 + (rho 20 + (rho 4 + (rho 56 + sR r))))
                  have : rho 20 = 0 := rfl; have : rho 21 = 0 := rfl; have : rho 4 = 0 := rfl; have : rho 42 = 0 := rfl; have : rho 56 = 0 := rfl; omega
                · show m_md t86 + (mu7 21 + (mu7 20 + (mu7 4 + (mu7 56 + sM r)))) ≤ 3 * m_at t86 + 7 * (r.length + 1 + 1 + 1 + 1) + 10
                  have : mu7 20 = 7 := rfl; have : mu7 21 = 3 := rfl; have : mu7 4 = 7 := rfl; have : mu7 42 = 8 := rfl; have : mu7 56 = 7 := rfl; omega
                · show (wt 21 + (wt 20 + (wt 4 + (wt 56 + sW r)))) + 6 * (4096 - m_at t86) + 4 * (600 - (r.length + 1 + 1 + 1 + 1)) < (wt 42 + sW r) + 6 * (4096 - m_at t0) + 4 * (600 - (r.length + 1))
                  have : wt 20 = 5 := rfl; have : wt 21 = 2 := rfl; have : wt 4 = 5 := rfl; have : wt 42 = 5 := rfl; have : wt 56 = 5 := rfl; omega
              · have w_t83 := Nat.pos_of_ne_zero w_t83
                have I_n_t83 := I_n_t82.flat X_t83
                have f_n_t83 := f_n_t82.ex I_n_t82 (X_t83 0)
                have u_n_t83 := u_n_t82.ex I_n_t82 (X_t83 0)
                have I_m_mdt4_t83 := I_m_mdt4_t82.flat X_t83
                have f_m_mdt4_t83 := f_m_mdt4_t82.ex I_m_mdt4_t82 (X_t83 0)
                have I_m_mdt9_t83 := I_m_mdt9_t82.flat X_t83
                have f_m_mdt9_t83 := f_m_mdt9_t82.ex I_m_mdt9_t82 (X_t83 0)
                have u_m_mdt9_t83 := u_m_mdt9_t82.ex I_m_mdt9_t82 (X_t83 0)
                have I_m_mdt11_t83 := I_m_mdt11_t82.flat X_t83
                have u_m_mdt11_t83 := u_m_mdt11_t82.ex I_m_mdt11_t82 (X_t83 0)
                have hv_m_mdt4_t83 : V56 t83 (m_md t4) (m_md t0) n := hv_m_mdt4_t82.flat j_t83
                have x69_t83 : U69 t83 (m_md t9) := U69_flat j_t83 x69_t82
                have la_n_t83 : m_la t83 n = (m_md t4) + 1 := by rw [j_t83.2.2.1]; exact la_n_t82
                have wl_n_t83 : m_wh t83 ((m_md t4)) = 56 := by rw [j_t83.1]; exact wl_n_t82
                clear la_n_t82 wl_n_t82
                have la_m_mdt4_t83 : m_la t83 (m_md t4) = (m_md t9) + 1 := by rw [j_t83.2.2.1]; exact la_m_mdt4_t82
                have wl_m_mdt4_t83 : m_wh t83 ((m_md t9)) = 13 := by rw [j_t83.1]; exact wl_m_mdt4_t82
                clear la_m_mdt4_t82 wl_m_mdt4_t82
                have la_m_mdt9_t83 : m_la t83 (m_md t9) = (m_md t11) + 1 := by rw [j_t83.2.2.1]; exact la_m_mdt9_t82
                have wl_m_mdt9_t83 : m_wh t83 ((m_md t11)) = 29 := by rw [j_t83.1]; exact wl_m_mdt9_t82
                clear la_m_mdt9_t82 wl_m_mdt9_t82
                refine Kp_at C_t83 (fun t87 C_t87 X_t87 a_t87 b_t87 d_t87 w_t87 u_t87 v_t87 j_t87 l_t87 => ?_)
                have e_t87 := C_t87.2.2.2.1
                have I_n_t87 := I_n_t83.flat X_t87
                have f_n_t87 := f_n_t83.ex I_n_t83 (X_t87 0)
                have u_n_t87 := u_n_t83.ex I_n_t83 (X_t87 0)
                have I_m_mdt4_t87 := I_m_mdt4_t83.flat X_t87
                have f_m_mdt4_t87 := f_m_mdt4_t83.ex I_m_mdt4_t83 (X_t87 0)
                have I_m_mdt9_t87 := I_m_mdt9_t83.flat X_t87
                have f_m_mdt9_t87 := f_m_mdt9_t83.ex I_m_mdt9_t83 (X_t87 0)
                have u_m_mdt9_t87 := u_m_mdt9_t83.ex I_m_mdt9_t83 (X_t87 0)
                have I_m_mdt11_t87 := I_m_mdt11_t83.flat X_t87
                have u_m_mdt11_t87 := u_m_mdt11_t83.ex I_m_mdt11_t83 (X_t87 0)
                have hv_m_mdt4_t87 : V56 t87 (m_md t4) (m_md t0) n := hv_m_mdt4_t83.flat j_t87
                have x69_t87 : U69 t87 (m_md t9) := U69_flat j_t87 x69_t83
                have la_n_t87 : m_la t87 n = (m_md t4) + 1 := by rw [j_t87.2.2.1]; exact la_n_t83
                have wl_n_t87 : m_wh t87 ((m_md t4)) = 56 := by rw [j_t87.1]; exact wl_n_t83
                clear la_n_t83 wl_n_t83
                have la_m_mdt4_t87 : m_la t87 (m_md t4) = (m_md t9) + 1 := by rw [j_t87.2.2.1]; exact la_m_mdt4_t83
                have wl_m_mdt4_t87 : m_wh t87 ((m_md t9)) = 13 := by rw [j_t87.1]; exact wl_m_mdt4_t83
                clear la_m_mdt4_t83 wl_m_mdt4_t83
                have la_m_mdt9_t87 : m_la t87 (m_md t9) = (m_md t11) + 1 := by rw [j_t87.2.2.1]; exact la_m_mdt9_t83
                have wl_m_mdt9_t87 : m_wh t87 ((m_md t11)) = 29 := by rw [j_t87.1]; exact wl_m_mdt9_t83
                clear la_m_mdt9_t83 wl_m_mdt9_t83
                refine Kp_push C_t87 (by omega) (fun t88 C_t88 X_t88 a_t88 b_t88 d_t88 w_t88 u_t88 v_t88 j_t88 l_t88 => ?_)
                have e_t88 := C_t88.2.2.2.1
                have I_n_t88 := I_n_t87.flat X_t88
                have f_n_t88 := f_n_t87.ex I_n_t87 (X_t88 0)
                have u_n_t88 := u_n_t87.ex I_n_t87 (X_t88 0)
                have I_m_mdt4_t88 := I_m_mdt4_t87.flat X_t88
                have f_m_mdt4_t88 := f_m_mdt4_t87.ex I_m_mdt4_t87 (X_t88 0)
                have I_m_mdt9_t88 := I_m_mdt9_t87.flat X_t88
                have f_m_mdt9_t88 := f_m_mdt9_t87.ex I_m_mdt9_t87 (X_t88 0)
                have u_m_mdt9_t88 := u_m_mdt9_t87.ex I_m_mdt9_t87 (X_t88 0)
                have I_m_mdt11_t88 := I_m_mdt11_t87.flat X_t88
                have u_m_mdt11_t88 := u_m_mdt11_t87.ex I_m_mdt11_t87 (X_t88 0)
                have hv_m_mdt4_t88 : V56 t88 (m_md t4) (m_md t0) n := hv_m_mdt4_t87.flat j_t88
                have x69_t88 : U69 t88 (m_md t9) := U69_flat j_t88 x69_t87
                have la_n_t88 : m_la t88 n = (m_md t4) + 1 := by rw [j_t88.2.2.1]; exact la_n_t87
                have wl_n_t88 : m_wh t88 ((m_md t4)) = 56 := by rw [j_t88.1]; exact wl_n_t87
                clear la_n_t87 wl_n_t87
                have la_m_mdt4_t88 : m_la t88 (m_md t4) = (m_md t9) + 1 := by rw [j_t88.2.2.1]; exact la_m_mdt4_t87
                have wl_m_mdt4_t88 : m_wh t88 ((m_md t9)) = 13 := by rw [j_t88.1]; exact wl_m_mdt4_t87
                clear la_m_mdt4_t87 wl_m_mdt4_t87
                have la_m_mdt9_t88 : m_la t88 (m_md t9) = (m_md t11) + 1 := by rw [j_t88.2.2.1]; exact la_m_mdt9_t87
                have wl_m_mdt9_t88 : m_wh t88 ((m_md t11)) = 29 := by rw [j_t88.1]; exact wl_m_mdt9_t87
                clear la_m_mdt9_t87 wl_m_mdt9_t87
                refine Kp_push C_t88 (by omega) (fun t89 C_t89 X_t89 a_t89 b_t89 d_t89 w_t89 u_t89 v_t89 j_t89 l_t89 => ?_)
                have e_t89 := C_t89.2.2.2.1
                have I_n_t89 := I_n_t88.flat X_t89
                have f_n_t89 := f_n_t88.ex I_n_t88 (X_t89 0)
                have u_n_t89 := u_n_t88.ex I_n_t88 (X_t89 0)
                have I_m_mdt4_t89 := I_m_mdt4_t88.flat X_t89
                have f_m_mdt4_t89 := f_m_mdt4_t88.ex I_m_mdt4_t88 (X_t89 0)
                have I_m_mdt9_t89 := I_m_mdt9_t88.flat X_t89
                have f_m_mdt9_t89 := f_m_mdt9_t88.ex I_m_mdt9_t88 (X_t89 0)
                have u_m_mdt9_t89 := u_m_mdt9_t88.ex I_m_mdt9_t88 (X_t89 0)
                have I_m_mdt11_t89 := I_m_mdt11_t88.flat X_t89
                have u_m_mdt11_t89 := u_m_mdt11_t88.ex I_m_mdt11_t88 (X_t89 0)
                have hv_m_mdt4_t89 : V56 t89 (m_md t4) (m_md t0) n := hv_m_mdt4_t88.flat j_t89
                have x69_t89 : U69 t89 (m_md t9) := U69_flat j_t89 x69_t88
                have la_n_t89 : m_la t89 n = (m_md t4) + 1 := by rw [j_t89.2.2.1]; exact la_n_t88
                have wl_n_t89 : m_wh t89 ((m_md t4)) = 56 := by rw [j_t89.1]; exact wl_n_t88
                clear la_n_t88 wl_n_t88
                have la_m_mdt4_t89 : m_la t89 (m_md t4) = (m_md t9) + 1 := by rw [j_t89.2.2.1]; exact la_m_mdt4_t88
                have wl_m_mdt4_t89 : m_wh t89 ((m_md t9)) = 13 := by rw [j_t89.1]; exact wl_m_mdt4_t88
                clear la_m_mdt4_t88 wl_m_mdt4_t88
                have la_m_mdt9_t89 : m_la t89 (m_md t9) = (m_md t11) + 1 := by rw [j_t89.2.2.1]; exact la_m_mdt9_t88
                have wl_m_mdt9_t89 : m_wh t89 ((m_md t11)) = 29 := by rw [j_t89.1]; exact wl_m_mdt9_t88
                clear la_m_mdt9_t88 wl_m_mdt9_t88
                refine Ok_ret (show Ok _ _ _ from ?_)
                refine Ok_ret (show Ok _ _ _ from ?_)
                exact Or.inl ⟨Nat.ne_of_gt (show 0 < m_wr t89 from by omega), by omega, by omega, C_t89.2.2.2.2.2, by omega⟩
            · refine Ok_ife (Nat.lt_trans (lo_lt (C_t11.tk hT) _) (by decide)) (by decide) (fun q90 => ?_) (fun q90 => ?_)
              · refine Kp_push C_t11 (by omega) (fun t91 C_t91 X_t91 a_t91 b_t91 d_t91 w_t91 u_t91 v_t91 j_t91 l_t91 => ?_)
                have e_t91 := C_t91.2.2.2.1
                rw [a_t11] at a_t91
                rw [b_t11] at b_t91
                rw [d_t11] at d_t91
                rw [w_t11] at w_t91
                rw [u_t11] at u_t91
                rw [v_t11] at v_t91
                clear d_t11 w_t11 u_t11 v_t11 e_t11 a_t11 b_t11
                have I_n_t91 := I_n_t11.flat X_t91
                have f_n_t91 := f_n_t11.ex I_n_t11 (X_t91 0)
                have u_n_t91 := u_n_t11.ex I_n_t11 (X_t91 0)
                have I_m_mdt4_t91 := I_m_mdt4_t11.flat X_t91
                have f_m_mdt4_t91 := f_m_mdt4_t11.ex I_m_mdt4_t11 (X_t91 0)
                have I_m_mdt9_t91 := I_m_mdt9_t11.flat X_t91
                have u_m_mdt9_t91 := u_m_mdt9_t11.ex I_m_mdt9_t11 (X_t91 0)
                have hv_m_mdt4_t91 : V56 t91 (m_md t4) (m_md t0) n := hv_m_mdt4_t11.flat j_t91
                have x69_t91 : U69 t91 (m_md t9) := U69_flat j_t91 x69_t11
                have la_n_t91 : m_la t91 n = (m_md t4) + 1 := by rw [j_t91.2.2.1]; exact la_n_t11
                have wl_n_t91 : m_wh t91 ((m_md t4)) = 56 := by rw [j_t91.1]; exact wl_n_t11
                clear la_n_t11 wl_n_t11
                have la_m_mdt4_t91 : m_la t91 (m_md t4) = (m_md t9) + 1 := by rw [j_t91.2.2.1]; exact la_m_mdt4_t11
                have wl_m_mdt4_t91 : m_wh t91 ((m_md t9)) = 13 := by rw [j_t91.1]; exact wl_m_mdt4_t11
                clear la_m_mdt4_t11 wl_m_mdt4_t11
                refine Kp_push C_t91 (by omega) (fun t92 C_t92 X_t92 a_t92 b_t92 d_t92 w_t92 u_t92 v_t92 j_t92 l_t92 => ?_)
                have e_t92 := C_t92.2.2.2.1
                rw [a_t91] at a_t92
                rw [b_t91] at b_t92
                rw [d_t91] at d_t92
                rw [w_t91] at w_t92
                rw [u_t91] at u_t92
                rw [v_t91] at v_t92
                clear d_t91 w_t91 u_t91 v_t91 e_t91 a_t91 b_t91
                have I_n_t92 := I_n_t91.flat X_t92
                have f_n_t92 := f_n_t91.ex I_n_t91 (X_t92 0)
                have u_n_t92 := u_n_t91.ex I_n_t91 (X_t92 0)
                have I_m_mdt4_t92 := I_m_mdt4_t91.flat X_t92
                have f_m_mdt4_t92 := f_m_mdt4_t91.ex I_m_mdt4_t91 (X_t92 0)
                have I_m_mdt9_t92 := I_m_mdt9_t91.flat X_t92
                have u_m_mdt9_t92 := u_m_mdt9_t91.ex I_m_mdt9_t91 (X_t92 0)
                have hv_m_mdt4_t92 : V56 t92 (m_md t4) (m_md t0) n := hv_m_mdt4_t91.flat j_t92
                have x69_t92 : U69 t92 (m_md t9) := U69_flat j_t92 x69_t91
                have la_n_t92 : m_la t92 n = (m_md t4) + 1 := by rw [j_t92.2.2.1]; exact la_n_t91
                have wl_n_t92 : m_wh t92 ((m_md t4)) = 56 := by rw [j_t92.1]; exact wl_n_t91
                clear la_n_t91 wl_n_t91
                have la_m_mdt4_t92 : m_la t92 (m_md t4) = (m_md t9) + 1 := by rw [j_t92.2.2.1]; exact la_m_mdt4_t91
                have wl_m_mdt4_t92 : m_wh t92 ((m_md t9)) = 13 := by rw [j_t92.1]; exact wl_m_mdt4_t91
                clear la_m_mdt4_t91 wl_m_mdt4_t91
                refine Ok_ret (show Ok _ _ _ from ?_)
                refine Ok_ret (show Ok _ _ _ from ?_)
                have h56 : N56 t92 (m_md t4) [(4, m_md t9, 3), (5, m_md t9, 3), (18, m_md t9, 1)] := N56_mk hv_m_mdt4_t92 la_m_mdt4_t92 (by omega) (by omega) (by omega) (by omega) (fun y hy => by cases hy; show m_md t9 ≤ m_md t9; omega) I_n_t92 I_m_mdt9_t92 u_m_mdt9_t92 x69_t92 (Or.inr ⟨(18, m_md t9, 1), (List.mem_cons_of_mem _ (List.mem_cons_of_mem _ List.mem_cons_self)), rfl, Or.inr (Or.inl rfl)⟩)
                refine Hv_mk (Kv_c (x := (18, m_md t9, 1)) rfl (Kv_c (x := (5, m_md t9, 3)) rfl (Kv_c (x := (4, m_md t9, 3)) rfl (Kv_c (x := (56, m_md t4, 2)) rfl hK)))) (C_t92.1.2.2.2.2.2.2 hTt) C_t92 hT (by omega) (by omega) (by omega) ?_ ?_ ?_ (by omega) ?_ ?_ ?_
                · exact ⟨(Io_n (by decide) (by decide) I_m_mdt9_t92.1 I_m_mdt9_t92.2.1 I_m_mdt9_t92.2.2.1 (fun q => absurd q (by decide)) (fun q => absurd q (by decide)) I_m_mdt9_t92.2.2.2), (Nd_0 (by decide) Mo_nil), ⟨(Io_n (by decide) (by decide) I_m_mdt9_t92.1 I_m_mdt9_t92.2.1 I_m_mdt9_t92.2.2.1 (fun q => absurd q (by decide)) (fun q => absurd q (by decide)) I_m_mdt9_t92.2.2.2), (Nd_5 (Mo_cons (fun q => show m_md t9 ≤ m_md t9 from by omega) Mo_nil) (Or.inl ⟨1, rfl⟩)), ⟨(Io_n (by decide) (by decide) I_m_mdt9_t92.1 I_m_mdt9_t92.2.1 I_m_mdt9_t92.2.2.1 (fun q => absurd q (by decide)) (fun q => absurd q (by decide)) I_m_mdt9_t92.2.2.2), (Nd_A (by decide) (Mo_cons (fun q => show m_md t9 ≤ m_md t9 from by omega) (Mo_cons (fun q => show m_md t9 ≤ m_md t9 from by omega) Mo_nil)) (Or.inr ⟨(18, m_md t9, 1), (List.mem_cons_of_mem _ List.mem_cons_self), rfl, Or.inr (Or.inl rfl)⟩)), ⟨(Io_n (by decide) (by decide) I_m_mdt4_t92.1 I_m_mdt4_t92.2.1 I_m_mdt4_t92.2.2.1 (fun q => absurd q (by decide)) (fun q => absurd q (by decide)) I_m_mdt4_t92.2.2.2), (Nd_56 (Mo_cons (fun q => show m_md t4 ≤ m_md t9 from by omega) (Mo_cons (fun q => show m_md t4 ≤ m_md t9 from by omega) (Mo_cons (fun q => show m_md t4 ≤ m_md t9 from by omega) Mo_nil))) (fun _ => h56)), Stk_step (N := n) (pop := (42, n, t)) (new := [(56, m_md t4, 2), (4, m_md t9, 3), (5, m_md t9, 3), (18, m_md t9, 1)]) F0 C_t92.1.to2 (fun (h : nk 42 = false) => absurd h (by decide)) (fun q _ h => h (42, n, t) rfl) (fun _ => rfl) (fun y hy hk => ⟨rfl, (Mo_cons (fun q => show n ≤ m_md t4 from by omega) (Mo_cons (fun q => show n ≤ m_md t9 from by omega) (Mo_cons (fun q => show n ≤ m_md t9 from by omega) (Mo_cons (fun q => show n ≤ m_md t9 from by omega) Mo_nil)))) y hy hk⟩) (fun (h : 42 = 3 ∨ 42 = 18 ∨ 42 = 41) => absurd h (by decide)) (fun (h : 42 = 18) => absurd h (by decide)) (fun _ h16 => (Or.inr ⟨f_n_t92, (Ab_some (y := (56, m_md t4, 2)) rfl (show n < m_md t4 from by omega)), H50_no la_n_t92 wl_n_t92 (by decide)⟩)) r [] (fun y hy => absurd hy List.not_mem_nil) hS⟩⟩⟩⟩
                · exact (Aj_up (x := (18, m_md t9, 1)) (Aj_up (x := (5, m_md t9, 3)) (Aj_up (x := (4, m_md t9, 3)) (Aj_sub (y := (56, m_md t4, 2)) hJ (Nat.le_of_ble_eq_true rfl)) (Or.inr (Nat.le_of_ble_eq_true rfl))) (Or.inr (Nat.le_of_ble_eq_true rfl))) (Or.inr (Nat.le_of_ble_eq_true rfl)))
                · show m_dp t92 = (dlt 18 + (dlt 5 + (dlt 4 + (dlt 56 + sD r))))
                  have : dlt 18 = 0 := rfl; have : dlt 4 = 0 := rfl; have : dlt 42 = 0 := rfl; have : dlt 5 = 0 := rfl; have : dlt 56 = 0 := rfl; omega
                · show m_rw t92 = (rho 18 + (rho 5 + (rho 4 + (rho 56 + sR r))))
                  have : rho 18 = 0 := rfl; have : rho 4 = 0 := rfl; have : rho 42 = 0 := rfl; have : rho 5 = 0 := rfl; have : rho 56 = 0 := rfl; omega
                · show m_md t92 + (mu7 18 + (mu7 5 + (mu7 4 + (mu7 56 + sM r)))) ≤ 3 * m_at t92 + 7 * (r.length + 1 + 1 + 1 + 1) + 10
                  have : mu7 18 = 5 := rfl; have : mu7 4 = 7 := rfl; have : mu7 42 = 8 := rfl; have : mu7 5 = 7 := rfl; have : mu7 56 = 7 := rfl; omega
                · show (wt 18 + (wt 5 + (wt 4 + (wt 56 + sW r)))) + 6 * (4096 - m_at t92) + 4 * (600 - (r.length + 1 + 1 + 1 + 1)) < (wt 42 + sW r) + 6 * (4096 - m_at t0) + 4 * (600 - (r.length + 1))
                  have : wt 18 = 0 := rfl; have : wt 4 = 5 := rfl; have : wt 42 = 5 := rfl; have : wt 5 = 5 := rfl; have : wt 56 = 5 := rfl; omega
              · refine Ok_ife (Nat.lt_trans (lo_lt (C_t11.tk hT) _) (by decide)) (by decide) (fun q93 => ?_) (fun q93 => ?_)
                · refine Kp_push C_t11 (by omega) (fun t94 C_t94 X_t94 a_t94 b_t94 d_t94 w_t94 u_t94 v_t94 j_t94 l_t94 => ?_)
                  have e_t94 := C_t94.2.2.2.1
                  rw [a_t11] at a_t94
                  rw [b_t11] at b_t94
                  rw [d_t11] at d_t94
                  rw [w_t11] at w_t94
                  rw [u_t11] at u_t94
                  rw [v_t11] at v_t94
                  clear d_t11 w_t11 u_t11 v_t11 e_t11 a_t11 b_t11
                  have I_n_t94 := I_n_t11.flat X_t94
                  have f_n_t94 := f_n_t11.ex I_n_t11 (X_t94 0)
                  have u_n_t94 := u_n_t11.ex I_n_t11 (X_t94 0)
                  have I_m_mdt4_t94 := I_m_mdt4_t11.flat X_t94
                  have f_m_mdt4_t94 := f_m_mdt4_t11.ex I_m_mdt4_t11 (X_t94 0)
                  have I_m_mdt9_t94 := I_m_mdt9_t11.flat X_t94
                  have u_m_mdt9_t94 := u_m_mdt9_t11.ex I_m_mdt9_t11 (X_t94 0)
                  have hv_m_mdt4_t94 : V56 t94 (m_md t4) (m_md t0) n := hv_m_mdt4_t11.flat j_t94
                  have x69_t94 : U69 t94 (m_md t9) := U69_flat j_t94 x69_t11
                  have la_n_t94 : m_la t94 n = (m_md t4) + 1 := by rw [j_t94.2.2.1]; exact la_n_t11
                  have wl_n_t94 : m_wh t94 ((m_md t4)) = 56 := by rw [j_t94.1]; exact wl_n_t11
                  clear la_n_t11 wl_n_t11
                  have la_m_mdt4_t94 : m_la t94 (m_md t4) = (m_md t9) + 1 := by rw [j_t94.2.2.1]; exact la_m_mdt4_t11
                  have wl_m_mdt4_t94 : m_wh t94 ((m_md t9)) = 13 := by rw [j_t94.1]; exact wl_m_mdt4_t11
                  clear la_m_mdt4_t11 wl_m_mdt4_t11
                  refine Kp_push C_t94 (by omega) (fun t95 C_t95 X_t95 a_t95 b_t95 d_t95 w_t95 u_t95 v_t95 j_t95 l_t95 => ?_)
                  have e_t95 := C_t95.2.2.2.1
                  rw [a_t94] at a_t95
                  rw [b_t94] at b_t95
                  rw [d_t94] at d_t95
                  rw [w_t94] at w_t95
                  rw [u_t94] at u_t95
                  rw [v_t94] at v_t95
                  clear d_t94 w_t94 u_t94 v_t94 e_t94 a_t94 b_t94
                  have I_n_t95 := I_n_t94.flat X_t95
                  have f_n_t95 := f_n_t94.ex I_n_t94 (X_t95 0)
                  have u_n_t95 := u_n_t94.ex I_n_t94 (X_t95 0)
                  have I_m_mdt4_t95 := I_m_mdt4_t94.flat X_t95
                  have f_m_mdt4_t95 := f_m_mdt4_t94.ex I_m_mdt4_t94 (X_t95 0)
                  have I_m_mdt9_t95 := I_m_mdt9_t94.flat X_t95
                  have u_m_mdt9_t95 := u_m_mdt9_t94.ex I_m_mdt9_t94 (X_t95 0)
                  have hv_m_mdt4_t95 : V56 t95 (m_md t4) (m_md t0) n := hv_m_mdt4_t94.flat j_t95
                  have x69_t95 : U69 t95 (m_md t9) := U69_flat j_t95 x69_t94
                  have la_n_t95 : m_la t95 n = (m_md t4) + 1 := by rw [j_t95.2.2.1]; exact la_n_t94
                  have wl_n_t95 : m_wh t95 ((m_md t4)) = 56 := by rw [j_t95.1]; exact wl_n_t94
                  clear la_n_t94 wl_n_t94
                  have la_m_mdt4_t95 : m_la t95 (m_md t4) = (m_md t9) + 1 := by rw [j_t95.2.2.1]; exact la_m_mdt4_t94
                  have wl_m_mdt4_t95 : m_wh t95 ((m_md t9)) = 13 := by rw [j_t95.1]; exact wl_m_mdt4_t94
                  clear la_m_mdt4_t94 wl_m_mdt4_t94
                  refine Ok_ret (show Ok _ _ _ from ?_)
                  refine Ok_ret (show Ok _ _ _ from ?_)
                  have h56 : N56 t95 (m_md t4) [(4, m_md t9, 3), (5, m_md t9, 3), (18, m_md t9, 1)] := N56_mk hv_m_mdt4_t95 la_m_mdt4_t95 (by omega) (by omega) (by omega) (by omega) (fun y hy => by cases hy; show m_md t9 ≤ m_md t9; omega) I_n_t95 I_m_mdt9_t95 u_m_mdt9_t95 x69_t95 (Or.inr ⟨(18, m_md t9, 1), (List.mem_cons_of_mem _ (List.mem_cons_of_mem _ List.mem_cons_self)), rfl, Or.inr (Or.inl rfl)⟩)
                  refine Hv_mk (Kv_c (x := (18, m_md t9, 1)) rfl (Kv_c (x := (5, m_md t9, 3)) rfl (Kv_c (x := (4, m_md t9, 3)) rfl (Kv_c (x := (56, m_md t4, 2)) rfl hK)))) (C_t95.1.2.2.2.2.2.2 hTt) C_t95 hT (by omega) (by omega) (by omega) ?_ ?_ ?_ (by omega) ?_ ?_ ?_
                  · exact ⟨(Io_n (by decide) (by decide) I_m_mdt9_t95.1 I_m_mdt9_t95.2.1 I_m_mdt9_t95.2.2.1 (fun q => absurd q (by decide)) (fun q => absurd q (by decide)) I_m_mdt9_t95.2.2.2), (Nd_0 (by decide) Mo_nil), ⟨(Io_n (by decide) (by decide) I_m_mdt9_t95.1 I_m_mdt9_t95.2.1 I_m_mdt9_t95.2.2.1 (fun q => absurd q (by decide)) (fun q => absurd q (by decide)) I_m_mdt9_t95.2.2.2), (Nd_5 (Mo_cons (fun q => show m_md t9 ≤ m_md t9 from by omega) Mo_nil) (Or.inl ⟨1, rfl⟩)), ⟨(Io_n (by decide) (by decide) I_m_mdt9_t95.1 I_m_mdt9_t95.2.1 I_m_mdt9_t95.2.2.1 (fun q => absurd q (by decide)) (fun q => absurd q (by decide)) I_m_mdt9_t95.2.2.2), (Nd_A (by decide) (Mo_cons (fun q => show m_md t9 ≤ m_md t9 from by omega) (Mo_cons (fun q => show m_md t9 ≤ m_md t9 from by omega) Mo_nil)) (Or.inr ⟨(18, m_md t9, 1), (List.mem_cons_of_mem _ List.mem_cons_self), rfl, Or.inr (Or.inl rfl)⟩)), ⟨(Io_n (by decide) (by decide) I_m_mdt4_t95.1 I_m_mdt4_t95.2.1 I_m_mdt4_t95.2.2.1 (fun q => absurd q (by decide)) (fun q => absurd q (by decide)) I_m_mdt4_t95.2.2.2), (Nd_56 (Mo_cons (fun q => show m_md t4 ≤ m_md t9 from by omega) (Mo_cons (fun q => show m_md t4 ≤ m_md t9 from by omega) (Mo_cons (fun q => show m_md t4 ≤ m_md t9 from by omega) Mo_nil))) (fun _ => h56)), Stk_step (N := n) (pop := (42, n, t)) (new := [(56, m_md t4, 2), (4, m_md t9, 3), (5, m_md t9, 3), (18, m_md t9, 1)]) F0 C_t95.1.to2 (fun (h : nk 42 = false) => absurd h (by decide)) (fun q _ h => h (42, n, t) rfl) (fun _ => rfl) (fun y hy hk => ⟨rfl, (Mo_cons (fun q => show n ≤ m_md t4 from by omega) (Mo_cons (fun q => show n ≤ m_md t9 from by omega) (Mo_cons (fun q => show n ≤ m_md t9 from by omega) (Mo_cons (fun q => show n ≤ m_md t9 from by omega) Mo_nil)))) y hy hk⟩) (fun (h : 42 = 3 ∨ 42 = 18 ∨ 42 = 41) => absurd h (by decide)) (fun (h : 42 = 18) => absurd h (by decide)) (fun _ h16 => (Or.inr ⟨f_n_t95, (Ab_some (y := (56, m_md t4, 2)) rfl (show n < m_md t4 from by omega)), H50_no la_n_t95 wl_n_t95 (by decide)⟩)) r [] (fun y hy => absurd hy List.not_mem_nil) hS⟩⟩⟩⟩
                  · exact (Aj_up (x := (18, m_md t9, 1)) (Aj_up (x := (5, m_md t9, 3)) (Aj_up (x := (4, m_md t9, 3)) (Aj_sub (y := (56, m_md t4, 2)) hJ (Nat.le_of_ble_eq_true rfl)) (Or.inr (Nat.le_of_ble_eq_true rfl))) (Or.inr (Nat.le_of_ble_eq_true rfl))) (Or.inr (Nat.le_of_ble_eq_true rfl)))
                  · show m_dp t95 = (dlt 18 + (dlt 5 + (dlt 4 + (dlt 56 + sD r))))
                    have : dlt 18 = 0 := rfl; have : dlt 4 = 0 := rfl; have : dlt 42 = 0 := rfl; have : dlt 5 = 0 := rfl; have : dlt 56 = 0 := rfl; omega
                  · show m_rw t95 = (rho 18 + (rho 5 + (rho 4 + (rho 56 + sR r))))
                    have : rho 18 = 0 := rfl; have : rho 4 = 0 := rfl; have : rho 42 = 0 := rfl; have : rho 5 = 0 := rfl; have : rho 56 = 0 := rfl; omega
                  · show m_md t95 + (mu7 18 + (mu7 5 + (mu7 4 + (mu7 56 + sM r)))) ≤ 3 * m_at t95 + 7 * (r.length + 1 + 1 + 1 + 1) + 10
                    have : mu7 18 = 5 := rfl; have : mu7 4 = 7 := rfl; have : mu7 42 = 8 := rfl; have : mu7 5 = 7 := rfl; have : mu7 56 = 7 := rfl; omega
                  · show (wt 18 + (wt 5 + (wt 4 + (wt 56 + sW r)))) + 6 * (4096 - m_at t95) + 4 * (600 - (r.length + 1 + 1 + 1 + 1)) < (wt 42 + sW r) + 6 * (4096 - m_at t0) + 4 * (600 - (r.length + 1))
                    have : wt 18 = 0 := rfl; have : wt 4 = 5 := rfl; have : wt 42 = 5 := rfl; have : wt 5 = 5 := rfl; have : wt 56 = 5 := rfl; omega
                · refine Ok_ife (Nat.lt_trans (lo_lt (C_t11.tk hT) _) (by decide)) (by decide) (fun q96 => ?_) (fun q96 => ?_)
                  · refine Kp_push C_t11 (by omega) (fun t97 C_t97 X_t97 a_t97 b_t97 d_t97 w_t97 u_t97 v_t97 j_t97 l_t97 => ?_)
                    have e_t97 := C_t97.2.2.2.1
                    rw [a_t11] at a_t97
                    rw [b_t11] at b_t97
                    rw [d_t11] at d_t97
                    rw [w_t11] at w_t97
                    rw [u_t11] at u_t97
                    rw [v_t11] at v_t97
                    clear d_t11 w_t11 u_t11 v_t11 e_t11 a_t11 b_t11
                    have I_n_t97 := I_n_t11.flat X_t97
                    have f_n_t97 := f_n_t11.ex I_n_t11 (X_t97 0)
                    have u_n_t97 := u_n_t11.ex I_n_t11 (X_t97 0)
                    have I_m_mdt4_t97 := I_m_mdt4_t11.flat X_t97
                    have f_m_mdt4_t97 := f_m_mdt4_t11.ex I_m_mdt4_t11 (X_t97 0)
                    have I_m_mdt9_t97 := I_m_mdt9_t11.flat X_t97
                    have u_m_mdt9_t97 := u_m_mdt9_t11.ex I_m_mdt9_t11 (X_t97 0)
                    have hv_m_mdt4_t97 : V56 t97 (m_md t4) (m_md t0) n := hv_m_mdt4_t11.flat j_t97
                    have x69_t97 : U69 t97 (m_md t9) := U69_flat j_t97 x69_t11
                    have la_n_t97 : m_la t97 n = (m_md t4) + 1 := by rw [j_t97.2.2.1]; exact la_n_t11
                    have wl_n_t97 : m_wh t97 ((m_md t4)) = 56 := by rw [j_t97.1]; exact wl_n_t11
                    clear la_n_t11 wl_n_t11
                    have la_m_mdt4_t97 : m_la t97 (m_md t4) = (m_md t9) + 1 := by rw [j_t97.2.2.1]; exact la_m_mdt4_t11
                    have wl_m_mdt4_t97 : m_wh t97 ((m_md t9)) = 13 := by rw [j_t97.1]; exact wl_m_mdt4_t11
                    clear la_m_mdt4_t11 wl_m_mdt4_t11
                    refine Kp_push C_t97 (by omega) (fun t98 C_t98 X_t98 a_t98 b_t98 d_t98 w_t98 u_t98 v_t98 j_t98 l_t98 => ?_)
                    have e_t98 := C_t98.2.2.2.1
                    rw [a_t97] at a_t98
                    rw [b_t97] at b_t98
                    rw [d_t97] at d_t98
                    rw [w_t97] at w_t98
                    rw [u_t97] at u_t98
                    rw [v_t97] at v_t98
                    clear d_t97 w_t97 u_t97 v_t97 e_t97 a_t97 b_t97
                    have I_n_t98 := I_n_t97.flat X_t98
                    have f_n_t98 := f_n_t97.ex I_n_t97 (X_t98 0)
                    have u_n_t98 := u_n_t97.ex I_n_t97 (X_t98 0)
                    have I_m_mdt4_t98 := I_m_mdt4_t97.flat X_t98
                    have f_m_mdt4_t98 := f_m_mdt4_t97.ex I_m_mdt4_t97 (X_t98 0)
                    have I_m_mdt9_t98 := I_m_mdt9_t97.flat X_t98
                    have u_m_mdt9_t98 := u_m_mdt9_t97.ex I_m_mdt9_t97 (X_t98 0)
                    have hv_m_mdt4_t98 : V56 t98 (m_md t4) (m_md t0) n := hv_m_mdt4_t97.flat j_t98
                    have x69_t98 : U69 t98 (m_md t9) := U69_flat j_t98 x69_t97
                    have la_n_t98 : m_la t98 n = (m_md t4) + 1 := by rw [j_t98.2.2.1]; exact la_n_t97
                    have wl_n_t98 : m_wh t98 ((m_md t4)) = 56 := by rw [j_t98.1]; exact wl_n_t97
                    clear la_n_t97 wl_n_t97
                    have la_m_mdt4_t98 : m_la t98 (m_md t4) = (m_md t9) + 1 := by rw [j_t98.2.2.1]; exact la_m_mdt4_t97
                    have wl_m_mdt4_t98 : m_wh t98 ((m_md t9)) = 13 := by rw [j_t98.1]; exact wl_m_mdt4_t97
                    clear la_m_mdt4_t97 wl_m_mdt4_t97
                    refine Ok_ret (show Ok _ _ _ from ?_)
                    refine Ok_ret (show Ok _ _ _ from ?_)
                    have h56 : N56 t98 (m_md t4) [(4, m_md t9, 3), (5, m_md t9, 3), (18, m_md t9, 1)] := N56_mk hv_m_mdt4_t98 la_m_mdt4_t98 (by omega) (by omega) (by omega) (by omega) (fun y hy => by cases hy; show m_md t9 ≤ m_md t9; omega) I_n_t98 I_m_mdt9_t98 u_m_mdt9_t98 x69_t98 (Or.inr ⟨(18, m_md t9, 1), (List.mem_cons_of_mem _ (List.mem_cons_of_mem _ List.mem_cons_self)), rfl, Or.inr (Or.inl rfl)⟩)
                    refine Hv_mk (Kv_c (x := (18, m_md t9, 1)) rfl (Kv_c (x := (5, m_md t9, 3)) rfl (Kv_c (x := (4, m_md t9, 3)) rfl (Kv_c (x := (56, m_md t4, 2)) rfl hK)))) (C_t98.1.2.2.2.2.2.2 hTt) C_t98 hT (by omega) (by omega) (by omega) ?_ ?_ ?_ (by omega) ?_ ?_ ?_
                    · exact ⟨(Io_n (by decide) (by decide) I_m_mdt9_t98.1 I_m_mdt9_t98.2.1 I_m_mdt9_t98.2.2.1 (fun q => absurd q (by decide)) (fun q => absurd q (by decide)) I_m_mdt9_t98.2.2.2), (Nd_0 (by decide) Mo_nil), ⟨(Io_n (by decide) (by decide) I_m_mdt9_t98.1 I_m_mdt9_t98.2.1 I_m_mdt9_t98.2.2.1 (fun q => absurd q (by decide)) (fun q => absurd q (by decide)) I_m_mdt9_t98.2.2.2), (Nd_5 (Mo_cons (fun q => show m_md t9 ≤ m_md t9 from by omega) Mo_nil) (Or.inl ⟨1, rfl⟩)), ⟨(Io_n (by decide) (by decide) I_m_mdt9_t98.1 I_m_mdt9_t98.2.1 I_m_mdt9_t98.2.2.1 (fun q => absurd q (by decide)) (fun q => absurd q (by decide)) I_m_mdt9_t98.2.2.2), (Nd_A (by decide) (Mo_cons (fun q => show m_md t9 ≤ m_md t9 from by omega) (Mo_cons (fun q => show m_md t9 ≤ m_md t9 from by omega) Mo_nil)) (Or.inr ⟨(18, m_md t9, 1), (List.mem_cons_of_mem _ List.mem_cons_self), rfl, Or.inr (Or.inl rfl)⟩)), ⟨(Io_n (by decide) (by decide) I_m_mdt4_t98.1 I_m_mdt4_t98.2.1 I_m_mdt4_t98.2.2.1 (fun q => absurd q (by decide)) (fun q => absurd q (by decide)) I_m_mdt4_t98.2.2.2), (Nd_56 (Mo_cons (fun q => show m_md t4 ≤ m_md t9 from by omega) (Mo_cons (fun q => show m_md t4 ≤ m_md t9 from by omega) (Mo_cons (fun q => show m_md t4 ≤ m_md t9 from by omega) Mo_nil))) (fun _ => h56)), Stk_step (N := n) (pop := (42, n, t)) (new := [(56, m_md t4, 2), (4, m_md t9, 3), (5, m_md t9, 3), (18, m_md t9, 1)]) F0 C_t98.1.to2 (fun (h : nk 42 = false) => absurd h (by decide)) (fun q _ h => h (42, n, t) rfl) (fun _ => rfl) (fun y hy hk => ⟨rfl, (Mo_cons (fun q => show n ≤ m_md t4 from by omega) (Mo_cons (fun q => show n ≤ m_md t9 from by omega) (Mo_cons (fun q => show n ≤ m_md t9 from by omega) (Mo_cons (fun q => show n ≤ m_md t9 from by omega) Mo_nil)))) y hy hk⟩) (fun (h : 42 = 3 ∨ 42 = 18 ∨ 42 = 41) => absurd h (by decide)) (fun (h : 42 = 18) => absurd h (by decide)) (fun _ h16 => (Or.inr ⟨f_n_t98, (Ab_some (y := (56, m_md t4, 2)) rfl (show n < m_md t4 from by omega)), H50_no la_n_t98 wl_n_t98 (by decide)⟩)) r [] (fun y hy => absurd hy List.not_mem_nil) hS⟩⟩⟩⟩
                    · exact (Aj_up (x := (18, m_md t9, 1)) (Aj_up (x := (5, m_md t9, 3)) (Aj_up (x := (4, m_md t9, 3)) (Aj_sub (y := (56, m_md t4, 2)) hJ (Nat.le_of_ble_eq_true rfl)) (Or.inr (Nat.le_of_ble_eq_true rfl))) (Or.inr (Nat.le_of_ble_eq_true rfl))) (Or.inr (Nat.le_of_ble_eq_true rfl)))
                    · show m_dp t98 = (dlt 18 + (dlt 5 + (dlt 4 + (dlt 56 + sD r))))
                      have : dlt 18 = 0 := rfl; have : dlt 4 = 0 := rfl; have : dlt 42 = 0 := rfl; have : dlt 5 = 0 := rfl; have : dlt 56 = 0 := rfl; omega
                    · show m_rw t98 = (rho 18 + (rho 5 + (rho 4 + (rho 56 + sR r))))
                      have : rho 18 = 0 := rfl; have : rho 4 = 0 := rfl; have : rho 42 = 0 := rfl; have : rho 5 = 0 := rfl; have : rho 56 = 0 := rfl; omega
                    · show m_md t98 + (mu7 18 + (mu7 5 + (mu7 4 + (mu7 56 + sM r)))) ≤ 3 * m_at t98 + 7 * (r.length + 1 + 1 + 1 + 1) + 10
                      have : mu7 18 = 5 := rfl; have : mu7 4 = 7 := rfl; have : mu7 42 = 8 := rfl; have : mu7 5 = 7 := rfl; have : mu7 56 = 7 := rfl; omega
                    · show (wt 18 + (wt 5 + (wt 4 + (wt 56 + sW r)))) + 6 * (4096 - m_at t98) + 4 * (600 - (r.length + 1 + 1 + 1 + 1)) < (wt 42 + sW r) + 6 * (4096 - m_at t0) + 4 * (600 - (r.length + 1))
                      have : wt 18 = 0 := rfl; have : wt 4 = 5 := rfl; have : wt 42 = 5 := rfl; have : wt 5 = 5 := rfl; have : wt 56 = 5 := rfl; omega
                  · refine Ok_ife (Nat.lt_trans (lo_lt (C_t11.tk hT) _) (by decide)) (by decide) (fun q99 => ?_) (fun q99 => ?_)
                    · refine Kp_push C_t11 (by omega) (fun t100 C_t100 X_t100 a_t100 b_t100 d_t100 w_t100 u_t100 v_t100 j_t100 l_t100 => ?_)
                      have e_t100 := C_t100.2.2.2.1
                      rw [a_t11] at a_t100
                      rw [b_t11] at b_t100
                      rw [d_t11] at d_t100
                      rw [w_t11] at w_t100
                      rw [u_t11] at u_t100
                      rw [v_t11] at v_t100
                      clear d_t11 w_t11 u_t11 v_t11 e_t11 a_t11 b_t11
                      have I_n_t100 := I_n_t11.flat X_t100
                      have f_n_t100 := f_n_t11.ex I_n_t11 (X_t100 0)
                      have u_n_t100 := u_n_t11.ex I_n_t11 (X_t100 0)
                      have I_m_mdt4_t100 := I_m_mdt4_t11.flat X_t100
                      have f_m_mdt4_t100 := f_m_mdt4_t11.ex I_m_mdt4_t11 (X_t100 0)
                      have I_m_mdt9_t100 := I_m_mdt9_t11.flat X_t100
                      have u_m_mdt9_t100 := u_m_mdt9_t11.ex I_m_mdt9_t11 (X_t100 0)
                      have hv_m_mdt4_t100 : V56 t100 (m_md t4) (m_md t0) n := hv_m_mdt4_t11.flat j_t100
                      have x69_t100 : U69 t100 (m_md t9) := U69_flat j_t100 x69_t11
                      have la_n_t100 : m_la t100 n = (m_md t4) + 1 := by rw [j_t100.2.2.1]; exact la_n_t11
                      have wl_n_t100 : m_wh t100 ((m_md t4)) = 56 := by rw [j_t100.1]; exact wl_n_t11
                      clear la_n_t11 wl_n_t11
                      have la_m_mdt4_t100 : m_la t100 (m_md t4) = (m_md t9) + 1 := by rw [j_t100.2.2.1]; exact la_m_mdt4_t11
                      have wl_m_mdt4_t100 : m_wh t100 ((m_md t9)) = 13 := by rw [j_t100.1]; exact wl_m_mdt4_t11
                      clear la_m_mdt4_t11 wl_m_mdt4_t11
                      refine Kp_push C_t100 (by omega) (fun t101 C_t101 X_t101 a_t101 b_t101 d_t101 w_t101 u_t101 v_t101 j_t101 l_t101 => ?_)
                      have e_t101 := C_t101.2.2.2.1
                      rw [a_t100] at a_t101
                      rw [b_t100] at b_t101
                      rw [d_t100] at d_t101
                      rw [w_t100] at w_t101
                      rw [u_t100] at u_t101
                      rw [v_t100] at v_t101
                      clear d_t100 w_t100 u_t100 v_t100 e_t100 a_t100 b_t100
                      have I_n_t101 := I_n_t100.flat X_t101
                      have f_n_t101 := f_n_t100.ex I_n_t100 (X_t101 0)
                      have u_n_t101 := u_n_t100.ex I_n_t100 (X_t101 0)
                      have I_m_mdt4_t101 := I_m_mdt4_t100.flat X_t101
                      have f_m_mdt4_t101 := f_m_mdt4_t100.ex I_m_mdt4_t100 (X_t101 0)
                      have I_m_mdt9_t101 := I_m_mdt9_t100.flat X_t101
                      have u_m_mdt9_t101 := u_m_mdt9_t100.ex I_m_mdt9_t100 (X_t101 0)
                      have hv_m_mdt4_t101 : V56 t101 (m_md t4) (m_md t0) n := hv_m_mdt4_t100.flat j_t101
                      have x69_t101 : U69 t101 (m_md t9) := U69_flat j_t101 x69_t100
                      have la_n_t101 : m_la t101 n = (m_md t4) + 1 := by rw [j_t101.2.2.1]; exact la_n_t100
                      have wl_n_t101 : m_wh t101 ((m_md t4)) = 56 := by rw [j_t101.1]; exact wl_n_t100
                      clear la_n_t100 wl_n_t100
                      have la_m_mdt4_t101 : m_la t101 (m_md t4) = (m_md t9) + 1 := by rw [j_t101.2.2.1]; exact la_m_mdt4_t100
                      have wl_m_mdt4_t101 : m_wh t101 ((m_md t9)) = 13 := by rw [j_t101.1]; exact wl_m_mdt4_t100
                      clear la_m_mdt4_t100 wl_m_mdt4_t100
                      refine Ok_ret (show Ok _ _ _ from ?_)
                      refine Ok_ret (show Ok _ _ _ from ?_)
                      have h56 : N56 t101 (m_md t4) [(4, m_md t9, 3), (5, m_md t9, 3), (18, m_md t9, 1)] := N56_mk hv_m_mdt4_t101 la_m_mdt4_t101 (by omega) (by omega) (by omega) (by omega) (fun y hy => by cases hy; show m_md t9 ≤ m_md t9; omega) I_n_t101 I_m_mdt9_t101 u_m_mdt9_t101 x69_t101 (Or.inr ⟨(18, m_md t9, 1), (List.mem_cons_of_mem _ (List.mem_cons_of_mem _ List.mem_cons_self)), rfl, Or.inr (Or.inl rfl)⟩)
                      refine Hv_mk (Kv_c (x := (18, m_md t9, 1)) rfl (Kv_c (x := (5, m_md t9, 3)) rfl (Kv_c (x := (4, m_md t9, 3)) rfl (Kv_c (x := (56, m_md t4, 2)) rfl hK)))) (C_t101.1.2.2.2.2.2.2 hTt) C_t101 hT (by omega) (by omega) (by omega) ?_ ?_ ?_ (by omega) ?_ ?_ ?_
                      · exact ⟨(Io_n (by decide) (by decide) I_m_mdt9_t101.1 I_m_mdt9_t101.2.1 I_m_mdt9_t101.2.2.1 (fun q => absurd q (by decide)) (fun q => absurd q (by decide)) I_m_mdt9_t101.2.2.2), (Nd_0 (by decide) Mo_nil), ⟨(Io_n (by decide) (by decide) I_m_mdt9_t101.1 I_m_mdt9_t101.2.1 I_m_mdt9_t101.2.2.1 (fun q => absurd q (by decide)) (fun q => absurd q (by decide)) I_m_mdt9_t101.2.2.2), (Nd_5 (Mo_cons (fun q => show m_md t9 ≤ m_md t9 from by omega) Mo_nil) (Or.inl ⟨1, rfl⟩)), ⟨(Io_n (by decide) (by decide) I_m_mdt9_t101.1 I_m_mdt9_t101.2.1 I_m_mdt9_t101.2.2.1 (fun q => absurd q (by decide)) (fun q => absurd q (by decide)) I_m_mdt9_t101.2.2.2), (Nd_A (by decide) (Mo_cons (fun q => show m_md t9 ≤ m_md t9 from by omega) (Mo_cons (fun q => show m_md t9 ≤ m_md t9 from by omega) Mo_nil)) (Or.inr ⟨(18, m_md t9, 1), (List.mem_cons_of_mem _ List.mem_cons_self), rfl, Or.inr (Or.inl rfl)⟩)), ⟨(Io_n (by decide) (by decide) I_m_mdt4_t101.1 I_m_mdt4_t101.2.1 I_m_mdt4_t101.2.2.1 (fun q => absurd q (by decide)) (fun q => absurd q (by decide)) I_m_mdt4_t101.2.2.2), (Nd_56 (Mo_cons (fun q => show m_md t4 ≤ m_md t9 from by omega) (Mo_cons (fun q => show m_md t4 ≤ m_md t9 from by omega) (Mo_cons (fun q => show m_md t4 ≤ m_md t9 from by omega) Mo_nil))) (fun _ => h56)), Stk_step (N := n) (pop := (42, n, t)) (new := [(56, m_md t4, 2), (4, m_md t9, 3), (5, m_md t9, 3), (18, m_md t9, 1)]) F0 C_t101.1.to2 (fun (h : nk 42 = false) => absurd h (by decide)) (fun q _ h => h (42, n, t) rfl) (fun _ => rfl) (fun y hy hk => ⟨rfl, (Mo_cons (fun q => show n ≤ m_md t4 from by omega) (Mo_cons (fun q => show n ≤ m_md t9 from by omega) (Mo_cons (fun q => show n ≤ m_md t9 from by omega) (Mo_cons (fun q => show n ≤ m_md t9 from by omega) Mo_nil)))) y hy hk⟩) (fun (h : 42 = 3 ∨ 42 = 18 ∨ 42 = 41) => absurd h (by decide)) (fun (h : 42 = 18) => absurd h (by decide)) (fun _ h16 => (Or.inr ⟨f_n_t101, (Ab_some (y := (56, m_md t4, 2)) rfl (show n < m_md t4 from by omega)), H50_no la_n_t101 wl_n_t101 (by decide)⟩)) r [] (fun y hy => absurd hy List.not_mem_nil) hS⟩⟩⟩⟩
                      · exact (Aj_up (x := (18, m_md t9, 1)) (Aj_up (x := (5, m_md t9, 3)) (Aj_up (x := (4, m_md t9, 3)) (Aj_sub (y := (56, m_md t4, 2)) hJ (Nat.le_of_ble_eq_true rfl)) (Or.inr (Nat.le_of_ble_eq_true rfl))) (Or.inr (Nat.le_of_ble_eq_true rfl))) (Or.inr (Nat.le_of_ble_eq_true rfl)))
                      · show m_dp t101 = (dlt 18 + (dlt 5 + (dlt 4 + (dlt 56 + sD r))))
                        have : dlt 18 = 0 := rfl; have : dlt 4 = 0 := rfl; have : dlt 42 = 0 := rfl; have : dlt 5 = 0 := rfl; have : dlt 56 = 0 := rfl; omega
                      · show m_rw t101 = (rho 18 + (rho 5 + (rho 4 + (rho 56 + sR r))))
                        have : rho 18 = 0 := rfl; have : rho 4 = 0 := rfl; have : rho 42 = 0 := rfl; have : rho 5 = 0 := rfl; have : rho 56 = 0 := rfl; omega
                      · show m_md t101 + (mu7 18 + (mu7 5 + (mu7 4 + (mu7 56 + sM r)))) ≤ 3 * m_at t101 + 7 * (r.length + 1 + 1 + 1 + 1) + 10
                        have : mu7 18 = 5 := rfl; have : mu7 4 = 7 := rfl; have : mu7 42 = 8 := rfl; have : mu7 5 = 7 := rfl; have : mu7 56 = 7 := rfl; omega
                      · show (wt 18 + (wt 5 + (wt 4 + (wt 56 + sW r)))) + 6 * (4096 - m_at t101) + 4 * (600 - (r.length + 1 + 1 + 1 + 1)) < (wt 42 + sW r) + 6 * (4096 - m_at t0) + 4 * (600 - (r.length + 1))
                        have : wt 18 = 0 := rfl; have : wt 4 = 5 := rfl; have : wt 42 = 5 := rfl; have : wt 5 = 5 := rfl; have : wt 56 = 5 := rfl; omega
                    · refine Ok_ife (Nat.lt_trans (lo_lt (C_t11.tk hT) _) (by decide)) (by decide) (fun q102 => ?_) (fun q102 => ?_)
                      · refine Kp_push C_t11 (by omega) (fun t103 C_t103 X_t103 a_t103 b_t103 d_t103 w_t103 u_t103 v_t103 j_t103 l_t103 => ?_)
                        have e_t103 := C_t103.2.2.2.1
                        rw [a_t11] at a_t103
                        rw [b_t11] at b_t103
                        rw [d_t11] at d_t103
                        rw [w_t11] at w_t103
                        rw [u_t11] at u_t103
                        rw [v_t11] at v_t103
                        clear d_t11 w_t11 u_t11 v_t11 e_t11 a_t11 b_t11
                        have I_n_t103 := I_n_t11.flat X_t103
                        have f_n_t103 := f_n_t11.ex I_n_t11 (X_t103 0)
                        have u_n_t103 := u_n_t11.ex I_n_t11 (X_t103 0)
                        have I_m_mdt4_t103 := I_m_mdt4_t11.flat X_t103
                        have f_m_mdt4_t103 := f_m_mdt4_t11.ex I_m_mdt4_t11 (X_t103 0)
                        have I_m_mdt9_t103 := I_m_mdt9_t11.flat X_t103
                        have u_m_mdt9_t103 := u_m_mdt9_t11.ex I_m_mdt9_t11 (X_t103 0)
                        have hv_m_mdt4_t103 : V56 t103 (m_md t4) (m_md t0) n := hv_m_mdt4_t11.flat j_t103
                        have x69_t103 : U69 t103 (m_md t9) := U69_flat j_t103 x69_t11
                        have la_n_t103 : m_la t103 n = (m_md t4) + 1 := by rw [j_t103.2.2.1]; exact la_n_t11
                        have wl_n_t103 : m_wh t103 ((m_md t4)) = 56 := by rw [j_t103.1]; exact wl_n_t11
                        clear la_n_t11 wl_n_t11
                        have la_m_mdt4_t103 : m_la t103 (m_md t4) = (m_md t9) + 1 := by rw [j_t103.2.2.1]; exact la_m_mdt4_t11
                        have wl_m_mdt4_t103 : m_wh t103 ((m_md t9)) = 13 := by rw [j_t103.1]; exact wl_m_mdt4_t11
                        clear la_m_mdt4_t11 wl_m_mdt4_t11
                        refine Kp_push C_t103 (by omega) (fun t104 C_t104 X_t104 a_t104 b_t104 d_t104 w_t104 u_t104 v_t104 j_t104 l_t104 => ?_)
                        have e_t104 := C_t104.2.2.2.1
                        rw [a_t103] at a_t104
                        rw [b_t103] at b_t104
                        rw [d_t103] at d_t104
                        rw [w_t103] at w_t104
                        rw [u_t103] at u_t104
                        rw [v_t103] at v_t104
                        clear d_t103 w_t103 u_t103 v_t103 e_t103 a_t103 b_t103
                        have I_n_t104 := I_n_t103.flat X_t104
                        have f_n_t104 := f_n_t103.ex I_n_t103 (X_t104 0)
                        have u_n_t104 := u_n_t103.ex I_n_t103 (X_t104 0)
                        have I_m_mdt4_t104 := I_m_mdt4_t103.flat X_t104
                        have f_m_mdt4_t104 := f_m_mdt4_t103.ex I_m_mdt4_t103 (X_t104 0)
                        have I_m_mdt9_t104 := I_m_mdt9_t103.flat X_t104
                        have u_m_mdt9_t104 := u_m_mdt9_t103.ex I_m_mdt9_t103 (X_t104 0)
                        have hv_m_mdt4_t104 : V56 t104 (m_md t4) (m_md t0) n := hv_m_mdt4_t103.flat j_t104
                        have x69_t104 : U69 t104 (m_md t9) := U69_flat j_t104 x69_t103
                        have la_n_t104 : m_la t104 n = (m_md t4) + 1 := by rw [j_t104.2.2.1]; exact la_n_t103
                        have wl_n_t104 : m_wh t104 ((m_md t4)) = 56 := by rw [j_t104.1]; exact wl_n_t103
                        clear la_n_t103 wl_n_t103
                        have la_m_mdt4_t104 : m_la t104 (m_md t4) = (m_md t9) + 1 := by rw [j_t104.2.2.1]; exact la_m_mdt4_t103
                        have wl_m_mdt4_t104 : m_wh t104 ((m_md t9)) = 13 := by rw [j_t104.1]; exact wl_m_mdt4_t103
                        clear la_m_mdt4_t103 wl_m_mdt4_t103
                        refine Ok_ret (show Ok _ _ _ from ?_)
                        refine Ok_ret (show Ok _ _ _ from ?_)
                        have h56 : N56 t104 (m_md t4) [(4, m_md t9, 3), (5, m_md t9, 3), (18, m_md t9, 1)] := N56_mk hv_m_mdt4_t104 la_m_mdt4_t104 (by omega) (by omega) (by omega) (by omega) (fun y hy => by cases hy; show m_md t9 ≤ m_md t9; omega) I_n_t104 I_m_mdt9_t104 u_m_mdt9_t104 x69_t104 (Or.inr ⟨(18, m_md t9, 1), (List.mem_cons_of_mem _ (List.mem_cons_of_mem _ List.mem_cons_self)), rfl, Or.inr (Or.inl rfl)⟩)
                        refine Hv_mk (Kv_c (x := (18, m_md t9, 1)) rfl (Kv_c (x := (5, m_md t9, 3)) rfl (Kv_c (x := (4, m_md t9, 3)) rfl (Kv_c (x := (56, m_md t4, 2)) rfl hK)))) (C_t104.1.2.2.2.2.2.2 hTt) C_t104 hT (by omega) (by omega) (by omega) ?_ ?_ ?_ (by omega) ?_ ?_ ?_
                        · exact ⟨(Io_n (by decide) (by decide) I_m_mdt9_t104.1 I_m_mdt9_t104.2.1 I_m_mdt9_t104.2.2.1 (fun q => absurd q (by decide)) (fun q => absurd q (by decide)) I_m_mdt9_t104.2.2.2), (Nd_0 (by decide) Mo_nil), ⟨(Io_n (by decide) (by decide) I_m_mdt9_t104.1 I_m_mdt9_t104.2.1 I_m_mdt9_t104.2.2.1 (fun q => absurd q (by decide)) (fun q => absurd q (by decide)) I_m_mdt9_t104.2.2.2), (Nd_5 (Mo_cons (fun q => show m_md t9 ≤ m_md t9 from by omega) Mo_nil) (Or.inl ⟨1, rfl⟩)), ⟨(Io_n (by decide) (by decide) I_m_mdt9_t104.1 I_m_mdt9_t104.2.1 I_m_mdt9_t104.2.2.1 (fun q => absurd q (by decide)) (fun q => absurd q (by decide)) I_m_mdt9_t104.2.2.2), (Nd_A (by decide) (Mo_cons (fun q => show m_md t9 ≤ m_md t9 from by omega) (Mo_cons (fun q => show m_md t9 ≤ m_md t9 from by omega) Mo_nil)) (Or.inr ⟨(18, m_md t9, 1), (List.mem_cons_of_mem _ List.mem_cons_self), rfl, Or.inr (Or.inl rfl)⟩)), ⟨(Io_n (by decide) (by decide) I_m_mdt4_t104.1 I_m_mdt4_t104.2.1 I_m_mdt4_t104.2.2.1 (fun q => absurd q (by decide)) (fun q => absurd q (by decide)) I_m_mdt4_t104.2.2.2), (Nd_56 (Mo_cons (fun q => show m_md t4 ≤ m_md t9 from by omega) (Mo_cons (fun q => show m_md t4 ≤ m_md t9 from by omega) (Mo_cons (fun q => show m_md t4 ≤ m_md t9 from by omega) Mo_nil))) (fun _ => h56)), Stk_step (N := n) (pop := (42, n, t)) (new := [(56, m_md t4, 2), (4, m_md t9, 3), (5, m_md t9, 3), (18, m_md t9, 1)]) F0 C_t104.1.to2 (fun (h : nk 42 = false) => absurd h (by decide)) (fun q _ h => h (42, n, t) rfl) (fun _ => rfl) (fun y hy hk => ⟨rfl, (Mo_cons (fun q => show n ≤ m_md t4 from by omega) (Mo_cons (fun q => show n ≤ m_md t9 from by omega) (Mo_cons (fun q => show n ≤ m_md t9 from by omega) (Mo_cons (fun q => show n ≤ m_md t9 from by omega) Mo_nil)))) y hy hk⟩) (fun (h : 42 = 3 ∨ 42 = 18 ∨ 42 = 41) => absurd h (by decide)) (fun (h : 42 = 18) => absurd h (by decide)) (fun _ h16 => (Or.inr ⟨f_n_t104, (Ab_some (y := (56, m_md t4, 2)) rfl (show n < m_md t4 from by omega)), H50_no la_n_t104 wl_n_t104 (by decide)⟩)) r [] (fun y hy => absurd hy List.not_mem_nil) hS⟩⟩⟩⟩
                        · exact (Aj_up (x := (18, m_md t9, 1)) (Aj_up (x := (5, m_md t9, 3)) (Aj_up (x := (4, m_md t9, 3)) (Aj_sub (y := (56, m_md t4, 2)) hJ (Nat.le_of_ble_eq_true rfl)) (Or.inr (Nat.le_of_ble_eq_true rfl))) (Or.inr (Nat.le_of_ble_eq_true rfl))) (Or.inr (Nat.le_of_ble_eq_true rfl)))
                        · show m_dp t104 = (dlt 18 + (dlt 5 + (dlt 4 + (dlt 56 + sD r))))
                          have : dlt 18 = 0 := rfl; have : dlt 4 = 0 := rfl; have : dlt 42 = 0 := rfl; have : dlt 5 = 0 := rfl; have : dlt 56 = 0 := rfl; omega
                        · show m_rw t104 = (rho 18 + (rho 5 + (rho 4 + (rho 56 + sR r))))
                          have : rho 18 = 0 := rfl; have : rho 4 = 0 := rfl; have : rho 42 = 0 := rfl; have : rho 5 = 0 := rfl; have : rho 56 = 0 := rfl; omega
                        · show m_md t104 + (mu7 18 + (mu7 5 + (mu7 4 + (mu7 56 + sM r)))) ≤ 3 * m_at t104 + 7 * (r.length + 1 + 1 + 1 + 1) + 10
                          have : mu7 18 = 5 := rfl; have : mu7 4 = 7 := rfl; have : mu7 42 = 8 := rfl; have : mu7 5 = 7 := rfl; have : mu7 56 = 7 := rfl; omega
                        · show (wt 18 + (wt 5 + (wt 4 + (wt 56 + sW r)))) + 6 * (4096 - m_at t104) + 4 * (600 - (r.length + 1 + 1 + 1 + 1)) < (wt 42 + sW r) + 6 * (4096 - m_at t0) + 4 * (600 - (r.length + 1))
                          have : wt 18 = 0 := rfl; have : wt 4 = 5 := rfl; have : wt 42 = 5 := rfl; have : wt 5 = 5 := rfl; have : wt 56 = 5 := rfl; omega
                      · refine Ok_ife (Nat.lt_trans (lo_lt (C_t11.tk hT) _) (by decide)) (by decide) (fun q105 => ?_) (fun q105 => ?_)
                        · refine Kp_push C_t11 (by omega) (fun t106 C_t106 X_t106 a_t106 b_t106 d_t106 w_t106 u_t106 v_t106 j_t106 l_t106 => ?_)
                          have e_t106 := C_t106.2.2.2.1
                          rw [a_t11] at a_t106
                          rw [b_t11] at b_t106
                          rw [d_t11] at d_t106
                          rw [w_t11] at w_t106
                          rw [u_t11] at u_t106
                          rw [v_t11] at v_t106
                          clear d_t11 w_t11 u_t11 v_t11 e_t11 a_t11 b_t11
                          have I_n_t106 := I_n_t11.flat X_t106
                          have f_n_t106 := f_n_t11.ex I_n_t11 (X_t106 0)
                          have u_n_t106 := u_n_t11.ex I_n_t11 (X_t106 0)
                          have I_m_mdt4_t106 := I_m_mdt4_t11.flat X_t106
                          have f_m_mdt4_t106 := f_m_mdt4_t11.ex I_m_mdt4_t11 (X_t106 0)
                          have I_m_mdt9_t106 := I_m_mdt9_t11.flat X_t106
                          have u_m_mdt9_t106 := u_m_mdt9_t11.ex I_m_mdt9_t11 (X_t106 0)
                          have hv_m_mdt4_t106 : V56 t106 (m_md t4) (m_md t0) n := hv_m_mdt4_t11.flat j_t106
                          have x69_t106 : U69 t106 (m_md t9) := U69_flat j_t106 x69_t11
                          have la_n_t106 : m_la t106 n = (m_md t4) + 1 := by rw [j_t106.2.2.1]; exact la_n_t11
                          have wl_n_t106 : m_wh t106 ((m_md t4)) = 56 := by rw [j_t106.1]; exact wl_n_t11
                          clear la_n_t11 wl_n_t11
                          have la_m_mdt4_t106 : m_la t106 (m_md t4) = (m_md t9) + 1 := by rw [j_t106.2.2.1]; exact la_m_mdt4_t11
                          have wl_m_mdt4_t106 : m_wh t106 ((m_md t9)) = 13 := by rw [j_t106.1]; exact wl_m_mdt4_t11
                          clear la_m_mdt4_t11 wl_m_mdt4_t11
                          refine Kp_push C_t106 (by omega) (fun t107 C_t107 X_t107 a_t107 b_t107 d_t107 w_t107 u_t107 v_t107 j_t107 l_t107 => ?_)
                          have e_t107 := C_t107.2.2.2.1
                          rw [a_t106] at a_t107
                          rw [b_t106] at b_t107
                          rw [d_t106] at d_t107
                          rw [w_t106] at w_t107
                          rw [u_t106] at u_t107
                          rw [v_t106] at v_t107
                          clear d_t106 w_t106 u_t106 v_t106 e_t106 a_t106 b_t106
                          have I_n_t107 := I_n_t106.flat X_t107
                          have f_n_t107 := f_n_t106.ex I_n_t106 (X_t107 0)
                          have u_n_t107 := u_n_t106.ex I_n_t106 (X_t107 0)
                          have I_m_mdt4_t107 := I_m_mdt4_t106.flat X_t107
                          have f_m_mdt4_t107 := f_m_mdt4_t106.ex I_m_mdt4_t106 (X_t107 0)
                          have I_m_mdt9_t107 := I_m_mdt9_t106.flat X_t107
                          have u_m_mdt9_t107 := u_m_mdt9_t106.ex I_m_mdt9_t106 (X_t107 0)
                          have hv_m_mdt4_t107 : V56 t107 (m_md t4) (m_md t0) n := hv_m_mdt4_t106.flat j_t107
                          have x69_t107 : U69 t107 (m_md t9) := U69_flat j_t107 x69_t106
                          have la_n_t107 : m_la t107 n = (m_md t4) + 1 := by rw [j_t107.2.2.1]; exact la_n_t106
                          have wl_n_t107 : m_wh t107 ((m_md t4)) = 56 := by rw [j_t107.1]; exact wl_n_t106
                          clear la_n_t106 wl_n_t106
                          have la_m_mdt4_t107 : m_la t107 (m_md t4) = (m_md t9) + 1 := by rw [j_t107.2.2.1]; exact la_m_mdt4_t106
                          have wl_m_mdt4_t107 : m_wh t107 ((m_md t9)) = 13 := by rw [j_t107.1]; exact wl_m_mdt4_t106
                          clear la_m_mdt4_t106 wl_m_mdt4_t106
                          refine Ok_ret (show Ok _ _ _ from ?_)
                          refine Ok_ret (show Ok _ _ _ from ?_)
                          have h56 : N56 t107 (m_md t4) [(4, m_md t9, 3), (5, m_md t9, 3), (18, m_md t9, 1)] := N56_mk hv_m_mdt4_t107 la_m_mdt4_t107 (by omega) (by omega) (by omega) (by omega) (fun y hy => by cases hy; show m_md t9 ≤ m_md t9; omega) I_n_t107 I_m_mdt9_t107 u_m_mdt9_t107 x69_t107 (Or.inr ⟨(18, m_md t9, 1), (List.mem_cons_of_mem _ (List.mem_cons_of_mem _ List.mem_cons_self)), rfl, Or.inr (Or.inl rfl)⟩)
                          refine Hv_mk (Kv_c (x := (18, m_md t9, 1)) rfl (Kv_c (x := (5, m_md t9, 3)) rfl (Kv_c (x := (4, m_md t9, 3)) rfl (Kv_c (x := (56, m_md t4, 2)) rfl hK)))) (C_t107.1.2.2.2.2.2.2 hTt) C_t107 hT (by omega) (by omega) (by omega) ?_ ?_ ?_ (by omega) ?_ ?_ ?_
                          · exact ⟨(Io_n (by decide) (by decide) I_m_mdt9_t107.1 I_m_mdt9_t107.2.1 I_m_mdt9_t107.2.2.1 (fun q => absurd q (by decide)) (fun q => absurd q (by decide)) I_m_mdt9_t107.2.2.2), (Nd_0 (by decide) Mo_nil), ⟨(Io_n (by decide) (by decide) I_m_mdt9_t107.1 I_m_mdt9_t107.2.1 I_m_mdt9_t107.2.2.1 (fun q => absurd q (by decide)) (fun q => absurd q (by decide)) I_m_mdt9_t107.2.2.2), (Nd_5 (Mo_cons (fun q => show m_md t9 ≤ m_md t9 from by omega) Mo_nil) (Or.inl ⟨1, rfl⟩)), ⟨(Io_n (by decide) (by decide) I_m_mdt9_t107.1 I_m_mdt9_t107.2.1 I_m_mdt9_t107.2.2.1 (fun q => absurd q (by decide)) (fun q => absurd q (by decide)) I_m_mdt9_t107.2.2.2), (Nd_A (by decide) (Mo_cons (fun q => show m_md t9 ≤ m_md t9 from by omega) (Mo_cons (fun q => show m_md t9 ≤ m_md t9 from by omega) Mo_nil)) (Or.inr ⟨(18, m_md t9, 1), (List.mem_cons_of_mem _ List.mem_cons_self), rfl, Or.inr (Or.inl rfl)⟩)), ⟨(Io_n (by decide) (by decide) I_m_mdt4_t107.1 I_m_mdt4_t107.2.1 I_m_mdt4_t107.2.2.1 (fun q => absurd q (by decide)) (fun q => absurd q (by decide)) I_m_mdt4_t107.2.2.2), (Nd_56 (Mo_cons (fun q => show m_md t4 ≤ m_md t9 from by omega) (Mo_cons (fun q => show m_md t4 ≤ m_md t9 from by omega) (Mo_cons (fun q => show m_md t4 ≤ m_md t9 from by omega) Mo_nil))) (fun _ => h56)), Stk_step (N := n) (pop := (42, n, t)) (new := [(56, m_md t4, 2), (4, m_md t9, 3), (5, m_md t9, 3), (18, m_md t9, 1)]) F0 C_t107.1.to2 (fun (h : nk 42 = false) => absurd h (by decide)) (fun q _ h => h (42, n, t) rfl) (fun _ => rfl) (fun y hy hk => ⟨rfl, (Mo_cons (fun q => show n ≤ m_md t4 from by omega) (Mo_cons (fun q => show n ≤ m_md t9 from by omega) (Mo_cons (fun q => show n ≤ m_md t9 from by omega) (Mo_cons (fun q => show n ≤ m_md t9 from by omega) Mo_nil)))) y hy hk⟩) (fun (h : 42 = 3 ∨ 42 = 18 ∨ 42 = 41) => absurd h (by decide)) (fun (h : 42 = 18) => absurd h (by decide)) (fun _ h16 => (Or.inr ⟨f_n_t107, (Ab_some (y := (56, m_md t4, 2)) rfl (show n < m_md t4 from by omega)), H50_no la_n_t107 wl_n_t107 (by decide)⟩)) r [] (fun y hy => absurd hy List.not_mem_nil) hS⟩⟩⟩⟩
                          · exact (Aj_up (x := (18, m_md t9, 1)) (Aj_up (x := (5, m_md t9, 3)) (Aj_up (x := (4, m_md t9, 3)) (Aj_sub (y := (56, m_md t4, 2)) hJ (Nat.le_of_ble_eq_true rfl)) (Or.inr (Nat.le_of_ble_eq_true rfl))) (Or.inr (Nat.le_of_ble_eq_true rfl))) (Or.inr (Nat.le_of_ble_eq_true rfl)))
                          · show m_dp t107 = (dlt 18 + (dlt 5 + (dlt 4 + (dlt 56 + sD r))))
                            have : dlt 18 = 0 := rfl; have : dlt 4 = 0 := rfl; have : dlt 42 = 0 := rfl; have : dlt 5 = 0 := rfl; have : dlt 56 = 0 := rfl; omega
                          · show m_rw t107 = (rho 18 + (rho 5 + (rho 4 + (rho 56 + sR r))))
                            have : rho 18 = 0 := rfl; have : rho 4 = 0 := rfl; have : rho 42 = 0 := rfl; have : rho 5 = 0 := rfl; have : rho 56 = 0 := rfl; omega
                          · show m_md t107 + (mu7 18 + (mu7 5 + (mu7 4 + (mu7 56 + sM r)))) ≤ 3 * m_at t107 + 7 * (r.length + 1 + 1 + 1 + 1) + 10
                            have : mu7 18 = 5 := rfl; have : mu7 4 = 7 := rfl; have : mu7 42 = 8 := rfl; have : mu7 5 = 7 := rfl; have : mu7 56 = 7 := rfl; omega
                          · show (wt 18 + (wt 5 + (wt 4 + (wt 56 + sW r)))) + 6 * (4096 - m_at t107) + 4 * (600 - (r.length + 1 + 1 + 1 + 1)) < (wt 42 + sW r) + 6 * (4096 - m_at t0) + 4 * (600 - (r.length + 1))
                            have : wt 18 = 0 := rfl; have : wt 4 = 5 := rfl; have : wt 42 = 5 := rfl; have : wt 5 = 5 := rfl; have : wt 56 = 5 := rfl; omega
                        · refine Kp_error C_t11 (by omega) (fun t108 C_t108 X_t108 a_t108 b_t108 d_t108 w_t108 u_t108 v_t108 j_t108 l_t108 => ?_)
                          have wb_t108 := w_t108.2
                          have w_t108 := Nat.pos_of_ne_zero w_t108.1
                          have e_t108 := C_t108.2.2.2.1
                          have I_n_t108 := I_n_t11.flat X_t108
                          have f_n_t108 := f_n_t11.ex I_n_t11 (X_t108 0)
                          have u_n_t108 := u_n_t11.ex I_n_t11 (X_t108 0)
                          have I_m_mdt4_t108 := I_m_mdt4_t11.flat X_t108
                          have f_m_mdt4_t108 := f_m_mdt4_t11.ex I_m_mdt4_t11 (X_t108 0)
                          have I_m_mdt9_t108 := I_m_mdt9_t11.flat X_t108
                          have u_m_mdt9_t108 := u_m_mdt9_t11.ex I_m_mdt9_t11 (X_t108 0)
                          have hv_m_mdt4_t108 : V56 t108 (m_md t4) (m_md t0) n := hv_m_mdt4_t11.flat j_t108
                          have x69_t108 : U69 t108 (m_md t9) := U69_flat j_t108 x69_t11
                          have la_n_t108 : m_la t108 n = (m_md t4) + 1 := by rw [j_t108.2.2.1]; exact la_n_t11
                          have wl_n_t108 : m_wh t108 ((m_md t4)) = 56 := by rw [j_t108.1]; exact wl_n_t11
                          clear la_n_t11 wl_n_t11
                          have la_m_mdt4_t108 : m_la t108 (m_md t4) = (m_md t9) + 1 := by rw [j_t108.2.2.1]; exact la_m_mdt4_t11
                          have wl_m_mdt4_t108 : m_wh t108 ((m_md t9)) = 13 := by rw [j_t108.1]; exact wl_m_mdt4_t11
                          clear la_m_mdt4_t11 wl_m_mdt4_t11
                          refine Ok_ret (show Ok _ _ _ from ?_)
                          refine Ok_ret (show Ok _ _ _ from ?_)
                          exact Or.inl ⟨Nat.ne_of_gt (show 0 < m_wr t108 from by omega), by omega, by omega, C_t108.2.2.2.2.2, by omega⟩
    · try unfold lp_X6_simpleRest_348
      refine Kp_wrap C_t0 I_n_t0.1 I_n_t0.2.1 f_n_t0 I_n_t0.2.2.1 (by omega) (by omega) (by decide) (fun t109 C_t109 X_t109 a_t109 b_t109 d_t109 w_t109 u_t109 v_t109 j_t109 l_t109 => ?_)
      have e_t109 := C_t109.2.2.2.1
      have I_n_t109 := I_n_t0.le X_t109 (by omega)
      have f_n_t109 := f_n_t0.ex I_n_t0 (X_t109 0 (Nat.zero_le _))
      have u_n_t109 := u_n_t0.ex I_n_t0 (X_t109 0 (Nat.zero_le _))
      have hH : H50 t109 n := H50_mk F0 C_t109.2.1 I_n_t0 I_n_t109 f_n_t0 u_n_t0 j_t109 (by omega) hTt h69
      refine Hv_mk hK (C_t109.1.2.2.2.2.2.2 hTt) C_t109 hT (by omega) (by omega) (by omega) ?_ ?_ ?_ (by omega) ?_ ?_ ?_
      · exact Stk_step (N := n) (pop := (42, n, t)) (new := []) F0 C_t109.1.to2 (fun (h : nk 42 = false) => absurd h (by decide)) (fun q _ h => h (42, n, t) rfl) (fun _ => rfl) (fun y hy hk => ⟨rfl, Mo_nil (n := n) y hy hk⟩) (fun (h : 42 = 3 ∨ 42 = 18 ∨ 42 = 41) => absurd h (by decide)) (fun (h : 42 = 18) => absurd h (by decide)) (fun _ h16 => (Or.inr ⟨f_n_t109, (Ab_none rfl), hH⟩)) r [] (fun y hy => absurd hy List.not_mem_nil) hS
      · exact Aj_tl hJ
      · show m_dp t109 = sD r
        have : dlt 42 = 0 := rfl; omega
      · show m_rw t109 = sR r
        have : rho 42 = 0 := rfl; omega
      · show m_md t109 + sM r ≤ 3 * m_at t109 + 7 * (r.length) + 10
        have : mu7 42 = 8 := rfl; omega
      · show sW r + 6 * (4096 - m_at t109) + 4 * (600 - (r.length)) < (wt 42 + sW r) + 6 * (4096 - m_at t0) + 4 * (600 - (r.length + 1))
        have : wt 42 = 5 := rfl; omega

