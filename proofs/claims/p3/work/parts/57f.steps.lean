/-! The steps of the reference, one by one. -/
theorem Q_simpleRest_221_t76bba {t0 : Mm} {n t : Nat} {r : List It} (H : Hp t0 (42, n, t) r) {E : Mm → Prop} (y6 : Nat) (h6 : y6 ≤ 1) (h69 : m_wh t0 (m_la t0 n - 1) ≠ 69) (hk0 : lo t0 (m_at t0) = 76) (hk1 : f_X6_has (t &&& 255) 4 ≠ 0) (hk2 : f_X6_has (t &&& 255) 8 ≠ 0) (hk3 : f_X6_has (t &&& 255) 16 = 0) : Ok (Qh (mz t0 ((42, n, t) :: r))) E (lp_X6_simpleRest_221 n (t &&& 255) (t / 256) (lo t0 (m_at t0)) y6 t0) := by
  obtain ⟨hK, hT, hc, hw0, ha, hC, hS, hJ, hdp, hdl, hrw, hmd, htd, hln, hm16, hI, hD, hTt⟩ := Hp_out H
  have C_t0 := hC n
  have F0 := C_t0.2.1
  have I_n_t0 : Nq t0 n := ⟨(hI.2.1 rfl).1, (hI.2.1 rfl).2.1, (hI.2.1 rfl).2.2, hI.2.2.2 rfl⟩
  have m_n_t0 := I_n_t0.1
  have ht : t < 2097152 := hI.1.2.2.1 rfl
  have h255 : t &&& 255 ≤ 255 := Nat.and_le_right
  have hand2 : t &&& 255 &&& 1 ≤ 1 := Nat.and_le_right
  have hdp : m_dp t0 = dlt 42 + sD r := hdp
  have hrw : m_rw t0 = rho 42 + sR r := hrw
  have hmd : m_md t0 + mu7 42 + sM r ≤ 3 * m_at t0 + 7 * r.length + 17 := hmd
  have hand : t &&& 1 ≤ 1 := Nat.and_le_right
  have h01 : (0 &&& 1 : Nat) = 0 := rfl
  have hor0 : (t &&& 255 &&& 1) ||| 0 ≤ 1 := by rw [Nat.or_zero]; exact hand2
  have hor2 : (t &&& 255 &&& 1) ||| 2 < 4 := Nat.or_lt_two_pow (n := 2) (by omega) (by decide)
  have h02 : (1 : Nat) * 256 = 256 := rfl
  have hq1 : dlt 42 = 0 := rfl
  have hq2 : rho 42 = 0 := rfl
  have hq3 : mu7 42 = 8 := rfl
  have f_n_t0 : Fz t0 n := (hD.2.1 (show 42 = 2 ∨ 42 = 4 ∨ 42 = 42 ∨ 42 = 50 by decide)).resolve_right (fun ⟨y, hy, _⟩ => absurd hy List.not_mem_nil)
  obtain ⟨hla0, hla2, -, -⟩ := Fo_lp F0 I_n_t0 f_n_t0
  have hla1 : m_la t0 n - 1 < m_md t0 := by omega
  have u_n_t0 : Up t0 n := hI.2.2.1 rfl
  unfold lp_X6_simpleRest_221
  refine Ok_ife (Nat.lt_trans (lo_lt (C_t0.tk hT) _) (by decide)) (by decide) (fun q => absurd (hk0.symm.trans q) (by decide)) (fun _ => ?_)
  refine Ok_ife (Nat.lt_trans (lo_lt (C_t0.tk hT) _) (by decide)) (by decide) (fun q => absurd (hk0.symm.trans q) (by decide)) (fun _ => ?_)
  refine Ok_ife (Nat.lt_trans (lo_lt (C_t0.tk hT) _) (by decide)) (by decide) (fun q => ?_) (fun q => absurd hk0 q)
  refine Ok_ifz (show y6 < 2147483648 from by omega) (fun q1 => ?_) (fun q1 => ?_)
  · try unfold lp_X6_simpleRest_348
    refine Kp_wrap C_t0 I_n_t0.1 I_n_t0.2.1 f_n_t0 I_n_t0.2.2.1 (by omega) (by omega) (by decide) (fun t2 C_t2 X_t2 a_t2 b_t2 d_t2 w_t2 u_t2 v_t2 j_t2 l_t2 => ?_)
    have e_t2 := C_t2.2.2.2.1
    have I_n_t2 := I_n_t0.le X_t2 (by omega)
    have f_n_t2 := f_n_t0.ex I_n_t0 (X_t2 0 (Nat.zero_le _))
    have u_n_t2 := u_n_t0.ex I_n_t0 (X_t2 0 (Nat.zero_le _))
    have hH : H50 t2 n := H50_mk F0 C_t2.2.1 I_n_t0 I_n_t2 f_n_t0 u_n_t0 j_t2 (by omega) hTt h69
    refine Hv_mk hK (C_t2.1.2.2.2.2.2.2 hTt) C_t2 hT (by omega) (by omega) (by omega) ?_ ?_ ?_ (by omega) ?_ ?_ ?_
    · exact Stk_step (N := n) (pop := (42, n, t)) (new := []) F0 C_t2.1.to2 (fun (h : nk 42 = false) => absurd h (by decide)) (fun q _ h => h (42, n, t) rfl) (fun _ => rfl) (fun y hy hk => ⟨rfl, Mo_nil (n := n) y hy hk⟩) (fun (h : 42 = 3 ∨ 42 = 18 ∨ 42 = 41) => absurd h (by decide)) (fun (h : 42 = 18) => absurd h (by decide)) (fun _ h16 => (Or.inr ⟨f_n_t2, (Ab_none rfl), hH⟩)) r [] (fun y hy => absurd hy List.not_mem_nil) hS
    · exact Aj_tl hJ
    · show m_dp t2 = sD r
      have : dlt 42 = 0 := rfl; omega
    · show m_rw t2 = sR r
      have : rho 42 = 0 := rfl; omega
    · show m_md t2 + sM r ≤ 3 * m_at t2 + 7 * (r.length) + 10
      have : mu7 42 = 8 := rfl; omega
    · show sW r + 6 * (4096 - m_at t2) + 4 * (600 - (r.length)) < (wt 42 + sW r) + 6 * (4096 - m_at t0) + 4 * (600 - (r.length + 1))
      have : wt 42 = 5 := rfl; omega
  · refine Ok_ck (show t &&& 255 < 2147483648 from by omega) ?_
    refine Ok_ifz (f6_has _ _) (fun q3 => ?_) (fun q3 => ?_)
    · refine Kp_wrap C_t0 I_n_t0.1 I_n_t0.2.1 f_n_t0 I_n_t0.2.2.1 (by omega) (by omega) (by decide) (fun t4 C_t4 X_t4 a_t4 b_t4 d_t4 w_t4 u_t4 v_t4 j_t4 l_t4 => ?_)
      have e_t4 := C_t4.2.2.2.1
      have I_n_t4 := I_n_t0.le X_t4 (by omega)
      have f_n_t4 := f_n_t0.ex I_n_t0 (X_t4 0 (Nat.zero_le _))
      have u_n_t4 := u_n_t0.ex I_n_t0 (X_t4 0 (Nat.zero_le _))
      have I_m_mdt0_t4 : Nq t4 (m_md t0) := Nq.wrn j_t4 (by omega) I_n_t0 (by decide)
      have f_m_mdt0_t4 : Fz t4 (m_md t0) := by unfold Fz; rw [j_t4.2.1]; exact j_t4.2.2.1
      have la_n_t4 : m_la t4 n = (m_md t0) + 1 := j_t4.2.2.2.2.2.2.2.1
      have wl_n_t4 : m_wh t4 (m_md t0) = 12 := j_t4.1
      refine Ok_bnc ?_
      try unfold b_X6_define
      refine Ok_bnc ?_
      try unfold b_X6_ranges
      refine Ok_ck (show t &&& 255 < 2147483648 from by omega) ?_
      refine Ok_ifz (f6_has _ _) (fun q => absurd q hk1) (fun q => ?_)
      refine Kp_ahead C_t4 hT (by omega) ?_
      refine Ok_ife (Nat.lt_trans (lo_lt (C_t4.tk hT) _) (by decide)) (by decide) (fun q7 => ?_) (fun q7 => ?_)
      · refine Kp_look C_t4 hT (by omega) ?_
        refine Ok_ife (Nat.lt_trans (lo_lt (C_t4.tk hT) _) (by decide)) (by decide) (fun q8 => ?_) (fun q8 => ?_)
        · refine Kp_wrap C_t4 I_n_t4.1 I_n_t4.2.1 f_n_t4 I_n_t4.2.2.1 (by omega) (by omega) (by decide) (fun t9 C_t9 X_t9 a_t9 b_t9 d_t9 w_t9 u_t9 v_t9 j_t9 l_t9 => ?_)
          have e_t9 := C_t9.2.2.2.1
          rw [a_t4] at a_t9
          rw [b_t4] at b_t9
          rw [d_t4] at d_t9
          rw [w_t4] at w_t9
          rw [u_t4] at u_t9
          rw [v_t4] at v_t9
          clear d_t4 w_t4 u_t4 v_t4 e_t4
          have I_n_t9 := I_n_t4.le X_t9 (by omega)
          have f_n_t9 := f_n_t4.ex I_n_t4 (X_t9 0 (Nat.zero_le _))
          have u_n_t9 := u_n_t4.ex I_n_t4 (X_t9 0 (Nat.zero_le _))
          have I_m_mdt4_t9 : Nq t9 (m_md t4) := Nq.wrn j_t9 (by omega) I_n_t4 (by decide)
          have f_m_mdt4_t9 : Fz t9 (m_md t4) := by unfold Fz; rw [j_t9.2.1]; exact j_t9.2.2.1
          have la_n_t9 : m_la t9 n = (m_md t4) + 1 := j_t9.2.2.2.2.2.2.2.1
          have wl_n_t9 : m_wh t9 (m_md t4) = 67 := j_t9.1
          have y9_t10 : m_at t9 = m_at t4 + 1 → lo t9 (m_at t9) = lo t4 (m_at t4 + 1) := fun h => lo_2 C_t9 C_t4 h
          have z_t10 : m_at t9 < m_ct t9 := lo_ne (Nat.ne_of_gt (show 0 < lo t9 (m_at t9) from by omega))
          refine Kp_at C_t9 (fun t10 C_t10 X_t10 a_t10 b_t10 d_t10 w_t10 u_t10 v_t10 j_t10 l_t10 => ?_)
          have e_t10 := C_t10.2.2.2.1
          rw [a_t9] at a_t10
          rw [b_t9] at b_t10
          rw [d_t9] at d_t10
          rw [w_t9] at w_t10
          rw [u_t9] at u_t10
          rw [v_t9] at v_t10
          rw [a_t9, e_t9] at z_t10
          clear d_t9 w_t9 u_t9 v_t9 e_t9 a_t9 b_t9
          have I_n_t10 := I_n_t9.flat X_t10
          have f_n_t10 := f_n_t9.ex I_n_t9 (X_t10 0)
          have u_n_t10 := u_n_t9.ex I_n_t9 (X_t10 0)
          have I_m_mdt4_t10 := I_m_mdt4_t9.flat X_t10
          have f_m_mdt4_t10 := f_m_mdt4_t9.ex I_m_mdt4_t9 (X_t10 0)
          have la_n_t10 : m_la t10 n = (m_md t4) + 1 := by rw [j_t10.2.2.1]; exact la_n_t9
          have wl_n_t10 : m_wh t10 ((m_md t4)) = 67 := by rw [j_t10.1]; exact wl_n_t9
          clear la_n_t9 wl_n_t9
          refine Kp_wrap C_t10 I_n_t10.1 I_n_t10.2.1 f_n_t10 I_n_t10.2.2.1 (by omega) (by omega) (by decide) (fun t11 C_t11 X_t11 a_t11 b_t11 d_t11 w_t11 u_t11 v_t11 j_t11 l_t11 => ?_)
          have e_t11 := C_t11.2.2.2.1
          rw [a_t10] at a_t11
          rw [b_t10] at b_t11
          rw [d_t10] at d_t11
          rw [w_t10] at w_t11
          rw [u_t10] at u_t11
          rw [v_t10] at v_t11
          clear d_t10 w_t10 u_t10 v_t10 e_t10 a_t10
          have I_n_t11 := I_n_t10.le X_t11 (by omega)
          have f_n_t11 := f_n_t10.ex I_n_t10 (X_t11 0 (Nat.zero_le _))
          have u_n_t11 := u_n_t10.ex I_n_t10 (X_t11 0 (Nat.zero_le _))
          have I_m_mdt10_t11 : Nq t11 (m_md t10) := Nq.wrn j_t11 (by omega) I_n_t10 (by decide)
          have f_m_mdt10_t11 : Fz t11 (m_md t10) := by unfold Fz; rw [j_t11.2.1]; exact j_t11.2.2.1
          have la_n_t11 : m_la t11 n = (m_md t10) + 1 := j_t11.2.2.2.2.2.2.2.1
          have wl_n_t11 : m_wh t11 (m_md t10) = 66 := j_t11.1
          have y9_t12 : m_at t11 = m_at t4 + 1 → lo t11 (m_at t11) = lo t4 (m_at t4 + 1) := fun h => lo_2 C_t11 C_t4 h
          have y8_t12 : lo t11 (m_at t11) = lo t4 (m_at t4 + 1) := y9_t12 (by omega)
          have z_t12 : m_at t11 < m_ct t11 := lo_ne (Nat.ne_of_gt (show 0 < lo t11 (m_at t11) from by omega))
          refine Kp_at C_t11 (fun t12 C_t12 X_t12 a_t12 b_t12 d_t12 w_t12 u_t12 v_t12 j_t12 l_t12 => ?_)
          have e_t12 := C_t12.2.2.2.1
          rw [a_t11] at a_t12
          rw [b_t11] at b_t12
          rw [d_t11] at d_t12
          rw [w_t11] at w_t12
          rw [u_t11] at u_t12
          rw [v_t11] at v_t12
          rw [a_t11, e_t11] at z_t12
          clear z_t10
          clear d_t11 w_t11 u_t11 v_t11 e_t11 a_t11 b_t11
          have I_n_t12 := I_n_t11.flat X_t12
          have f_n_t12 := f_n_t11.ex I_n_t11 (X_t12 0)
          have u_n_t12 := u_n_t11.ex I_n_t11 (X_t12 0)
          have I_m_mdt10_t12 := I_m_mdt10_t11.flat X_t12
          have f_m_mdt10_t12 := f_m_mdt10_t11.ex I_m_mdt10_t11 (X_t12 0)
          have la_n_t12 : m_la t12 n = (m_md t10) + 1 := by rw [j_t12.2.2.1]; exact la_n_t11
          have wl_n_t12 : m_wh t12 ((m_md t10)) = 66 := by rw [j_t12.1]; exact wl_n_t11
          clear la_n_t11 wl_n_t11
          refine Ok_bnc ?_
          try unfold b_X6_expression
          refine Kp_push C_t12 (by omega) (fun t14 C_t14 X_t14 a_t14 b_t14 d_t14 w_t14 u_t14 v_t14 j_t14 l_t14 => ?_)
          have e_t14 := C_t14.2.2.2.1
          rw [a_t12] at a_t14
          rw [b_t12] at b_t14
          rw [d_t12] at d_t14
          rw [w_t12] at w_t14
          rw [u_t12] at u_t14
          rw [v_t12] at v_t14
          clear d_t12 w_t12 u_t12 v_t12 e_t12 a_t12 b_t12
          have I_n_t14 := I_n_t12.flat X_t14
          have f_n_t14 := f_n_t12.ex I_n_t12 (X_t14 0)
          have u_n_t14 := u_n_t12.ex I_n_t12 (X_t14 0)
          have I_m_mdt10_t14 := I_m_mdt10_t12.flat X_t14
          have f_m_mdt10_t14 := f_m_mdt10_t12.ex I_m_mdt10_t12 (X_t14 0)
          have la_n_t14 : m_la t14 n = (m_md t10) + 1 := by rw [j_t14.2.2.1]; exact la_n_t12
          have wl_n_t14 : m_wh t14 ((m_md t10)) = 66 := by rw [j_t14.1]; exact wl_n_t12
          clear la_n_t12 wl_n_t12
          refine Kp_push C_t14 (by omega) (fun t15 C_t15 X_t15 a_t15 b_t15 d_t15 w_t15 u_t15 v_t15 j_t15 l_t15 => ?_)
          have e_t15 := C_t15.2.2.2.1
          rw [a_t14] at a_t15
          rw [b_t14] at b_t15
          rw [d_t14] at d_t15
          rw [w_t14] at w_t15
          rw [u_t14] at u_t15
          rw [v_t14] at v_t15
          clear d_t14 w_t14 u_t14 v_t14 e_t14 a_t14 b_t14
          have I_n_t15 := I_n_t14.flat X_t15
          have f_n_t15 := f_n_t14.ex I_n_t14 (X_t15 0)
          have u_n_t15 := u_n_t14.ex I_n_t14 (X_t15 0)
          have I_m_mdt10_t15 := I_m_mdt10_t14.flat X_t15
          have f_m_mdt10_t15 := f_m_mdt10_t14.ex I_m_mdt10_t14 (X_t15 0)
          have la_n_t15 : m_la t15 n = (m_md t10) + 1 := by rw [j_t15.2.2.1]; exact la_n_t14
          have wl_n_t15 : m_wh t15 ((m_md t10)) = 66 := by rw [j_t15.1]; exact wl_n_t14
          clear la_n_t14 wl_n_t14
          refine Ok_ret (show Ok _ _ _ from ?_)
          refine Ok_ret (show Ok _ _ _ from ?_)
          refine Ok_ifz1 ?_
          refine Ok_ret (show Ok _ _ _ from ?_)
          refine Hv_mk (Kv_c (x := (3, m_md t10, 1)) rfl (Kv_c (x := (2, m_md t10, 1 ||| (1 * 256))) rfl hK)) (C_t15.1.2.2.2.2.2.2 hTt) C_t15 hT (by omega) (by omega) (by omega) ?_ ?_ ?_ (by omega) ?_ ?_ ?_
          · exact ⟨(Io_n (by decide) (by decide) I_m_mdt10_t15.1 I_m_mdt10_t15.2.1 I_m_mdt10_t15.2.2.1 (fun q => absurd q (by decide)) (fun q => absurd q (by decide)) I_m_mdt10_t15.2.2.2), (Nd_0 (by decide) Mo_nil), ⟨(Io_2 (by have := or_256 (b := 1) (show 1 < 256 from by omega); omega) (by have := or_256 (b := 1) (show 1 < 256 from by omega); omega) (by have := or_256 (b := 1) (show 1 < 256 from by omega); omega) I_m_mdt10_t15.1 I_m_mdt10_t15.2.1 I_m_mdt10_t15.2.2.1 I_m_mdt10_t15.2.2.2), (Nd_A (by decide) (Mo_cons (fun q => show m_md t10 ≤ m_md t10 from by omega) Mo_nil) (Or.inr ⟨(3, m_md t10, 1), List.mem_cons_self, rfl, Or.inl rfl⟩)), Stk_step (N := n) (pop := (42, n, t)) (new := [(2, m_md t10, 1 ||| (1 * 256)), (3, m_md t10, 1)]) F0 C_t15.1.to2 (fun (h : nk 42 = false) => absurd h (by decide)) (fun q _ h => h (42, n, t) rfl) (fun _ => rfl) (fun y hy hk => ⟨rfl, (Mo_cons (fun q => show n ≤ m_md t10 from by omega) (Mo_cons (fun q => show n ≤ m_md t10 from by omega) Mo_nil)) y hy hk⟩) (fun (h : 42 = 3 ∨ 42 = 18 ∨ 42 = 41) => absurd h (by decide)) (fun (h : 42 = 18) => absurd h (by decide)) (fun _ h16 => (Or.inr ⟨f_n_t15, (Ab_some (y := (2, m_md t10, 1 ||| (1 * 256))) rfl (show n < m_md t10 from by omega)), H50_no la_n_t15 wl_n_t15 (by decide)⟩)) r [] (fun y hy => absurd hy List.not_mem_nil) hS⟩⟩
          · exact (Aj_up (x := (3, m_md t10, 1)) (Aj_sub (y := (2, m_md t10, 1 ||| (1 * 256))) hJ (show 9 - (1 ||| (1 * 256)) / 256 ≤ 10 from by have := or_256 (b := 1) (show 1 < 256 from by omega); omega)) (Or.inr (show 2 < 9 - (1 ||| (1 * 256)) / 256 from by have := or_256 (b := 1) (show 1 < 256 from by omega); omega)))
          · show m_dp t15 = (dlt 3 + (dlt 2 + sD r))
            have : dlt 2 = 0 := rfl; have : dlt 3 = 0 := rfl; have : dlt 42 = 0 := rfl; omega
          · show m_rw t15 = (rho 3 + (rho 2 + sR r))
            have : rho 2 = 0 := rfl; have : rho 3 = 0 := rfl; have : rho 42 = 0 := rfl; omega
          · show m_md t15 + (mu7 3 + (mu7 2 + sM r)) ≤ 3 * m_at t15 + 7 * (r.length + 1 + 1) + 10
            have : mu7 2 = 7 := rfl; have : mu7 3 = 5 := rfl; have : mu7 42 = 8 := rfl; omega
          · show (wt 3 + (wt 2 + sW r)) + 6 * (4096 - m_at t15) + 4 * (600 - (r.length + 1 + 1)) < (wt 42 + sW r) + 6 * (4096 - m_at t0) + 4 * (600 - (r.length + 1))
            have : wt 2 = 5 := rfl; have : wt 3 = 3 := rfl; have : wt 42 = 5 := rfl; omega
        · have z_t16 : m_at t4 < m_ct t4 := lo_ne (Nat.ne_of_gt (show 0 < lo t4 (m_at t4) from by omega))
          refine Kp_at C_t4 (fun t16 C_t16 X_t16 a_t16 b_t16 d_t16 w_t16 u_t16 v_t16 j_t16 l_t16 => ?_)
          have e_t16 := C_t16.2.2.2.1
          rw [a_t4] at a_t16
          rw [b_t4] at b_t16
          rw [d_t4] at d_t16
          rw [w_t4] at w_t16
          rw [u_t4] at u_t16
          rw [v_t4] at v_t16
          rw [a_t4, e_t4] at z_t16
          clear d_t4 w_t4 u_t4 v_t4 e_t4 b_t4
          have I_n_t16 := I_n_t4.flat X_t16
          have f_n_t16 := f_n_t4.ex I_n_t4 (X_t16 0)
          have u_n_t16 := u_n_t4.ex I_n_t4 (X_t16 0)
          have I_m_mdt0_t16 := I_m_mdt0_t4.flat X_t16
          have f_m_mdt0_t16 := f_m_mdt0_t4.ex I_m_mdt0_t4 (X_t16 0)
          have la_n_t16 : m_la t16 n = (m_md t0) + 1 := by rw [j_t16.2.2.1]; exact la_n_t4
          have wl_n_t16 : m_wh t16 ((m_md t0)) = 12 := by rw [j_t16.1]; exact wl_n_t4
          clear la_n_t4 wl_n_t4
          refine Kp_wrap C_t16 I_n_t16.1 I_n_t16.2.1 f_n_t16 I_n_t16.2.2.1 (by omega) (by omega) (by decide) (fun t17 C_t17 X_t17 a_t17 b_t17 d_t17 w_t17 u_t17 v_t17 j_t17 l_t17 => ?_)
          have e_t17 := C_t17.2.2.2.1
          rw [a_t16] at a_t17
          rw [b_t16] at b_t17
          rw [d_t16] at d_t17
          rw [w_t16] at w_t17
          rw [u_t16] at u_t17
          rw [v_t16] at v_t17
          clear d_t16 w_t16 u_t16 v_t16 e_t16 a_t16
          have I_n_t17 := I_n_t16.le X_t17 (by omega)
          have f_n_t17 := f_n_t16.ex I_n_t16 (X_t17 0 (Nat.zero_le _))
          have u_n_t17 := u_n_t16.ex I_n_t16 (X_t17 0 (Nat.zero_le _))
          have I_m_mdt16_t17 : Nq t17 (m_md t16) := Nq.wrn j_t17 (by omega) I_n_t16 (by decide)
          have f_m_mdt16_t17 : Fz t17 (m_md t16) := by unfold Fz; rw [j_t17.2.1]; exact j_t17.2.2.1
          have la_n_t17 : m_la t17 n = (m_md t16) + 1 := j_t17.2.2.2.2.2.2.2.1
          have wl_n_t17 : m_wh t17 (m_md t16) = 66 := j_t17.1
          have y9_t18 : m_at t17 = m_at t4 + 1 → lo t17 (m_at t17) = lo t4 (m_at t4 + 1) := fun h => lo_2 C_t17 C_t4 h
          have y8_t18 : lo t17 (m_at t17) = lo t4 (m_at t4 + 1) := y9_t18 (by omega)
          have z_t18 : m_at t17 < m_ct t17 := lo_ne (Nat.ne_of_gt (show 0 < lo t17 (m_at t17) from by omega))
          refine Kp_at C_t17 (fun t18 C_t18 X_t18 a_t18 b_t18 d_t18 w_t18 u_t18 v_t18 j_t18 l_t18 => ?_)
          have e_t18 := C_t18.2.2.2.1
          rw [a_t17] at a_t18
          rw [b_t17] at b_t18
          rw [d_t17] at d_t18
          rw [w_t17] at w_t18
          rw [u_t17] at u_t18
          rw [v_t17] at v_t18
          rw [a_t17, e_t17] at z_t18
          clear z_t16
          clear d_t17 w_t17 u_t17 v_t17 e_t17 a_t17 b_t17
          have I_n_t18 := I_n_t17.flat X_t18
          have f_n_t18 := f_n_t17.ex I_n_t17 (X_t18 0)
          have u_n_t18 := u_n_t17.ex I_n_t17 (X_t18 0)
          have I_m_mdt16_t18 := I_m_mdt16_t17.flat X_t18
          have f_m_mdt16_t18 := f_m_mdt16_t17.ex I_m_mdt16_t17 (X_t18 0)
          have la_n_t18 : m_la t18 n = (m_md t16) + 1 := by rw [j_t18.2.2.1]; exact la_n_t17
          have wl_n_t18 : m_wh t18 ((m_md t16)) = 66 := by rw [j_t18.1]; exact wl_n_t17
          clear la_n_t17 wl_n_t17
          refine Ok_bnc ?_
          try unfold b_X6_expression
          refine Kp_push C_t18 (by omega) (fun t20 C_t20 X_t20 a_t20 b_t20 d_t20 w_t20 u_t20 v_t20 j_t20 l_t20 => ?_)
          have e_t20 := C_t20.2.2.2.1
          rw [a_t18] at a_t20
          rw [b_t18] at b_t20
          rw [d_t18] at d_t20
          rw [w_t18] at w_t20
          rw [u_t18] at u_t20
          rw [v_t18] at v_t20
          clear d_t18 w_t18 u_t18 v_t18 e_t18 a_t18 b_t18
          have I_n_t20 := I_n_t18.flat X_t20
          have f_n_t20 := f_n_t18.ex I_n_t18 (X_t20 0)
          have u_n_t20 := u_n_t18.ex I_n_t18 (X_t20 0)
          have I_m_mdt16_t20 := I_m_mdt16_t18.flat X_t20
          have f_m_mdt16_t20 := f_m_mdt16_t18.ex I_m_mdt16_t18 (X_t20 0)
          have la_n_t20 : m_la t20 n = (m_md t16) + 1 := by rw [j_t20.2.2.1]; exact la_n_t18
          have wl_n_t20 : m_wh t20 ((m_md t16)) = 66 := by rw [j_t20.1]; exact wl_n_t18
          clear la_n_t18 wl_n_t18
          refine Kp_push C_t20 (by omega) (fun t21 C_t21 X_t21 a_t21 b_t21 d_t21 w_t21 u_t21 v_t21 j_t21 l_t21 => ?_)
          have e_t21 := C_t21.2.2.2.1
          rw [a_t20] at a_t21
          rw [b_t20] at b_t21
          rw [d_t20] at d_t21
          rw [w_t20] at w_t21
          rw [u_t20] at u_t21
          rw [v_t20] at v_t21
          clear d_t20 w_t20 u_t20 v_t20 e_t20 a_t20 b_t20
          have I_n_t21 := I_n_t20.flat X_t21
          have f_n_t21 := f_n_t20.ex I_n_t20 (X_t21 0)
          have u_n_t21 := u_n_t20.ex I_n_t20 (X_t21 0)
          have I_m_mdt16_t21 := I_m_mdt16_t20.flat X_t21
          have f_m_mdt16_t21 := f_m_mdt16_t20.ex I_m_mdt16_t20 (X_t21 0)
          have la_n_t21 : m_la t21 n = (m_md t16) + 1 := by rw [j_t21.2.2.1]; exact la_n_t20
          have wl_n_t21 : m_wh t21 ((m_md t16)) = 66 := by rw [j_t21.1]; exact wl_n_t20
          clear la_n_t20 wl_n_t20
          refine Ok_ret (show Ok _ _ _ from ?_)
          refine Ok_ret (show Ok _ _ _ from ?_)
          refine Ok_ifz1 ?_
          refine Ok_ret (show Ok _ _ _ from ?_)
          refine Hv_mk (Kv_c (x := (3, m_md t16, 1)) rfl (Kv_c (x := (2, m_md t16, 1 ||| (1 * 256))) rfl hK)) (C_t21.1.2.2.2.2.2.2 hTt) C_t21 hT (by omega) (by omega) (by omega) ?_ ?_ ?_ (by omega) ?_ ?_ ?_
          · exact ⟨(Io_n (by decide) (by decide) I_m_mdt16_t21.1 I_m_mdt16_t21.2.1 I_m_mdt16_t21.2.2.1 (fun q => absurd q (by decide)) (fun q => absurd q (by decide)) I_m_mdt16_t21.2.2.2), (Nd_0 (by decide) Mo_nil), ⟨(Io_2 (by have := or_256 (b := 1) (show 1 < 256 from by omega); omega) (by have := or_256 (b := 1) (show 1 < 256 from by omega); omega) (by have := or_256 (b := 1) (show 1 < 256 from by omega); omega) I_m_mdt16_t21.1 I_m_mdt16_t21.2.1 I_m_mdt16_t21.2.2.1 I_m_mdt16_t21.2.2.2), (Nd_A (by decide) (Mo_cons (fun q => show m_md t16 ≤ m_md t16 from by omega) Mo_nil) (Or.inr ⟨(3, m_md t16, 1), List.mem_cons_self, rfl, Or.inl rfl⟩)), Stk_step (N := n) (pop := (42, n, t)) (new := [(2, m_md t16, 1 ||| (1 * 256)), (3, m_md t16, 1)]) F0 C_t21.1.to2 (fun (h : nk 42 = false) => absurd h (by decide)) (fun q _ h => h (42, n, t) rfl) (fun _ => rfl) (fun y hy hk => ⟨rfl, (Mo_cons (fun q => show n ≤ m_md t16 from by omega) (Mo_cons (fun q => show n ≤ m_md t16 from by omega) Mo_nil)) y hy hk⟩) (fun (h : 42 = 3 ∨ 42 = 18 ∨ 42 = 41) => absurd h (by decide)) (fun (h : 42 = 18) => absurd h (by decide)) (fun _ h16 => (Or.inr ⟨f_n_t21, (Ab_some (y := (2, m_md t16, 1 ||| (1 * 256))) rfl (show n < m_md t16 from by omega)), H50_no la_n_t21 wl_n_t21 (by decide)⟩)) r [] (fun y hy => absurd hy List.not_mem_nil) hS⟩⟩
          · exact (Aj_up (x := (3, m_md t16, 1)) (Aj_sub (y := (2, m_md t16, 1 ||| (1 * 256))) hJ (show 9 - (1 ||| (1 * 256)) / 256 ≤ 10 from by have := or_256 (b := 1) (show 1 < 256 from by omega); omega)) (Or.inr (show 2 < 9 - (1 ||| (1 * 256)) / 256 from by have := or_256 (b := 1) (show 1 < 256 from by omega); omega)))
          · show m_dp t21 = (dlt 3 + (dlt 2 + sD r))
            have : dlt 2 = 0 := rfl; have : dlt 3 = 0 := rfl; have : dlt 42 = 0 := rfl; omega
          · show m_rw t21 = (rho 3 + (rho 2 + sR r))
            have : rho 2 = 0 := rfl; have : rho 3 = 0 := rfl; have : rho 42 = 0 := rfl; omega
          · show m_md t21 + (mu7 3 + (mu7 2 + sM r)) ≤ 3 * m_at t21 + 7 * (r.length + 1 + 1) + 10
            have : mu7 2 = 7 := rfl; have : mu7 3 = 5 := rfl; have : mu7 42 = 8 := rfl; omega
          · show (wt 3 + (wt 2 + sW r)) + 6 * (4096 - m_at t21) + 4 * (600 - (r.length + 1 + 1)) < (wt 42 + sW r) + 6 * (4096 - m_at t0) + 4 * (600 - (r.length + 1))
            have : wt 2 = 5 := rfl; have : wt 3 = 3 := rfl; have : wt 42 = 5 := rfl; omega
      · refine Ok_ret (show Ok _ _ _ from ?_)
        refine Ok_ifz0 ?_
        refine Kp_wrap C_t4 I_n_t4.1 I_n_t4.2.1 f_n_t4 I_n_t4.2.2.1 (by omega) (by omega) (by decide) (fun t22 C_t22 X_t22 a_t22 b_t22 d_t22 w_t22 u_t22 v_t22 j_t22 l_t22 => ?_)
        have e_t22 := C_t22.2.2.2.1
        rw [a_t4] at a_t22
        rw [b_t4] at b_t22
        rw [d_t4] at d_t22
        rw [w_t4] at w_t22
        rw [u_t4] at u_t22
        rw [v_t4] at v_t22
        clear d_t4 w_t4 u_t4 v_t4 e_t4
        have I_n_t22 := I_n_t4.le X_t22 (by omega)
        have f_n_t22 := f_n_t4.ex I_n_t4 (X_t22 0 (Nat.zero_le _))
        have u_n_t22 := u_n_t4.ex I_n_t4 (X_t22 0 (Nat.zero_le _))
        have I_m_mdt4_t22 : Nq t22 (m_md t4) := Nq.wrn j_t22 (by omega) I_n_t4 (by decide)
        have f_m_mdt4_t22 : Fz t22 (m_md t4) := by unfold Fz; rw [j_t22.2.1]; exact j_t22.2.2.1
        have la_n_t22 : m_la t22 n = (m_md t4) + 1 := j_t22.2.2.2.2.2.2.2.1
        have wl_n_t22 : m_wh t22 (m_md t4) = 56 := j_t22.1
        have hv_m_mdt4_t22 : V56 t22 (m_md t4) (m_md t0) n := ⟨by rw [j_t22.2.1]; exact la_n_t4, j_t22.2.2.2.2.1⟩
        have z_t23 : m_at t22 < m_ct t22 := lo_ne (Nat.ne_of_gt (show 0 < lo t22 (m_at t22) from by omega))
        refine Kp_at C_t22 (fun t23 C_t23 X_t23 a_t23 b_t23 d_t23 w_t23 u_t23 v_t23 j_t23 l_t23 => ?_)
        have e_t23 := C_t23.2.2.2.1
        rw [a_t22] at a_t23
        rw [b_t22] at b_t23
        rw [d_t22] at d_t23
        rw [w_t22] at w_t23
        rw [u_t22] at u_t23
        rw [v_t22] at v_t23
        rw [a_t22, e_t22] at z_t23
        clear d_t22 w_t22 u_t22 v_t22 e_t22 a_t22 b_t22
        have I_n_t23 := I_n_t22.flat X_t23
        have f_n_t23 := f_n_t22.ex I_n_t22 (X_t23 0)
        have u_n_t23 := u_n_t22.ex I_n_t22 (X_t23 0)
        have I_m_mdt4_t23 := I_m_mdt4_t22.flat X_t23
        have f_m_mdt4_t23 := f_m_mdt4_t22.ex I_m_mdt4_t22 (X_t23 0)
        have hv_m_mdt4_t23 : V56 t23 (m_md t4) (m_md t0) n := hv_m_mdt4_t22.flat j_t23
        have la_n_t23 : m_la t23 n = (m_md t4) + 1 := by rw [j_t23.2.2.1]; exact la_n_t22
        have wl_n_t23 : m_wh t23 ((m_md t4)) = 56 := by rw [j_t23.1]; exact wl_n_t22
        clear la_n_t22 wl_n_t22
        refine Ok_ck (show t &&& 255 < 2147483648 from by omega) ?_
        refine Ok_ifz (f6_has _ _) (fun q => absurd q hk2) (fun q => ?_)
        refine Ok_ifz1 ?_
        refine Ok_ck (show t &&& 255 < 2147483648 from by omega) ?_
        refine Ok_ifz (f6_has _ _) (fun q => ?_) (fun q => absurd hk3 q)
        refine Kp_push C_t23 (by omega) (fun t24 C_t24 X_t24 a_t24 b_t24 d_t24 w_t24 u_t24 v_t24 j_t24 l_t24 => ?_)
        have e_t24 := C_t24.2.2.2.1
        rw [a_t23] at a_t24
        rw [b_t23] at b_t24
        rw [d_t23] at d_t24
        rw [w_t23] at w_t24
        rw [u_t23] at u_t24
        rw [v_t23] at v_t24
        clear d_t23 w_t23 u_t23 v_t23 e_t23 a_t23 b_t23
        have I_n_t24 := I_n_t23.flat X_t24
        have f_n_t24 := f_n_t23.ex I_n_t23 (X_t24 0)
        have u_n_t24 := u_n_t23.ex I_n_t23 (X_t24 0)
        have I_m_mdt4_t24 := I_m_mdt4_t23.flat X_t24
        have f_m_mdt4_t24 := f_m_mdt4_t23.ex I_m_mdt4_t23 (X_t24 0)
        have hv_m_mdt4_t24 : V56 t24 (m_md t4) (m_md t0) n := hv_m_mdt4_t23.flat j_t24
        have la_n_t24 : m_la t24 n = (m_md t4) + 1 := by rw [j_t24.2.2.1]; exact la_n_t23
        have wl_n_t24 : m_wh t24 ((m_md t4)) = 56 := by rw [j_t24.1]; exact wl_n_t23
        clear la_n_t23 wl_n_t23
        refine Ok_ck (show t &&& 255 < 2147483648 from by omega) ?_
        refine Ok_ifz (f6_has _ _) (fun q => ?_) (fun q => absurd hk3 q)
        refine Ok_ck (show t &&& 255 < 2147483648 from by omega) ?_
        refine Ok_ifz (f6_has _ _) (fun q => absurd q hk2) (fun q => ?_)
        refine Ok_ifz1 ?_
        refine Ok_bnc ?_
        try unfold b_X6_right
        refine Kp_child C_t24 I_m_mdt4_t24.1 I_m_mdt4_t24.2.1 I_m_mdt4_t24.2.2.1 (by omega) (by omega) (by decide) (by decide) (fun t26 C_t26 X_t26 a_t26 b_t26 d_t26 w_t26 u_t26 v_t26 j_t26 l_t26 => ?_)
        have e_t26 := C_t26.2.2.2.1
        rw [a_t24] at a_t26
        rw [b_t24] at b_t26
        rw [d_t24] at d_t26
        rw [w_t24] at w_t26
        rw [u_t24] at u_t26
        rw [v_t24] at v_t26
        clear d_t24 w_t24 u_t24 v_t24 e_t24 a_t24
        have I_n_t26 := I_n_t24.chd X_t26 j_t26
        have f_n_t26 := f_n_t24.ex I_n_t24 (X_t26 0 (Nat.zero_le _))
        have u_n_t26 := u_n_t24.ex I_n_t24 (X_t26 0 (Nat.zero_le _))
        have I_m_mdt4_t26 := I_m_mdt4_t24.chd X_t26 j_t26
        have f_m_mdt4_t26 := f_m_mdt4_t24.ex I_m_mdt4_t24 (X_t26 0 (Nat.zero_le _))
        have hv_m_mdt4_t26 : V56 t26 (m_md t4) (m_md t0) n := hv_m_mdt4_t24.chd I_m_mdt4_t24.1 j_t26
        have la_n_t26 : m_la t26 n = (m_md t4) + 1 := by rw [(j_t26.2.2.2.2.2.2.2.1 n I_n_t24.1 (by omega)).1]; exact la_n_t24
        have wl_n_t26 : m_wh t26 ((m_md t4)) = 56 := by rw [(j_t26.2.2.2.2.2.2.1 ((m_md t4)) (by omega)).2]; exact wl_n_t24
        clear la_n_t24 wl_n_t24
        have f_m_mdt4_t26 : Fz t26 (m_md t4) := j_t26.2.2.2.2.1
        have I_m_mdt24_t26 : Nq t26 (m_md t24) := Nq.chn j_t26 (by omega) I_m_mdt4_t24 (by decide)
        have u_m_mdt24_t26 : Up t26 (m_md t24) := Or.inl j_t26.2.1
        have la_m_mdt4_t26 : m_la t26 (m_md t4) = (m_md t24) + 1 := j_t26.2.2.2.2.2.1
        have wl_m_mdt4_t26 : m_wh t26 (m_md t24) = 13 := j_t26.1
        have x69_t26 : U69 t26 (m_md t24) := fun h => absurd j_t26.2.2.1 h
        refine Ok_ck (show t &&& 255 < 2147483648 from by omega) ?_
        refine Ok_ifz (f6_has _ _) (fun q27 => ?_) (fun q27 => ?_)
        · refine Kp_push C_t26 (by omega) (fun t28 C_t28 X_t28 a_t28 b_t28 d_t28 w_t28 u_t28 v_t28 j_t28 l_t28 => ?_)
          have e_t28 := C_t28.2.2.2.1
          rw [a_t26] at a_t28
          rw [b_t26] at b_t28
          rw [d_t26] at d_t28
          rw [w_t26] at w_t28
          rw [u_t26] at u_t28
          rw [v_t26] at v_t28
          clear d_t26 w_t26 u_t26 v_t26 e_t26 a_t26 b_t26
          have I_n_t28 := I_n_t26.flat X_t28
          have f_n_t28 := f_n_t26.ex I_n_t26 (X_t28 0)
          have u_n_t28 := u_n_t26.ex I_n_t26 (X_t28 0)
          have I_m_mdt4_t28 := I_m_mdt4_t26.flat X_t28
          have f_m_mdt4_t28 := f_m_mdt4_t26.ex I_m_mdt4_t26 (X_t28 0)
          have I_m_mdt24_t28 := I_m_mdt24_t26.flat X_t28
          have u_m_mdt24_t28 := u_m_mdt24_t26.ex I_m_mdt24_t26 (X_t28 0)
          have hv_m_mdt4_t28 : V56 t28 (m_md t4) (m_md t0) n := hv_m_mdt4_t26.flat j_t28
          have x69_t28 : U69 t28 (m_md t24) := U69_flat j_t28 x69_t26
          have la_n_t28 : m_la t28 n = (m_md t4) + 1 := by rw [j_t28.2.2.1]; exact la_n_t26
          have wl_n_t28 : m_wh t28 ((m_md t4)) = 56 := by rw [j_t28.1]; exact wl_n_t26
          clear la_n_t26 wl_n_t26
          have la_m_mdt4_t28 : m_la t28 (m_md t4) = (m_md t24) + 1 := by rw [j_t28.2.2.1]; exact la_m_mdt4_t26
          have wl_m_mdt4_t28 : m_wh t28 ((m_md t24)) = 13 := by rw [j_t28.1]; exact wl_m_mdt4_t26
          clear la_m_mdt4_t26 wl_m_mdt4_t26
          refine Ok_bnc ?_
          try unfold b_X6_expression
          refine Kp_push C_t28 (by omega) (fun t30 C_t30 X_t30 a_t30 b_t30 d_t30 w_t30 u_t30 v_t30 j_t30 l_t30 => ?_)
          have e_t30 := C_t30.2.2.2.1
          rw [a_t28] at a_t30
          rw [b_t28] at b_t30
          rw [d_t28] at d_t30
          rw [w_t28] at w_t30
          rw [u_t28] at u_t30
          rw [v_t28] at v_t30
          clear d_t28 w_t28 u_t28 v_t28 e_t28 a_t28 b_t28
          have I_n_t30 := I_n_t28.flat X_t30
          have f_n_t30 := f_n_t28.ex I_n_t28 (X_t30 0)
          have u_n_t30 := u_n_t28.ex I_n_t28 (X_t30 0)
          have I_m_mdt4_t30 := I_m_mdt4_t28.flat X_t30
          have f_m_mdt4_t30 := f_m_mdt4_t28.ex I_m_mdt4_t28 (X_t30 0)
          have I_m_mdt24_t30 := I_m_mdt24_t28.flat X_t30
          have u_m_mdt24_t30 := u_m_mdt24_t28.ex I_m_mdt24_t28 (X_t30 0)
          have hv_m_mdt4_t30 : V56 t30 (m_md t4) (m_md t0) n := hv_m_mdt4_t28.flat j_t30
          have x69_t30 : U69 t30 (m_md t24) := U69_flat j_t30 x69_t28
          have la_n_t30 : m_la t30 n = (m_md t4) + 1 := by rw [j_t30.2.2.1]; exact la_n_t28
          have wl_n_t30 : m_wh t30 ((m_md t4)) = 56 := by rw [j_t30.1]; exact wl_n_t28
          clear la_n_t28 wl_n_t28
          have la_m_mdt4_t30 : m_la t30 (m_md t4) = (m_md t24) + 1 := by rw [j_t30.2.2.1]; exact la_m_mdt4_t28
          have wl_m_mdt4_t30 : m_wh t30 ((m_md t24)) = 13 := by rw [j_t30.1]; exact wl_m_mdt4_t28
          clear la_m_mdt4_t28 wl_m_mdt4_t28
          refine Kp_push C_t30 (by omega) (fun t31 C_t31 X_t31 a_t31 b_t31 d_t31 w_t31 u_t31 v_t31 j_t31 l_t31 => ?_)
          have e_t31 := C_t31.2.2.2.1
          rw [a_t30] at a_t31
          rw [b_t30] at b_t31
          rw [d_t30] at d_t31
          rw [w_t30] at w_t31
          rw [u_t30] at u_t31
          rw [v_t30] at v_t31
          clear d_t30 w_t30 u_t30 v_t30 e_t30 a_t30 b_t30
          have I_n_t31 := I_n_t30.flat X_t31
          have f_n_t31 := f_n_t30.ex I_n_t30 (X_t31 0)
          have u_n_t31 := u_n_t30.ex I_n_t30 (X_t31 0)
          have I_m_mdt4_t31 := I_m_mdt4_t30.flat X_t31
          have f_m_mdt4_t31 := f_m_mdt4_t30.ex I_m_mdt4_t30 (X_t31 0)
          have I_m_mdt24_t31 := I_m_mdt24_t30.flat X_t31
          have u_m_mdt24_t31 := u_m_mdt24_t30.ex I_m_mdt24_t30 (X_t31 0)
          have hv_m_mdt4_t31 : V56 t31 (m_md t4) (m_md t0) n := hv_m_mdt4_t30.flat j_t31
          have x69_t31 : U69 t31 (m_md t24) := U69_flat j_t31 x69_t30
          have la_n_t31 : m_la t31 n = (m_md t4) + 1 := by rw [j_t31.2.2.1]; exact la_n_t30
          have wl_n_t31 : m_wh t31 ((m_md t4)) = 56 := by rw [j_t31.1]; exact wl_n_t30
          clear la_n_t30 wl_n_t30
          have la_m_mdt4_t31 : m_la t31 (m_md t4) = (m_md t24) + 1 := by rw [j_t31.2.2.1]; exact la_m_mdt4_t30
          have wl_m_mdt4_t31 : m_wh t31 ((m_md t24)) = 13 := by rw [j_t31.1]; exact wl_m_mdt4_t30
          clear la_m_mdt4_t30 wl_m_mdt4_t30
          refine Ok_ret (show Ok _ _ _ from ?_)
          refine Ok_ret (show Ok _ _ _ from ?_)
          refine Ok_ret (show Ok _ _ _ from ?_)
          have h56 : N56 t31 (m_md t4) [(32, m_md t24, (t &&& 255) &&& 1), (2, m_md t24, (((t &&& 255) &&& 1) ||| 2) ||| (1 * 256)), (3, m_md t24, ((t &&& 255) &&& 1) ||| 2)] := N56_mk hv_m_mdt4_t31 la_m_mdt4_t31 (by omega) (by omega) (by omega) (by omega) (fun y hy => by cases hy; show m_md t24 ≤ m_md t24; omega) I_n_t31 I_m_mdt24_t31 u_m_mdt24_t31 x69_t31 (Or.inr ⟨(3, m_md t24, ((t &&& 255) &&& 1) ||| 2), (List.mem_cons_of_mem _ (List.mem_cons_of_mem _ List.mem_cons_self)), rfl, Or.inl rfl⟩)
          refine Hv_mk (Kv_c (x := (3, m_md t24, ((t &&& 255) &&& 1) ||| 2)) rfl (Kv_c (x := (2, m_md t24, (((t &&& 255) &&& 1) ||| 2) ||| (1 * 256))) rfl (Kv_c (x := (32, m_md t24, (t &&& 255) &&& 1)) rfl (Kv_c (x := (56, m_md t4, 1)) rfl hK)))) (C_t31.1.2.2.2.2.2.2 hTt) C_t31 hT (by omega) (by omega) (by omega) ?_ ?_ ?_ (by omega) ?_ ?_ ?_
          · exact ⟨(Io_n (by decide) (show ((t &&& 255) &&& 1) ||| 2 < 4096 from by omega) I_m_mdt24_t31.1 I_m_mdt24_t31.2.1 I_m_mdt24_t31.2.2.1 (fun q => absurd q (by decide)) (fun q => absurd q (by decide)) I_m_mdt24_t31.2.2.2), (Nd_0 (by decide) Mo_nil), ⟨(Io_2 (by have := or_256 (b := 1) (show (((t &&& 255) &&& 1) ||| 2) < 256 from by omega); omega) (by have := or_256 (b := 1) (show (((t &&& 255) &&& 1) ||| 2) < 256 from by omega); omega) (by have := or_256 (b := 1) (show (((t &&& 255) &&& 1) ||| 2) < 256 from by omega); omega) I_m_mdt24_t31.1 I_m_mdt24_t31.2.1 I_m_mdt24_t31.2.2.1 I_m_mdt24_t31.2.2.2), (Nd_A (by decide) (Mo_cons (fun q => show m_md t24 ≤ m_md t24 from by omega) Mo_nil) (Or.inr ⟨(3, m_md t24, ((t &&& 255) &&& 1) ||| 2), List.mem_cons_self, rfl, Or.inl rfl⟩)), ⟨(Io_n (by decide) (show (t &&& 255) &&& 1 < 4096 from by omega) I_m_mdt24_t31.1 I_m_mdt24_t31.2.1 I_m_mdt24_t31.2.2.1 (fun q => absurd q (by decide)) (fun q => absurd q (by decide)) I_m_mdt24_t31.2.2.2), (Nd_0 (by decide) (Mo_cons (fun q => show m_md t24 ≤ m_md t24 from by omega) (Mo_cons (fun q => show m_md t24 ≤ m_md t24 from by omega) Mo_nil))), ⟨(Io_n (by decide) (by decide) I_m_mdt4_t31.1 I_m_mdt4_t31.2.1 I_m_mdt4_t31.2.2.1 (fun q => absurd q (by decide)) (fun q => absurd q (by decide)) I_m_mdt4_t31.2.2.2), (Nd_56 (Mo_cons (fun q => show m_md t4 ≤ m_md t24 from by omega) (Mo_cons (fun q => show m_md t4 ≤ m_md t24 from by omega) (Mo_cons (fun q => show m_md t4 ≤ m_md t24 from by omega) Mo_nil))) (fun _ => h56)), Stk_step (N := n) (pop := (42, n, t)) (new := [(56, m_md t4, 1), (32, m_md t24, (t &&& 255) &&& 1), (2, m_md t24, (((t &&& 255) &&& 1) ||| 2) ||| (1 * 256)), (3, m_md t24, ((t &&& 255) &&& 1) ||| 2)]) F0 C_t31.1.to2 (fun (h : nk 42 = false) => absurd h (by decide)) (fun q _ h => h (42, n, t) rfl) (fun _ => rfl) (fun y hy hk => ⟨rfl, (Mo_cons (fun q => show n ≤ m_md t4 from by omega) (Mo_cons (fun q => show n ≤ m_md t24 from by omega) (Mo_cons (fun q => show n ≤ m_md t24 from by omega) (Mo_cons (fun q => show n ≤ m_md t24 from by omega) Mo_nil)))) y hy hk⟩) (fun (h : 42 = 3 ∨ 42 = 18 ∨ 42 = 41) => absurd h (by decide)) (fun (h : 42 = 18) => absurd h (by decide)) (fun _ h16 => (Or.inr ⟨f_n_t31, (Ab_some (y := (56, m_md t4, 1)) rfl (show n < m_md t4 from by omega)), H50_no la_n_t31 wl_n_t31 (by decide)⟩)) r [] (fun y hy => absurd hy List.not_mem_nil) hS⟩⟩⟩⟩
          · exact (Aj_up (x := (3, m_md t24, ((t &&& 255) &&& 1) ||| 2)) (Aj_up (x := (2, m_md t24, (((t &&& 255) &&& 1) ||| 2) ||| (1 * 256))) (Aj_up (x := (32, m_md t24, (t &&& 255) &&& 1)) (Aj_sub (y := (56, m_md t4, 1)) hJ (Nat.le_of_ble_eq_true rfl)) (Or.inr (Nat.le_of_ble_eq_true rfl))) (Or.inr (show 9 - ((((t &&& 255) &&& 1) ||| 2) ||| (1 * 256)) / 256 < 9 from by have := or_256 (b := 1) (show (((t &&& 255) &&& 1) ||| 2) < 256 from by omega); omega))) (Or.inr (show 2 < 9 - ((((t &&& 255) &&& 1) ||| 2) ||| (1 * 256)) / 256 from by have := or_256 (b := 1) (show (((t &&& 255) &&& 1) ||| 2) < 256 from by omega); omega)))
          · show m_dp t31 = (dlt 3 + (dlt 2 + (dlt 32 + (dlt 56 + sD r))))
            have : dlt 2 = 0 := rfl; have : dlt 3 = 0 := rfl; have : dlt 32 = 0 := rfl; have : dlt 42 = 0 := rfl; have : dlt 56 = 0 := rfl; omega
          · show m_rw t31 = (rho 3 + (rho 2 + (rho 32 + (rho 56 + sR r))))
            have : rho 2 = 0 := rfl; have : rho 3 = 0 := rfl; have : rho 32 = 0 := rfl; have : rho 42 = 0 := rfl; have : rho 56 = 0 := rfl; omega
          · show m_md t31 + (mu7 3 + (mu7 2 + (mu7 32 + (mu7 56 + sM r)))) ≤ 3 * m_at t31 + 7 * (r.length + 1 + 1 + 1 + 1) + 10
            have : mu7 2 = 7 := rfl; have : mu7 3 = 5 := rfl; have : mu7 32 = 7 := rfl; have : mu7 42 = 8 := rfl; have : mu7 56 = 7 := rfl; omega
          · show (wt 3 + (wt 2 + (wt 32 + (wt 56 + sW r)))) + 6 * (4096 - m_at t31) + 4 * (600 - (r.length + 1 + 1 + 1 + 1)) < (wt 42 + sW r) + 6 * (4096 - m_at t0) + 4 * (600 - (r.length + 1))
            have : wt 2 = 5 := rfl; have : wt 3 = 3 := rfl; have : wt 32 = 5 := rfl; have : wt 42 = 5 := rfl; have : wt 56 = 5 := rfl; omega
        · refine Ok_bnc ?_
          try unfold b_X6_expression
          refine Kp_push C_t26 (by omega) (fun t33 C_t33 X_t33 a_t33 b_t33 d_t33 w_t33 u_t33 v_t33 j_t33 l_t33 => ?_)
          have e_t33 := C_t33.2.2.2.1
          rw [a_t26] at a_t33
          rw [b_t26] at b_t33
          rw [d_t26] at d_t33
          rw [w_t26] at w_t33
          rw [u_t26] at u_t33
          rw [v_t26] at v_t33
          clear d_t26 w_t26 u_t26 v_t26 e_t26 a_t26 b_t26
          have I_n_t33 := I_n_t26.flat X_t33
          have f_n_t33 := f_n_t26.ex I_n_t26 (X_t33 0)
          have u_n_t33 := u_n_t26.ex I_n_t26 (X_t33 0)
          have I_m_mdt4_t33 := I_m_mdt4_t26.flat X_t33
          have f_m_mdt4_t33 := f_m_mdt4_t26.ex I_m_mdt4_t26 (X_t33 0)
          have I_m_mdt24_t33 := I_m_mdt24_t26.flat X_t33
          have u_m_mdt24_t33 := u_m_mdt24_t26.ex I_m_mdt24_t26 (X_t33 0)
          have hv_m_mdt4_t33 : V56 t33 (m_md t4) (m_md t0) n := hv_m_mdt4_t26.flat j_t33
          have x69_t33 : U69 t33 (m_md t24) := U69_flat j_t33 x69_t26
          have la_n_t33 : m_la t33 n = (m_md t4) + 1 := by rw [j_t33.2.2.1]; exact la_n_t26
          have wl_n_t33 : m_wh t33 ((m_md t4)) = 56 := by rw [j_t33.1]; exact wl_n_t26
          clear la_n_t26 wl_n_t26
          have la_m_mdt4_t33 : m_la t33 (m_md t4) = (m_md t24) + 1 := by rw [j_t33.2.2.1]; exact la_m_mdt4_t26
          have wl_m_mdt4_t33 : m_wh t33 ((m_md t24)) = 13 := by rw [j_t33.1]; exact wl_m_mdt4_t26
          clear la_m_mdt4_t26 wl_m_mdt4_t26
          refine Kp_push C_t33 (by omega) (fun t34 C_t34 X_t34 a_t34 b_t34 d_t34 w_t34 u_t34 v_t34 j_t34 l_t34 => ?_)
          have e_t34 := C_t34.2.2.2.1
          rw [a_t33] at a_t34
          rw [b_t33] at b_t34
          rw [d_t33] at d_t34
          rw [w_t33] at w_t34
          rw [u_t33] at u_t34
          rw [v_t33] at v_t34
          clear d_t33 w_t33 u_t33 v_t33 e_t33 a_t33 b_t33
          have I_n_t34 := I_n_t33.flat X_t34
          have f_n_t34 := f_n_t33.ex I_n_t33 (X_t34 0)
          have u_n_t34 := u_n_t33.ex I_n_t33 (X_t34 0)
          have I_m_mdt4_t34 := I_m_mdt4_t33.flat X_t34
          have f_m_mdt4_t34 := f_m_mdt4_t33.ex I_m_mdt4_t33 (X_t34 0)
          have I_m_mdt24_t34 := I_m_mdt24_t33.flat X_t34
          have u_m_mdt24_t34 := u_m_mdt24_t33.ex I_m_mdt24_t33 (X_t34 0)
          have hv_m_mdt4_t34 : V56 t34 (m_md t4) (m_md t0) n := hv_m_mdt4_t33.flat j_t34
          have x69_t34 : U69 t34 (m_md t24) := U69_flat j_t34 x69_t33
          have la_n_t34 : m_la t34 n = (m_md t4) + 1 := by rw [j_t34.2.2.1]; exact la_n_t33
          have wl_n_t34 : m_wh t34 ((m_md t4)) = 56 := by rw [j_t34.1]; exact wl_n_t33
          clear la_n_t33 wl_n_t33
          have la_m_mdt4_t34 : m_la t34 (m_md t4) = (m_md t24) + 1 := by rw [j_t34.2.2.1]; exact la_m_mdt4_t33
          have wl_m_mdt4_t34 : m_wh t34 ((m_md t24)) = 13 := by rw [j_t34.1]; exact wl_m_mdt4_t33
          clear la_m_mdt4_t33 wl_m_mdt4_t33
          refine Ok_ret (show Ok _ _ _ from ?_)
          refine Ok_ret (show Ok _ _ _ from ?_)
          refine Ok_ret (show Ok _ _ _ from ?_)
          have h56 : N56 t34 (m_md t4) [(2, m_md t24, (((t &&& 255) &&& 1) ||| 2) ||| (1 * 256)), (3, m_md t24, ((t &&& 255) &&& 1) ||| 2)] := N56_mk hv_m_mdt4_t34 la_m_mdt4_t34 (by omega) (by omega) (by omega) (by omega) (fun y hy => by cases hy; show m_md t24 ≤ m_md t24; omega) I_n_t34 I_m_mdt24_t34 u_m_mdt24_t34 x69_t34 (Or.inr ⟨(3, m_md t24, ((t &&& 255) &&& 1) ||| 2), (List.mem_cons_of_mem _ List.mem_cons_self), rfl, Or.inl rfl⟩)
          refine Hv_mk (Kv_c (x := (3, m_md t24, ((t &&& 255) &&& 1) ||| 2)) rfl (Kv_c (x := (2, m_md t24, (((t &&& 255) &&& 1) ||| 2) ||| (1 * 256))) rfl (Kv_c (x := (56, m_md t4, 1)) rfl hK))) (C_t34.1.2.2.2.2.2.2 hTt) C_t34 hT (by omega) (by omega) (by omega) ?_ ?_ ?_ (by omega) ?_ ?_ ?_
          · exact ⟨(Io_n (by decide) (show ((t &&& 255) &&& 1) ||| 2 < 4096 from by omega) I_m_mdt24_t34.1 I_m_mdt24_t34.2.1 I_m_mdt24_t34.2.2.1 (fun q => absurd q (by decide)) (fun q => absurd q (by decide)) I_m_mdt24_t34.2.2.2), (Nd_0 (by decide) Mo_nil), ⟨(Io_2 (by have := or_256 (b := 1) (show (((t &&& 255) &&& 1) ||| 2) < 256 from by omega); omega) (by have := or_256 (b := 1) (show (((t &&& 255) &&& 1) ||| 2) < 256 from by omega); omega) (by have := or_256 (b := 1) (show (((t &&& 255) &&& 1) ||| 2) < 256 from by omega); omega) I_m_mdt24_t34.1 I_m_mdt24_t34.2.1 I_m_mdt24_t34.2.2.1 I_m_mdt24_t34.2.2.2), (Nd_A (by decide) (Mo_cons (fun q => show m_md t24 ≤ m_md t24 from by omega) Mo_nil) (Or.inr ⟨(3, m_md t24, ((t &&& 255) &&& 1) ||| 2), List.mem_cons_self, rfl, Or.inl rfl⟩)), ⟨(Io_n (by decide) (by decide) I_m_mdt4_t34.1 I_m_mdt4_t34.2.1 I_m_mdt4_t34.2.2.1 (fun q => absurd q (by decide)) (fun q => absurd q (by decide)) I_m_mdt4_t34.2.2.2), (Nd_56 (Mo_cons (fun q => show m_md t4 ≤ m_md t24 from by omega) (Mo_cons (fun q => show m_md t4 ≤ m_md t24 from by omega) Mo_nil)) (fun _ => h56)), Stk_step (N := n) (pop := (42, n, t)) (new := [(56, m_md t4, 1), (2, m_md t24, (((t &&& 255) &&& 1) ||| 2) ||| (1 * 256)), (3, m_md t24, ((t &&& 255) &&& 1) ||| 2)]) F0 C_t34.1.to2 (fun (h : nk 42 = false) => absurd h (by decide)) (fun q _ h => h (42, n, t) rfl) (fun _ => rfl) (fun y hy hk => ⟨rfl, (Mo_cons (fun q => show n ≤ m_md t4 from by omega) (Mo_cons (fun q => show n ≤ m_md t24 from by omega) (Mo_cons (fun q => show n ≤ m_md t24 from by omega) Mo_nil))) y hy hk⟩) (fun (h : 42 = 3 ∨ 42 = 18 ∨ 42 = 41) => absurd h (by decide)) (fun (h : 42 = 18) => absurd h (by decide)) (fun _ h16 => (Or.inr ⟨f_n_t34, (Ab_some (y := (56, m_md t4, 1)) rfl (show n < m_md t4 from by omega)), H50_no la_n_t34 wl_n_t34 (by decide)⟩)) r [] (fun y hy => absurd hy List.not_mem_nil) hS⟩⟩⟩
          · exact (Aj_up (x := (3, m_md t24, ((t &&& 255) &&& 1) ||| 2)) (Aj_up (x := (2, m_md t24, (((t &&& 255) &&& 1) ||| 2) ||| (1 * 256))) (Aj_sub (y := (56, m_md t4, 1)) hJ (Nat.le_of_ble_eq_true rfl)) (Or.inr (show 9 - ((((t &&& 255) &&& 1) ||| 2) ||| (1 * 256)) / 256 < 10 from by have := or_256 (b := 1) (show (((t &&& 255) &&& 1) ||| 2) < 256 from by omega); omega))) (Or.inr (show 2 < 9 - ((((t &&& 255) &&& 1) ||| 2) ||| (1 * 256)) / 256 from by have := or_256 (b := 1) (show (((t &&& 255) &&& 1) ||| 2) < 256 from by omega); omega)))
          · show m_dp t34 = (dlt 3 + (dlt 2 + (dlt 56 + sD r)))
            have : dlt 2 = 0 := rfl; have : dlt 3 = 0 := rfl; have : dlt 42 = 0 := rfl; have : dlt 56 = 0 := rfl; omega
          · show m_rw t34 = (rho 3 + (rho 2 + (rho 56 + sR r)))
            have : rho 2 = 0 := rfl; have : rho 3 = 0 := rfl; have : rho 42 = 0 := rfl; have : rho 56 = 0 := rfl; omega
          · show m_md t34 + (mu7 3 + (mu7 2 + (mu7 56 + sM r))) ≤ 3 * m_at t34 + 7 * (r.length + 1 + 1 + 1) + 10
            have : mu7 2 = 7 := rfl; have : mu7 3 = 5 := rfl; have : mu7 42 = 8 := rfl; have : mu7 56 = 7 := rfl; omega
          · show (wt 3 + (wt 2 + (wt 56 + sW r))) + 6 * (4096 - m_at t34) + 4 * (600 - (r.length + 1 + 1 + 1)) < (wt 42 + sW r) + 6 * (4096 - m_at t0) + 4 * (600 - (r.length + 1))
            have : wt 2 = 5 := rfl; have : wt 3 = 3 := rfl; have : wt 42 = 5 := rfl; have : wt 56 = 5 := rfl; omega
    · try unfold lp_X6_simpleRest_348
      refine Kp_wrap C_t0 I_n_t0.1 I_n_t0.2.1 f_n_t0 I_n_t0.2.2.1 (by omega) (by omega) (by decide) (fun t35 C_t35 X_t35 a_t35 b_t35 d_t35 w_t35 u_t35 v_t35 j_t35 l_t35 => ?_)
      have e_t35 := C_t35.2.2.2.1
      have I_n_t35 := I_n_t0.le X_t35 (by omega)
      have f_n_t35 := f_n_t0.ex I_n_t0 (X_t35 0 (Nat.zero_le _))
      have u_n_t35 := u_n_t0.ex I_n_t0 (X_t35 0 (Nat.zero_le _))
      have hH : H50 t35 n := H50_mk F0 C_t35.2.1 I_n_t0 I_n_t35 f_n_t0 u_n_t0 j_t35 (by omega) hTt h69
      refine Hv_mk hK (C_t35.1.2.2.2.2.2.2 hTt) C_t35 hT (by omega) (by omega) (by omega) ?_ ?_ ?_ (by omega) ?_ ?_ ?_
      · exact Stk_step (N := n) (pop := (42, n, t)) (new := []) F0 C_t35.1.to2 (fun (h : nk 42 = false) => absurd h (by decide)) (fun q _ h => h (42, n, t) rfl) (fun _ => rfl) (fun y hy hk => ⟨rfl, Mo_nil (n := n) y hy hk⟩) (fun (h : 42 = 3 ∨ 42 = 18 ∨ 42 = 41) => absurd h (by decide)) (fun (h : 42 = 18) => absurd h (by decide)) (fun _ h16 => (Or.inr ⟨f_n_t35, (Ab_none rfl), hH⟩)) r [] (fun y hy => absurd hy List.not_mem_nil) hS
      · exact Aj_tl hJ
      · show m_dp t35 = sD r
        have : dlt 42 = 0 := rfl; omega
      · show m_rw t35 = sR r
        have : rho 42 = 0 := rfl; omega
      · show m_md t35 + sM r ≤ 3 * m_at t35 + 7 * (r.length) + 10
        have : mu7 42 = 8 := rfl; omega
      · show sW r + 6 * (4096 - m_at t35) + 4 * (600 - (r.length)) < (wt 42 + sW r) + 6 * (4096 - m_at t0) + 4 * (600 - (r.length + 1))
        have : wt 42 = 5 := rfl; omega

