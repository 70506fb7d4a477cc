/-! The steps of the reference, one by one. -/
theorem Q_simpleRest_221_t76bbb {t0 : Mm} {n t : Nat} {r : List It} (H : Hp t0 (42, n, t) r) {E : Mm → Prop} (y6 : Nat) (h6 : y6 ≤ 1) (h69 : m_wh t0 (m_la t0 n - 1) ≠ 69) (hk0 : lo t0 (m_at t0) = 76) (hk1 : f_X6_has (t &&& 255) 4 ≠ 0) (hk2 : f_X6_has (t &&& 255) 8 ≠ 0) (hk3 : f_X6_has (t &&& 255) 16 ≠ 0) : Ok (Qh (mz t0 ((42, n, t) :: r))) E (lp_X6_simpleRest_221 n (t &&& 255) (t / 256) (lo t0 (m_at t0)) y6 t0) := by
  obtain ⟨hK, hT, hc, hw0, ha, hC, hS, hJ, hdp, hdl, hrw, hmd, htd, hln, hm16, hI, hD, hTt⟩ := Hp_out H
  have C_t0 := hC n
  have F0 := C_t0.2.1
  have I_n_t0 : Nq t0 n := ⟨(hI.2.1 rfl).1, (hI.2.1 rfl).2.1, (hI.2.1 rfl).2.2, hI.2.2.2 rfl⟩
  have m_n_t0 := I_n_t0.1
  have ht : t < 2097152 := hI.1.2.2.1 rfl
  have h255 : t &&& 255 ≤ 255 := Nat.and_le_right
  have hand2 : t &&& 255 &&& 1 ≤ 1 := Nat.and_le_right
  have hdp : m_dp t0 = dlt 42 + sD r := hdp
  have hrw : m_rw t0 = rho 42 + sR r := hrw
  have hmd : m_md t0 + mu7 42 + sM r ≤ 3 * m_at t0 + 7 * r.length + 17 := hmd
  have hand : t &&& 1 ≤ 1 := Nat.and_le_right
  have h01 : (0 &&& 1 : Nat) = 0 := rfl
  have hor0 : (t &&& 255 &&& 1) ||| 0 ≤ 1 := by rw [Nat.or_zero]; exact hand2
  have hor2 : (t &&& 255 &&& 1) ||| 2 < 4 := Nat.or_lt_two_pow (n := 2) (by omega) (by decide)
  have h02 : (1 : Nat) * 256 = 256 := rfl
  have hq1 : dlt 42 = 0 := rfl
  have hq2 : rho 42 = 0 := rfl
  have hq3 : mu7 42 = 8 := rfl
  have f_n_t0 : Fz t0 n := (hD.2.1 (show 42 = 2 ∨ 42 = 4 ∨ 42 = 42 ∨ 42 = 50 by decide)).resolve_right (fun ⟨y, hy, _⟩ => absurd hy List.not_mem_nil)
  obtain ⟨hla0, hla2, -, -⟩ := Fo_lp F0 I_n_t0 f_n_t0
  have hla1 : m_la t0 n - 1 < m_md t0 := by omega
  have u_n_t0 : Up t0 n := hI.2.2.1 rfl
  unfold lp_X6_simpleRest_221
  refine Ok_ife (Nat.lt_trans (lo_lt (C_t0.tk hT) _) (by decide)) (by decide) (fun q => absurd (hk0.symm.trans q) (by decide)) (fun _ => ?_)
  refine Ok_ife (Nat.lt_trans (lo_lt (C_t0.tk hT) _) (by decide)) (by decide) (fun q => absurd (hk0.symm.trans q) (by decide)) (fun _ => ?_)
  refine Ok_ife (Nat.lt_trans (lo_lt (C_t0.tk hT) _) (by decide)) (by decide) (fun q => ?_) (fun q => absurd hk0 q)
  refine Ok_ifz (show y6 < 2147483648 from by omega) (fun q1 => ?_) (fun q1 => ?_)
  · try unfold lp_X6_simpleRest_348
    refine Kp_wrap C_t0 I_n_t0.1 I_n_t0.2.1 f_n_t0 I_n_t0.2.2.1 (by omega) (by omega) (by decide) (fun t2 C_t2 X_t2 a_t2 b_t2 d_t2 w_t2 u_t2 v_t2 j_t2 l_t2 => ?_)
    have e_t2 := C_t2.2.2.2.1
    have I_n_t2 := I_n_t0.le X_t2 (by omega)
    have f_n_t2 := f_n_t0.ex I_n_t0 (X_t2 0 (Nat.zero_le _))
    have u_n_t2 := u_n_t0.ex I_n_t0 (X_t2 0 (Nat.zero_le _))
    have hH : H50 t2 n := H50_mk F0 C_t2.2.1 I_n_t0 I_n_t2 f_n_t0 u_n_t0 j_t2 (by omega) hTt h69
    refine Hv_mk hK (C_t2.1.2.2.2.2.2.2 hTt) C_t2 hT (by omega) (by omega) (by omega) ?_ ?_ ?_ (by omega) ?_ ?_ ?_
    · exact Stk_step (N := n) (pop := (42, n, t)) (new := []) F0 C_t2.1.to2 (fun (h : nk 42 = false) => absurd h (by decide)) (fun q _ h => h (42, n, t) rfl) (fun _ => rfl) (fun y hy hk => ⟨rfl, Mo_nil (n := n) y hy hk⟩) (fun (h : 42 = 3 ∨ 42 = 18 ∨ 42 = 41) => absurd h (by decide)) (fun (h : 42 = 18) => absurd h (by decide)) (fun _ h16 => (Or.inr ⟨f_n_t2, (Ab_none rfl), hH⟩)) r [] (fun y hy => absurd hy List.not_mem_nil) hS
    · exact Aj_tl hJ
    · show m_dp t2 = sD r
      have : dlt 42 = 0 := rfl; omega
    · show m_rw t2 = sR r
      have : rho 42 = 0 := rfl; omega
    · show m_md t2 + sM r ≤ 3 * m_at t2 + 7 * (r.length) + 10
      have : mu7 42 = 8 := rfl; omega
    · show sW r + 6 * (4096 - m_at t2) + 4 * (600 - (r.length)) < (wt 42 + sW r) + 6 * (4096 - m_at t0) + 4 * (600 - (r.length + 1))
      have : wt 42 = 5 := rfl; omega
  · refine Ok_ck (show t &&& 255 < 2147483648 from by omega) ?_
    refine Ok_ifz (f6_has _ _) (fun q3 => ?_) (fun q3 => ?_)
    · refine Kp_wrap C_t0 I_n_t0.1 I_n_t0.2.1 f_n_t0 I_n_t0.2.2.1 (by omega) (by omega) (by decide) (fun t4 C_t4 X_t4 a_t4 b_t4 d_t4 w_t4 u_t4 v_t4 j_t4 l_t4 => ?_)
      have e_t4 := C_t4.2.2.2.1
      have I_n_t4 := I_n_t0.le X_t4 (by omega)
      have f_n_t4 := f_n_t0.ex I_n_t0 (X_t4 0 (Nat.zero_le _))
      have u_n_t4 := u_n_t0.ex I_n_t0 (X_t4 0 (Nat.zero_le _))
      have I_m_mdt0_t4 : Nq t4 (m_md t0) := Nq.wrn j_t4 (by omega) I_n_t0 (by decide)
      have f_m_mdt0_t4 : Fz t4 (m_md t0) := by unfold Fz; rw [j_t4.2.1]; exact j_t4.2.2.1
      have la_n_t4 : m_la t4 n = (m_md t0) + 1 := j_t4.2.2.2.2.2.2.2.1
      have wl_n_t4 : m_wh t4 (m_md t0) = 12 := j_t4.1
      refine Ok_bnc ?_
      try unfold b_X6_define
      refine Ok_bnc ?_
      try unfold b_X6_ranges
      refine Ok_ck (show t &&& 255 < 2147483648 from by omega) ?_
      refine Ok_ifz (f6_has _ _) (fun q => absurd q hk1) (fun q => ?_)
      refine Kp_ahead C_t4 hT (by omega) ?_
      refine Ok_ife (Nat.lt_trans (lo_lt (C_t4.tk hT) _) (by decide)) (by decide) (fun q7 => ?_) (fun q7 => ?_)
      · refine Kp_look C_t4 hT (by omega) ?_
        refine Ok_ife (Nat.lt_trans (lo_lt (C_t4.tk hT) _) (by decide)) (by decide) (fun q8 => ?_) (fun q8 => ?_)
        · refine Kp_wrap C_t4 I_n_t4.1 I_n_t4.2.1 f_n_t4 I_n_t4.2.2.1 (by omega) (by omega) (by decide) (fun t9 C_t9 X_t9 a_t9 b_t9 d_t9 w_t9 u_t9 v_t9 j_t9 l_t9 => ?_)
          have e_t9 := C_t9.2.2.2.1
          rw [a_t4] at a_t9
          rw [b_t4] at b_t9
          rw [d_t4] at d_t9
          rw [w_t4] at w_t9
          rw [u_t4] at u_t9
          rw [v_t4] at v_t9
          clear d_t4 w_t4 u_t4 v_t4 e_t4
          have I_n_t9 := I_n_t4.le X_t9 (by omega)
          have f_n_t9 := f_n_t4.ex I_n_t4 (X_t9 0 (Nat.zero_le _))
          have u_n_t9 := u_n_t4.ex I_n_t4 (X_t9 0 (Nat.zero_le _))
          have I_m_mdt4_t9 : Nq t9 (m_md t4) := Nq.wrn j_t9 (by omega) I_n_t4 (by decide)
          have f_m_mdt4_t9 : Fz t9 (m_md t4) := by unfold Fz; rw [j_t9.2.1]; exact j_t9.2.2.1
          have la_n_t9 : m_la t9 n = (m_md t4) + 1 := j_t9.2.2.2.2.2.2.2.1
          have wl_n_t9 : m_wh t9 (m_md t4) = 67 := j_t9.1
          have y9_t10 : m_at t9 = m_at t4 + 1 → lo t9 (m_at t9) = lo t4 (m_at t4 + 1) := fun h => lo_2 C_t9 C_t4 h
          have z_t10 : m_at t9 < m_ct t9 := lo_ne (Nat.ne_of_gt (show 0 < lo t9 (m_at t9) from by omega))
          refine Kp_at C_t9 (fun t10 C_t10 X_t10 a_t10 b_t10 d_t10 w_t10 u_t10 v_t10 j_t10 l_t10 => ?_)
          have e_t10 := C_t10.2.2.2.1
          rw [a_t9] at a_t10
          rw [b_t9] at b_t10
          rw [d_t9] at d_t10
          rw [w_t9] at w_t10
          rw [u_t9] at u_t10
          rw [v_t9] at v_t10
          rw [a_t9, e_t9] at z_t10
          clear d_t9 w_t9 u_t9 v_t9 e_t9 a_t9 b_t9
          have I_n_t10 := I_n_t9.flat X_t10
          have f_n_t10 := f_n_t9.ex I_n_t9 (X_t10 0)
          have u_n_t10 := u_n_t9.ex I_n_t9 (X_t10 0)
          have I_m_mdt4_t10 := I_m_mdt4_t9.flat X_t10
          have f_m_mdt4_t10 := f_m_mdt4_t9.ex I_m_mdt4_t9 (X_t10 0)
          have la_n_t10 : m_la t10 n = (m_md t4) + 1 := by rw [j_t10.2.2.1]; exact la_n_t9
          have wl_n_t10 : m_wh t10 ((m_md t4)) = 67 := by rw [j_t10.1]; exact wl_n_t9
          clear la_n_t9 wl_n_t9
          refine Kp_wrap C_t10 I_n_t10.1 I_n_t10.2.1 f_n_t10 I_n_t10.2.2.1 (by omega) (by omega) (by decide) (fun t11 C_t11 X_t11 a_t11 b_t11 d_t11 w_t11 u_t11 v_t11 j_t11 l_t11 => ?_)
          have e_t11 := C_t11.2.2.2.1
          rw [a_t10] at a_t11
          rw [b_t10] at b_t11
          rw [d_t10] at d_t11
          rw [w_t10] at w_t11
          rw [u_t10] at u_t11
          rw [v_t10] at v_t11
          clear d_t10 w_t10 u_t10 v_t10 e_t10 a_t10
          have I_n_t11 := I_n_t10.le X_t11 (by omega)
          have f_n_t11 := f_n_t10.ex I_n_t10 (X_t11 0 (Nat.zero_le _))
          have u_n_t11 := u_n_t10.ex I_n_t10 (X_t11 0 (Nat.zero_le _))
          have I_m_mdt10_t11 : Nq t11 (m_md t10) := Nq.wrn j_t11 (by omega) I_n_t10 (by decide)
          have f_m_mdt10_t11 : Fz t11 (m_md t10) := by unfold Fz; rw [j_t11.2.1]; exact j_t11.2.2.1
          have la_n_t11 : m_la t11 n = (m_md t10) + 1 := j_t11.2.2.2.2.2.2.2.1
          have wl_n_t11 : m_wh t11 (m_md t10) = 66 := j_t11.1
          have y9_t12 : m_at t11 = m_at t4 + 1 → lo t11 (m_at t11) = lo t4 (m_at t4 + 1) := fun h => lo_2 C_t11 C_t4 h
          have y8_t12 : lo t11 (m_at t11) = lo t4 (m_at t4 + 1) := y9_t12 (by omega)
          have z_t12 : m_at t11 < m_ct t11 := lo_ne (Nat.ne_of_gt (show 0 < lo t11 (m_at t11) from by omega))
          refine Kp_at C_t11 (fun t12 C_t12 X_t12 a_t12 b_t12 d_t12 w_t12 u_t12 v_t12 j_t12 l_t12 => ?_)
          have e_t12 := C_t12.2.2.2.1
          rw [a_t11] at a_t12
          rw [b_t11] at b_t12
          rw [d_t11] at d_t12
          rw [w_t11] at w_t12
          rw [u_t11] at u_t12
          rw [v_t11] at v_t12
          rw [a_t11, e_t11] at z_t12
          clear z_t10
          clear d_t11 w_t11 u_t11 v_t11 e_t11 a_t11 b_t11
          have I_n_t12 := I_n_t11.flat X_t12
          have f_n_t12 := f_n_t11.ex I_n_t11 (X_t12 0)
          have u_n_t12 := u_n_t11.ex I_n_t11 (X_t12 0)
          have I_m_mdt10_t12 := I_m_mdt10_t11.flat X_t12
          have f_m_mdt10_t12 := f_m_mdt10_t11.ex I_m_mdt10_t11 (X_t12 0)
          have la_n_t12 : m_la t12 n = (m_md t10) + 1 := by rw [j_t12.2.2.1]; exact la_n_t11
          have wl_n_t12 : m_wh t12 ((m_md t10)) = 66 := by rw [j_t12.1]; exact wl_n_t11
          clear la_n_t11 wl_n_t11
          refine Ok_bnc ?_
          try unfold b_X6_expression
          refine Kp_push C_t12 (by omega) (fun t14 C_t14 X_t14 a_t14 b_t14 d_t14 w_t14 u_t14 v_t14 j_t14 l_t14 => ?_)
          have e_t14 := C_t14.2.2.2.1
          rw [a_t12] at a_t14
          rw [b_t12] at b_t14
          rw [d_t12] at d_t14
          rw [w_t12] at w_t14
          rw [u_t12] at u_t14
          rw [v_t12] at v_t14
          clear d_t12 w_t12 u_t12 v_t12 e_t12 a_t12 b_t12
          have I_n_t14 := I_n_t12.flat X_t14
          have f_n_t14 := f_n_t12.ex I_n_t12 (X_t14 0)
          have u_n_t14 := u_n_t12.ex I_n_t12 (X_t14 0)
          have I_m_mdt10_t14 := I_m_mdt10_t12.flat X_t14
          have f_m_mdt10_t14 := f_m_mdt10_t12.ex I_m_mdt10_t12 (X_t14 0)
          have la_n_t14 : m_la t14 n = (m_md t10) + 1 := by rw [j_t14.2.2.1]; exact la_n_t12
          have wl_n_t14 : m_wh t14 ((m_md t10)) = 66 := by rw [j_t14.1]; exact wl_n_t12
          clear la_n_t12 wl_n_t12
          refine Kp_push C_t14 (by omega) (fun t15 C_t15 X_t15 a_t15 b_t15 d_t15 w_t15 u_t15 v_t15 j_t15 l_t15 => ?_)
          have e_t15 := C_t15.2.2.2.1
          rw [a_t14] at a_t15
          rw [b_t14] at b_t15
          rw [d_t14] at d_t15
          rw [w_t14] at w_t15
          rw [u_t14] at u_t15
          rw [v_t14] at v_t15
          clear d_t14 w_t14 u_t14 v_t14 e_t14 a_t14 b_t14
          have I_n_t15 := I_n_t14.flat X_t15
          have f_n_t15 := f_n_t14.ex I_n_t14 (X_t15 0)
          have u_n_t15 := u_n_t14.ex I_n_t14 (X_t15 0)
          have I_m_mdt10_t15 := I_m_mdt10_t14.flat X_t15
          have f_m_mdt10_t15 := f_m_mdt10_t14.ex I_m_mdt10_t14 (X_t15 0)
          have la_n_t15 : m_la t15 n = (m_md t10) + 1 := by rw [j_t15.2.2.1]; exact la_n_t14
          have wl_n_t15 : m_wh t15 ((m_md t10)) = 66 := by rw [j_t15.1]; exact wl_n_t14
          clear la_n_t14 wl_n_t14
          refine Ok_ret (show Ok _ _ _ from ?_)
          refine Ok_ret (show Ok _ _ _ from ?_)
          refine Ok_ifz1 ?_
          refine Ok_ret (show Ok _ _ _ from ?_)
          refine Hv_mk (Kv_c (x := (3, m_md t10, 1)) rfl (Kv_c (x := (2, m_md t10, 1 ||| (1 * 256))) rfl hK)) (C_t15.1.2.2.2.2.2.2 hTt) C_t15 hT (by omega) (by omega) (by omega) ?_ ?_ ?_ (by omega) ?_ ?_ ?_
          · exact ⟨(Io_n (by decide) (by decide) I_m_mdt10_t15.1 I_m_mdt10_t15.2.1 I_m_mdt10_t15.2.2.1 (fun q => absurd q (by decide)) (fun q => absurd q (by decide)) I_m_mdt10_t15.2.2.2), (Nd_0 (by decide) Mo_nil), ⟨(Io_2 (by have := or_256 (b := 1) (show 1 < 256 from by omega); omega) (by have := or_256 (b := 1) (show 1 < 256 from by omega); omega) (by have := or_256 (b := 1) (show 1 < 256 from by omega); omega) I_m_mdt10_t15.1 I_m_mdt10_t15.2.1 I_m_mdt10_t15.2.2.1 I_m_mdt10_t15.2.2.2), (Nd_A (by decide) (Mo_cons (fun q => show m_md t10 ≤ m_md t10 from by omega) Mo_nil) (Or.inr ⟨(3, m_md t10, 1), List.mem_cons_self, rfl, Or.inl rfl⟩)), Stk_step (N := n) (pop := (42, n, t)) (new := [(2, m_md t10, 1 ||| (1 * 256)), (3, m_md t10, 1)]) F0 C_t15.1.to2 (fun (h : nk 42 = false) => absurd h (by decide)) (fun q _ h => h (42, n, t) rfl) (fun _ => rfl) (fun y hy hk => ⟨rfl, (Mo_cons (fun q => show n ≤ m_md t10 from by omega) (Mo_cons (fun q => show n ≤ m_md t10 from by omega) Mo_nil)) y hy hk⟩) (fun (h : 42 = 3 ∨ 42 = 18 ∨ 42 = 41) => absurd h (by decide)) (fun (h : 42 = 18) => absurd h (by decide)) (fun _ h16 => (Or.inr ⟨f_n_t15, (Ab_some (y := (2, m_md t10, 1 ||| (1 * 256))) rfl (show n < m_md t10 from by omega)), H50_no la_n_t15 wl_n_t15 (by decide)⟩)) r [] (fun y hy => absurd hy List.not_mem_nil) hS⟩⟩
          · exact (Aj_up (x := (3, m_md t10, 1)) (Aj_sub (y := (2, m_md t10, 1 ||| (1 * 256))) hJ (show 9 - (1 ||| (1 * 256)) / 256 ≤ 10 from by have := or_256 (b := 1) (show 1 < 256 from by omega); omega)) (Or.inr (show 2 < 9 - (1 ||| (1 * 256)) / 256 from by have := or_256 (b := 1) (show 1 < 256 from by omega); omega)))
          · show m_dp t15 = (dlt 3 + (dlt 2 + sD r))
            have : dlt 2 = 0 := rfl; have : dlt 3 = 0 := rfl; have : dlt 42 = 0 := rfl; omega
          · show m_rw t15 = (rho 3 + (rho 2 + sR r))
            have : rho 2 = 0 := rfl; have : rho 3 = 0 := rfl; have : rho 42 = 0 := rfl; omega
          · show m_md t15 + (mu7 3 + (mu7 2 + sM r)) ≤ 3 * m_at t15 + 7 * (r.length + 1 + 1) + 10
            have : mu7 2 = 7 := rfl; have : mu7 3 = 5 := rfl; have : mu7 42 = 8 := rfl; omega
          · show (wt 3 + (wt 2 + sW r)) + 6 * (4096 - m_at t15) + 4 * (600 - (r.length + 1 + 1)) < (wt 42 + sW r) + 6 * (4096 - m_at t0) + 4 * (600 - (r.length + 1))
            have : wt 2 = 5 := rfl; have : wt 3 = 3 := rfl; have : wt 42 = 5 := rfl; omega
        · have z_t16 : m_at t4 < m_ct t4 := lo_ne (Nat.ne_of_gt (show 0 < lo t4 (m_at t4) from by omega))
          refine Kp_at C_t4 (fun t16 C_t16 X_t16 a_t16 b_t16 d_t16 w_t16 u_t16 v_t16 j_t16 l_t16 => ?_)
          have e_t16 := C_t16.2.2.2.1
          rw [a_t4] at a_t16
          rw [b_t4] at b_t16
          rw [d_t4] at d_t16
          rw [w_t4] at w_t16
          rw [u_t4] at u_t16
          rw [v_t4] at v_t16
          rw [a_t4, e_t4] at z_t16
          clear d_t4 w_t4 u_t4 v_t4 e_t4 b_t4
          have I_n_t16 := I_n_t4.flat X_t16
          have f_n_t16 := f_n_t4.ex I_n_t4 (X_t16 0)
          have u_n_t16 := u_n_t4.ex I_n_t4 (X_t16 0)
          have I_m_mdt0_t16 := I_m_mdt0_t4.flat X_t16
          have f_m_mdt0_t16 := f_m_mdt0_t4.ex I_m_mdt0_t4 (X_t16 0)
          have la_n_t16 : m_la t16 n = (m_md t0) + 1 := by rw [j_t16.2.2.1]; exact la_n_t4
          have wl_n_t16 : m_wh t16 ((m_md t0)) = 12 := by rw [j_t16.1]; exact wl_n_t4
          clear la_n_t4 wl_n_t4
          refine Kp_wrap C_t16 I_n_t16.1 I_n_t16.2.1 f_n_t16 I_n_t16.2.2.1 (by omega) (by omega) (by decide) (fun t17 C_t17 X_t17 a_t17 b_t17 d_t17 w_t17 u_t17 v_t17 j_t17 l_t17 => ?_)
          have e_t17 := C_t17.2.2.2.1
          rw [a_t16] at a_t17
          rw [b_t16] at b_t17
          rw [d_t16] at d_t17
          rw [w_t16] at w_t17
          rw [u_t16] at u_t17
          rw [v_t16] at v_t17
          clear d_t16 w_t16 u_t16 v_t16 e_t16 a_t16
          have I_n_t17 := I_n_t16.le X_t17 (by omega)
          have f_n_t17 := f_n_t16.ex I_n_t16 (X_t17 0 (Nat.zero_le _))
          have u_n_t17 := u_n_t16.ex I_n_t16 (X_t17 0 (Nat.zero_le _))
          have I_m_mdt16_t17 : Nq t17 (m_md t16) := Nq.wrn j_t17 (by omega) I_n_t16 (by decide)
          have f_m_mdt16_t17 : Fz t17 (m_md t16) := by unfold Fz; rw [j_t17.2.1]; exact j_t17.2.2.1
          have la_n_t17 : m_la t17 n = (m_md t16) + 1 := j_t17.2.2.2.2.2.2.2.1
          have wl_n_t17 : m_wh t17 (m_md t16) = 66 := j_t17.1
          have y9_t18 : m_at t17 = m_at t4 + 1 → lo t17 (m_at t17) = lo t4 (m_at t4 + 1) := fun h => lo_2 C_t17 C_t4 h
          have y8_t18 : lo t17 (m_at t17) = lo t4 (m_at t4 + 1) := y9_t18 (by omega)
          have z_t18 : m_at t17 < m_ct t17 := lo_ne (Nat.ne_of_gt (show 0 < lo t17 (m_at t17) from by omega))
          refine Kp_at C_t17 (fun t18 C_t18 X_t18 a_t18 b_t18 d_t18 w_t18 u_t18 v_t18 j_t18 l_t18 => ?_)
          have e_t18 := C_t18.2.2.2.1
          rw [a_t17] at a_t18
          rw [b_t17] at b_t18
          rw [d_t17] at d_t18
          rw [w_t17] at w_t18
          rw [u_t17] at u_t18
          rw [v_t17] at v_t18
          rw [a_t17, e_t17] at z_t18
          clear z_t16
          clear d_t17 w_t17 u_t17 v_t17 e_t17 a_t17 b_t17
          have I_n_t18 := I_n_t17.flat X_t18
          have f_n_t18 := f_n_t17.ex I_n_t17 (X_t18 0)
          have u_n_t18 := u_n_t17.ex I_n_t17 (X_t18 0)
          have I_m_mdt16_t18 := I_m_mdt16_t17.flat X_t18
          have f_m_mdt16_t18 := f_m_mdt16_t17.ex I_m_mdt16_t17 (X_t18 0)
          have la_n_t18 : m_la t18 n = (m_md t16) + 1 := by rw [j_t18.2.2.1]; exact la_n_t17
          have wl_n_t18 : m_wh t18 ((m_md t16)) = 66 := by rw [j_t18.1]; exact wl_n_t17
          clear la_n_t17 wl_n_t17
          refine Ok_bnc ?_
          try unfold b_X6_expression
          refine Kp_push C_t18 (by omega) (fun t20 C_t20 X_t20 a_t20 b_t20 d_t20 w_t20 u_t20 v_t20 j_t20 l_t20 => ?_)
          have e_t20 := C_t20.2.2.2.1
          rw [a_t18] at a_t20
          rw [b_t18] at b_t20
          rw [d_t18] at d_t20
          rw [w_t18] at w_t20
          rw [u_t18] at u_t20
          rw [v_t18] at v_t20
          clear d_t18 w_t18 u_t18 v_t18 e_t18 a_t18 b_t18
          have I_n_t20 := I_n_t18.flat X_t20
          have f_n_t20 := f_n_t18.ex I_n_t18 (X_t20 0)
          have u_n_t20 := u_n_t18.ex I_n_t18 (X_t20 0)
          have I_m_mdt16_t20 := I_m_mdt16_t18.flat X_t20
          have f_m_mdt16_t20 := f_m_mdt16_t18.ex I_m_mdt16_t18 (X_t20 0)
          have la_n_t20 : m_la t20 n = (m_md t16) + 1 := by rw [j_t20.2.2.1]; exact la_n_t18
          have wl_n_t20 : m_wh t20 ((m_md t16)) = 66 := by rw [j_t20.1]; exact wl_n_t18
          clear la_n_t18 wl_n_t18
          refine Kp_push C_t20 (by omega) (fun t21 C_t21 X_t21 a_t21 b_t21 d_t21 w_t21 u_t21 v_t21 j_t21 l_t21 => ?_)
          have e_t21 := C_t21.2.2.2.1
          rw [a_t20] at a_t21
          rw [b_t20] at b_t21
          rw [d_t20] at d_t21
          rw [w_t20] at w_t21
          rw [u_t20] at u_t21
          rw [v_t20] at v_t21
          clear d_t20 w_t20 u_t20 v_t20 e_t20 a_t20 b_t20
          have I_n_t21 := I_n_t20.flat X_t21
          have f_n_t21 := f_n_t20.ex I_n_t20 (X_t21 0)
          have u_n_t21 := u_n_t20.ex I_n_t20 (X_t21 0)
          have I_m_mdt16_t21 := I_m_mdt16_t20.flat X_t21
          have f_m_mdt16_t21 := f_m_mdt16_t20.ex I_m_mdt16_t20 (X_t21 0)
          have la_n_t21 : m_la t21 n = (m_md t16) + 1 := by rw [j_t21.2.2.1]; exact la_n_t20
          have wl_n_t21 : m_wh t21 ((m_md t16)) = 66 := by rw [j_t21.1]; exact wl_n_t20
          clear la_n_t20 wl_n_t20
          refine Ok_ret (show Ok _ _ _ from ?_)
          refine Ok_ret (show Ok _ _ _ from ?_)
          refine Ok_ifz1 ?_
          refine Ok_ret (show Ok _ _ _ from ?_)
          refine Hv_mk (Kv_c (x := (3, m_md t16, 1)) rfl (Kv_c (x := (2, m_md t16, 1 ||| (1 * 256))) rfl hK)) (C_t21.1.2.2.2.2.2.2 hTt) C_t21 hT (by omega) (by omega) (by omega) ?_ ?_ ?_ (by omega) ?_ ?_ ?_
          · exact ⟨(Io_n (by decide) (by decide) I_m_mdt16_t21.1 I_m_mdt16_t21.2.1 I_m_mdt16_t21.2.2.1 (fun q => absurd q (by decide)) (fun q => absurd q (by decide)) I_m_mdt16_t21.2.2.2), (Nd_0 (by decide) Mo_nil), ⟨(Io_2 (by have := or_256 (b := 1) (show 1 < 256 from by omega); omega) (by have := or_256 (b := 1) (show 1 < 256 from by omega); omega) (by have := or_256 (b := 1) (show 1 < 256 from by omega); omega) I_m_mdt16_t21.1 I_m_mdt16_t21.2.1 I_m_mdt16_t21.2.2.1 I_m_mdt16_t21.2.2.2), (Nd_A (by decide) (Mo_cons (fun q => show m_md t16 ≤ m_md t16 from by omega) Mo_nil) (Or.inr ⟨(3, m_md t16, 1), List.mem_cons_self, rfl, Or.inl rfl⟩)), Stk_step (N := n) (pop := (42, n, t)) (new := [(2, m_md t16, 1 ||| (1 * 256)), (3, m_md t16, 1)]) F0 C_t21.1.to2 (fun (h : nk 42 = false) => absurd h (by decide)) (fun q _ h => h (42, n, t) rfl) (fun _ => rfl) (fun y hy hk => ⟨rfl, (Mo_cons (fun q => show n ≤ m_md t16 from by omega) (Mo_cons (fun q => show n ≤ m_md t16 from by omega) Mo_nil)) y hy hk⟩) (fun (h : 42 = 3 ∨ 42 = 18 ∨ 42 = 41) => absurd h (by decide)) (fun (h : 42 = 18) => absurd h (by decide)) (fun _ h16 => (Or.inr ⟨f_n_t21, (Ab_some (y := (2, m_md t16, 1 ||| (1 * 256))) rfl (show n < m_md t16 from by omega)), H50_no la_n_t21 wl_n_t21 (by decide)⟩)) r [] (fun y hy => absurd hy List.not_mem_nil) hS⟩⟩
          · exact (Aj_up (x := (3, m_md t16, 1)) (Aj_sub (y := (2, m_md t16, 1 ||| (1 * 256))) hJ (show 9 - (1 ||| (1 * 256)) / 256 ≤ 10 from by have := or_256 (b := 1) (show 1 < 256 from by omega); omega)) (Or.inr (show 2 < 9 - (1 ||| (1 * 256)) / 256 from by have := or_256 (b := 1) (show 1 < 256 from by omega); omega)))
          · show m_dp t21 = (dlt 3 + (dlt 2 + sD r))
            have : dlt 2 = 0 := rfl; have : dlt 3 = 0 := rfl; have : dlt 42 = 0 := rfl; omega
          · show m_rw t21 = (rho 3 + (rho 2 + sR r))
            have : rho 2 = 0 := rfl; have : rho 3 = 0 := rfl; have : rho 42 = 0 := rfl; omega
          · show m_md t21 + (mu7 3 + (mu7 2 + sM r)) ≤ 3 * m_at t21 + 7 * (r.length + 1 + 1) + 10
            have : mu7 2 = 7 := rfl; have : mu7 3 = 5 := rfl; have : mu7 42 = 8 := rfl; omega
          · show (wt 3 + (wt 2 + sW r)) + 6 * (4096 - m_at t21) + 4 * (600 - (r.length + 1 + 1)) < (wt 42 + sW r) + 6 * (4096 - m_at t0) + 4 * (600 - (r.length + 1))
            have : wt 2 = 5 := rfl; have : wt 3 = 3 := rfl; have : wt 42 = 5 := rfl; omega
      · refine Ok_ret (show Ok _ _ _ from ?_)
        refine Ok_ifz0 ?_
        refine Kp_wrap C_t4 I_n_t4.1 I_n_t4.2.1 f_n_t4 I_n_t4.2.2.1 (by omega) (by omega) (by decide) (fun t22 C_t22 X_t22 a_t22 b_t22 d_t22 w_t22 u_t22 v_t22 j_t22 l_t22 => ?_)
        have e_t22 := C_t22.2.2.2.1
        rw [a_t4] at a_t22
        rw [b_t4] at b_t22
        rw [d_t4] at d_t22
        rw [w_t4] at w_t22
        rw [u_t4] at u_t22
        rw [v_t4] at v_t22
        clear d_t4 w_t4 u_t4 v_t4 e_t4
        have I_n_t22 := I_n_t4.le X_t22 (by omega)
        have f_n_t22 := f_n_t4.ex I_n_t4 (X_t22 0 (Nat.zero_le _))
        have u_n_t22 := u_n_t4.ex I_n_t4 (X_t22 0 (Nat.zero_le _))
        have I_m_mdt4_t22 : Nq t22 (m_md t4) := Nq.wrn j_t22 (by omega) I_n_t4 (by decide)
        have f_m_mdt4_t22 : Fz t22 (m_md t4) := by unfold Fz; rw [j_t22.2.1]; exact j_t22.2.2.1
        have la_n_t22 : m_la t22 n = (m_md t4) + 1 := j_t22.2.2.2.2.2.2.2.1
        have wl_n_t22 : m_wh t22 (m_md t4) = 56 := j_t22.1
        have hv_m_mdt4_t22 : V56 t22 (m_md t4) (m_md t0) n := ⟨by rw [j_t22.2.1]; exact la_n_t4, j_t22.2.2.2.2.1⟩
        have z_t23 : m_at t22 < m_ct t22 := lo_ne (Nat.ne_of_gt (show 0 < lo t22 (m_at t22) from by omega))
        refine Kp_at C_t22 (fun t23 C_t23 X_t23 a_t23 b_t23 d_t23 w_t23 u_t23 v_t23 j_t23 l_t23 => ?_)
        have e_t23 := C_t23.2.2.2.1
        rw [a_t22] at a_t23
        rw [b_t22] at b_t23
        rw [d_t22] at d_t23
        rw [w_t22] at w_t23
        rw [u_t22] at u_t23
        rw [v_t22] at v_t23
        rw [a_t22, e_t22] at z_t23
        clear d_t22 w_t22 u_t22 v_t22 e_t22 a_t22 b_t22
        have I_n_t23 := I_n_t22.flat X_t23
        have f_n_t23 := f_n_t22.ex I_n_t22 (X_t23 0)
        have u_n_t23 := u_n_t22.ex I_n_t22 (X_t23 0)
        have I_m_mdt4_t23 := I_m_mdt4_t22.flat X_t23
        have f_m_mdt4_t23 := f_m_mdt4_t22.ex I_m_mdt4_t22 (X_t23 0)
        have hv_m_mdt4_t23 : V56 t23 (m_md t4) (m_md t0) n := hv_m_mdt4_t22.flat j_t23
        have la_n_t23 : m_la t23 n = (m_md t4) + 1 := by rw [j_t23.2.2.1]; exact la_n_t22
        have wl_n_t23 : m_wh t23 ((m_md t4)) = 56 := by rw [j_t23.1]; exact wl_n_t22
        clear la_n_t22 wl_n_t22
        refine Ok_ck (show t &&& 255 < 2147483648 from by omega) ?_
        refine Ok_ifz (f6_has _ _) (fun q => absurd q hk2) (fun q => ?_)
        refine Ok_ifz1 ?_
        refine Ok_ck (show t &&& 255 < 2147483648 from by omega) ?_
        refine Ok_ifz (f6_has _ _) (fun q => absurd q hk3) (fun q => ?_)
        refine Kp_push C_t23 (by omega) (fun t24 C_t24 X_t24 a_t24 b_t24 d_t24 w_t24 u_t24 v_t24 j_t24 l_t24 => ?_)
        have e_t24 := C_t24.2.2.2.1
        rw [a_t23] at a_t24
        rw [b_t23] at b_t24
        rw [d_t23] at d_t24
        rw [w_t23] at w_t24
        rw [u_t23] at u_t24
        rw [v_t23] at v_t24
        clear d_t23 w_t23 u_t23 v_t23 e_t23 a_t23 b_t23
        have I_n_t24 := I_n_t23.flat X_t24
        have f_n_t24 := f_n_t23.ex I_n_t23 (X_t24 0)
        have u_n_t24 := u_n_t23.ex I_n_t23 (X_t24 0)
        have I_m_mdt4_t24 := I_m_mdt4_t23.flat X_t24
        have f_m_mdt4_t24 := f_m_mdt4_t23.ex I_m_mdt4_t23 (X_t24 0)
        have hv_m_mdt4_t24 : V56 t24 (m_md t4) (m_md t0) n := hv_m_mdt4_t23.flat j_t24
        have la_n_t24 : m_la t24 n = (m_md t4) + 1 := by rw [j_t24.2.2.1]; exact la_n_t23
        have wl_n_t24 : m_wh t24 ((m_md t4)) = 56 := by rw [j_t24.1]; exact wl_n_t23
        clear la_n_t23 wl_n_t23
        refine Ok_ck (show t &&& 255 < 2147483648 from by omega) ?_
        refine Ok_ifz (f6_has _ _) (fun q => absurd q hk3) (fun q => ?_)
        refine Kp_child C_t24 I_m_mdt4_t24.1 I_m_mdt4_t24.2.1 I_m_mdt4_t24.2.2.1 (by omega) (by omega) (by decide) (by decide) (fun t25 C_t25 X_t25 a_t25 b_t25 d_t25 w_t25 u_t25 v_t25 j_t25 l_t25 => ?_)
        have e_t25 := C_t25.2.2.2.1
        rw [a_t24] at a_t25
        rw [b_t24] at b_t25
        rw [d_t24] at d_t25
        rw [w_t24] at w_t25
        rw [u_t24] at u_t25
        rw [v_t24] at v_t25
        clear d_t24 w_t24 u_t24 v_t24 e_t24 a_t24
        have I_n_t25 := I_n_t24.chd X_t25 j_t25
        have f_n_t25 := f_n_t24.ex I_n_t24 (X_t25 0 (Nat.zero_le _))
        have u_n_t25 := u_n_t24.ex I_n_t24 (X_t25 0 (Nat.zero_le _))
        have I_m_mdt4_t25 := I_m_mdt4_t24.chd X_t25 j_t25
        have f_m_mdt4_t25 := f_m_mdt4_t24.ex I_m_mdt4_t24 (X_t25 0 (Nat.zero_le _))
        have hv_m_mdt4_t25 : V56 t25 (m_md t4) (m_md t0) n := hv_m_mdt4_t24.chd I_m_mdt4_t24.1 j_t25
        have la_n_t25 : m_la t25 n = (m_md t4) + 1 := by rw [(j_t25.2.2.2.2.2.2.2.1 n I_n_t24.1 (by omega)).1]; exact la_n_t24
        have wl_n_t25 : m_wh t25 ((m_md t4)) = 56 := by rw [(j_t25.2.2.2.2.2.2.1 ((m_md t4)) (by omega)).2]; exact wl_n_t24
        clear la_n_t24 wl_n_t24
        have f_m_mdt4_t25 : Fz t25 (m_md t4) := j_t25.2.2.2.2.1
        have I_m_mdt24_t25 : Nq t25 (m_md t24) := Nq.chn j_t25 (by omega) I_m_mdt4_t24 (by decide)
        have u_m_mdt24_t25 : Up t25 (m_md t24) := Or.inl j_t25.2.1
        have la_m_mdt4_t25 : m_la t25 (m_md t4) = (m_md t24) + 1 := j_t25.2.2.2.2.2.1
        have wl_m_mdt4_t25 : m_wh t25 (m_md t24) = 13 := j_t25.1
        have x69_t25 : U69 t25 (m_md t24) := fun h => absurd j_t25.2.2.1 h
        refine Kp_push C_t25 (by omega) (fun t26 C_t26 X_t26 a_t26 b_t26 d_t26 w_t26 u_t26 v_t26 j_t26 l_t26 => ?_)
        have e_t26 := C_t26.2.2.2.1
        rw [a_t25] at a_t26
        rw [b_t25] at b_t26
        rw [d_t25] at d_t26
        rw [w_t25] at w_t26
        rw [u_t25] at u_t26
        rw [v_t25] at v_t26
        clear d_t25 w_t25 u_t25 v_t25 e_t25 a_t25 b_t25
        have I_n_t26 := I_n_t25.flat X_t26
        have f_n_t26 := f_n_t25.ex I_n_t25 (X_t26 0)
        have u_n_t26 := u_n_t25.ex I_n_t25 (X_t26 0)
        have I_m_mdt4_t26 := I_m_mdt4_t25.flat X_t26
        have f_m_mdt4_t26 := f_m_mdt4_t25.ex I_m_mdt4_t25 (X_t26 0)
        have I_m_mdt24_t26 := I_m_mdt24_t25.flat X_t26
        have u_m_mdt24_t26 := u_m_mdt24_t25.ex I_m_mdt24_t25 (X_t26 0)
        have hv_m_mdt4_t26 : V56 t26 (m_md t4) (m_md t0) n := hv_m_mdt4_t25.flat j_t26
        have x69_t26 : U69 t26 (m_md t24) := U69_flat j_t26 x69_t25
        have la_n_t26 : m_la t26 n = (m_md t4) + 1 := by rw [j_t26.2.2.1]; exact la_n_t25
        have wl_n_t26 : m_wh t26 ((m_md t4)) = 56 := by rw [j_t26.1]; exact wl_n_t25
        clear la_n_t25 wl_n_t25
        have la_m_mdt4_t26 : m_la t26 (m_md t4) = (m_md t24) + 1 := by rw [j_t26.2.2.1]; exact la_m_mdt4_t25
        have wl_m_mdt4_t26 : m_wh t26 ((m_md t24)) = 13 := by rw [j_t26.1]; exact wl_m_mdt4_t25
        clear la_m_mdt4_t25 wl_m_mdt4_t25
        refine Ok_bnc ?_
        try unfold b_X6_operand
        refine Kp_look C_t26 hT (by omega) ?_
        refine Ok_ifl (by decide) (Nat.lt_trans (lo_lt (C_t26.tk hT) _) (by decide)) (fun q28 => ?_) (fun q28 => ?_)
        · refine Ok_ifl (by decide) (Nat.lt_trans (lo_lt (C_t26.tk hT) _) (by decide)) (fun q29 => ?_) (fun q29 => ?_)
          · refine Ok_ife (Nat.lt_trans (lo_lt (C_t26.tk hT) _) (by decide)) (by decide) (fun q30 => ?_) (fun q30 => ?_)
            · refine Ok_bnc ?_
              try unfold b_X6_name
              refine Kp_look C_t26 hT (by omega) ?_
              refine Ok_ife (Nat.lt_trans (lo_lt (C_t26.tk hT) _) (by decide)) (by decide) (fun q => ?_) (fun q => absurd q30 q)
              refine Kp_child C_t26 I_m_mdt24_t26.1 I_m_mdt24_t26.2.1 I_m_mdt24_t26.2.2.1 (by omega) (by omega) (by decide) (by decide) (fun t32 C_t32 X_t32 a_t32 b_t32 d_t32 w_t32 u_t32 v_t32 j_t32 l_t32 => ?_)
              have e_t32 := C_t32.2.2.2.1
              rw [a_t26] at a_t32
              rw [b_t26] at b_t32
              rw [d_t26] at d_t32
              rw [w_t26] at w_t32
              rw [u_t26] at u_t32
              rw [v_t26] at v_t32
              clear d_t26 w_t26 u_t26 v_t26 e_t26 a_t26
              have I_n_t32 := I_n_t26.chd X_t32 j_t32
              have f_n_t32 := f_n_t26.ex I_n_t26 (X_t32 0 (Nat.zero_le _))
              have u_n_t32 := u_n_t26.ex I_n_t26 (X_t32 0 (Nat.zero_le _))
              have I_m_mdt4_t32 := I_m_mdt4_t26.chd X_t32 j_t32
              have f_m_mdt4_t32 := f_m_mdt4_t26.ex I_m_mdt4_t26 (X_t32 0 (Nat.zero_le _))
              have I_m_mdt24_t32 := I_m_mdt24_t26.chd X_t32 j_t32
              have u_m_mdt24_t32 := u_m_mdt24_t26.ex I_m_mdt24_t26 (X_t32 0 (Nat.zero_le _))
              have hv_m_mdt4_t32 : V56 t32 (m_md t4) (m_md t0) n := hv_m_mdt4_t26.chd I_m_mdt4_t26.1 j_t32
              have x69_t32 : U69 t32 (m_md t24) := U69_ch j_t32 (by decide)
              have la_n_t32 : m_la t32 n = (m_md t4) + 1 := by rw [(j_t32.2.2.2.2.2.2.2.1 n I_n_t26.1 (by omega)).1]; exact la_n_t26
              have wl_n_t32 : m_wh t32 ((m_md t4)) = 56 := by rw [(j_t32.2.2.2.2.2.2.1 ((m_md t4)) (by omega)).2]; exact wl_n_t26
              clear la_n_t26 wl_n_t26
              have la_m_mdt4_t32 : m_la t32 (m_md t4) = (m_md t24) + 1 := by rw [(j_t32.2.2.2.2.2.2.2.1 (m_md t4) I_m_mdt4_t26.1 (by omega)).1]; exact la_m_mdt4_t26
              have wl_m_mdt4_t32 : m_wh t32 ((m_md t24)) = 13 := by rw [(j_t32.2.2.2.2.2.2.1 ((m_md t24)) (by omega)).2]; exact wl_m_mdt4_t26
              clear la_m_mdt4_t26 wl_m_mdt4_t26
              have f_m_mdt24_t32 : Fz t32 (m_md t24) := j_t32.2.2.2.2.1
              have I_m_mdt26_t32 : Nq t32 (m_md t26) := Nq.chn j_t32 (by omega) I_m_mdt24_t26 (by decide)
              have u_m_mdt26_t32 : Up t32 (m_md t26) := Or.inl j_t32.2.1
              have la_m_mdt24_t32 : m_la t32 (m_md t24) = (m_md t26) + 1 := j_t32.2.2.2.2.2.1
              have wl_m_mdt24_t32 : m_wh t32 (m_md t26) = 5 := j_t32.1
              have z_t33 : m_at t32 < m_ct t32 := lo_ne (Nat.ne_of_gt (show 0 < lo t32 (m_at t32) from by omega))
              refine Kp_at C_t32 (fun t33 C_t33 X_t33 a_t33 b_t33 d_t33 w_t33 u_t33 v_t33 j_t33 l_t33 => ?_)
              have e_t33 := C_t33.2.2.2.1
              rw [a_t32] at a_t33
              rw [b_t32] at b_t33
              rw [d_t32] at d_t33
              rw [w_t32] at w_t33
              rw [u_t32] at u_t33
              rw [v_t32] at v_t33
              rw [a_t32, e_t32] at z_t33
              clear z_t23
              clear d_t32 w_t32 u_t32 v_t32 e_t32 a_t32 b_t32
              have I_n_t33 := I_n_t32.flat X_t33
              have f_n_t33 := f_n_t32.ex I_n_t32 (X_t33 0)
              have u_n_t33 := u_n_t32.ex I_n_t32 (X_t33 0)
              have I_m_mdt4_t33 := I_m_mdt4_t32.flat X_t33
              have f_m_mdt4_t33 := f_m_mdt4_t32.ex I_m_mdt4_t32 (X_t33 0)
              have I_m_mdt24_t33 := I_m_mdt24_t32.flat X_t33
              have f_m_mdt24_t33 := f_m_mdt24_t32.ex I_m_mdt24_t32 (X_t33 0)
              have u_m_mdt24_t33 := u_m_mdt24_t32.ex I_m_mdt24_t32 (X_t33 0)
              have I_m_mdt26_t33 := I_m_mdt26_t32.flat X_t33
              have u_m_mdt26_t33 := u_m_mdt26_t32.ex I_m_mdt26_t32 (X_t33 0)
              have hv_m_mdt4_t33 : V56 t33 (m_md t4) (m_md t0) n := hv_m_mdt4_t32.flat j_t33
              have x69_t33 : U69 t33 (m_md t24) := U69_flat j_t33 x69_t32
              have la_n_t33 : m_la t33 n = (m_md t4) + 1 := by rw [j_t33.2.2.1]; exact la_n_t32
              have wl_n_t33 : m_wh t33 ((m_md t4)) = 56 := by rw [j_t33.1]; exact wl_n_t32
              clear la_n_t32 wl_n_t32
              have la_m_mdt4_t33 : m_la t33 (m_md t4) = (m_md t24) + 1 := by rw [j_t33.2.2.1]; exact la_m_mdt4_t32
              have wl_m_mdt4_t33 : m_wh t33 ((m_md t24)) = 13 := by rw [j_t33.1]; exact wl_m_mdt4_t32
              clear la_m_mdt4_t32 wl_m_mdt4_t32
              have la_m_mdt24_t33 : m_la t33 (m_md t24) = (m_md t26) + 1 := by rw [j_t33.2.2.1]; exact la_m_mdt24_t32
              have wl_m_mdt24_t33 : m_wh t33 ((m_md t26)) = 5 := by rw [j_t33.1]; exact wl_m_mdt24_t32
              clear la_m_mdt24_t32 wl_m_mdt24_t32
              refine Ok_ret (show Ok _ _ _ from ?_)
              refine Kp_push C_t33 (by omega) (fun t34 C_t34 X_t34 a_t34 b_t34 d_t34 w_t34 u_t34 v_t34 j_t34 l_t34 => ?_)
              have e_t34 := C_t34.2.2.2.1
              rw [a_t33] at a_t34
              rw [b_t33] at b_t34
              rw [d_t33] at d_t34
              rw [w_t33] at w_t34
              rw [u_t33] at u_t34
              rw [v_t33] at v_t34
              clear d_t33 w_t33 u_t33 v_t33 e_t33 a_t33 b_t33
              have I_n_t34 := I_n_t33.flat X_t34
              have f_n_t34 := f_n_t33.ex I_n_t33 (X_t34 0)
              have u_n_t34 := u_n_t33.ex I_n_t33 (X_t34 0)
              have I_m_mdt4_t34 := I_m_mdt4_t33.flat X_t34
              have f_m_mdt4_t34 := f_m_mdt4_t33.ex I_m_mdt4_t33 (X_t34 0)
              have I_m_mdt24_t34 := I_m_mdt24_t33.flat X_t34
              have f_m_mdt24_t34 := f_m_mdt24_t33.ex I_m_mdt24_t33 (X_t34 0)
              have u_m_mdt24_t34 := u_m_mdt24_t33.ex I_m_mdt24_t33 (X_t34 0)
              have I_m_mdt26_t34 := I_m_mdt26_t33.flat X_t34
              have u_m_mdt26_t34 := u_m_mdt26_t33.ex I_m_mdt26_t33 (X_t34 0)
              have hv_m_mdt4_t34 : V56 t34 (m_md t4) (m_md t0) n := hv_m_mdt4_t33.flat j_t34
              have x69_t34 : U69 t34 (m_md t24) := U69_flat j_t34 x69_t33
              have la_n_t34 : m_la t34 n = (m_md t4) + 1 := by rw [j_t34.2.2.1]; exact la_n_t33
              have wl_n_t34 : m_wh t34 ((m_md t4)) = 56 := by rw [j_t34.1]; exact wl_n_t33
              clear la_n_t33 wl_n_t33
              have la_m_mdt4_t34 : m_la t34 (m_md t4) = (m_md t24) + 1 := by rw [j_t34.2.2.1]; exact la_m_mdt4_t33
              have wl_m_mdt4_t34 : m_wh t34 ((m_md t24)) = 13 := by rw [j_t34.1]; exact wl_m_mdt4_t33
              clear la_m_mdt4_t33 wl_m_mdt4_t33
              have la_m_mdt24_t34 : m_la t34 (m_md t24) = (m_md t26) + 1 := by rw [j_t34.2.2.1]; exact la_m_mdt24_t33
              have wl_m_mdt24_t34 : m_wh t34 ((m_md t26)) = 5 := by rw [j_t34.1]; exact wl_m_mdt24_t33
              clear la_m_mdt24_t33 wl_m_mdt24_t33
              refine Ok_ret (show Ok _ _ _ from ?_)
              refine Ok_ret (show Ok _ _ _ from ?_)
              have h56 : N56 t34 (m_md t4) [(4, m_md t24, 3), (5, m_md t24, 3)] := N56_mk hv_m_mdt4_t34 la_m_mdt4_t34 (by omega) (by omega) (by omega) (by omega) (fun y hy => by cases hy; show m_md t24 ≤ m_md t24; omega) I_n_t34 I_m_mdt24_t34 u_m_mdt24_t34 x69_t34 (Or.inl f_m_mdt24_t34)
              refine Hv_mk (Kv_c (x := (5, m_md t24, 3)) rfl (Kv_c (x := (4, m_md t24, 3)) rfl (Kv_c (x := (56, m_md t4, 2)) rfl hK))) (C_t34.1.2.2.2.2.2.2 hTt) C_t34 hT (by omega) (by omega) (by omega) ?_ ?_ ?_ (by omega) ?_ ?_ ?_
              · exact ⟨(Io_n (by decide) (by decide) I_m_mdt24_t34.1 I_m_mdt24_t34.2.1 I_m_mdt24_t34.2.2.1 (fun q => absurd q (by decide)) (fun q => absurd q (by decide)) I_m_mdt24_t34.2.2.2), (Nd_5 Mo_nil (Or.inr (N5_mk f_m_mdt24_t34 (Ab_none rfl) la_m_mdt24_t34 wl_m_mdt24_t34 (Or.inl (by decide))))), ⟨(Io_n (by decide) (by decide) I_m_mdt24_t34.1 I_m_mdt24_t34.2.1 I_m_mdt24_t34.2.2.1 (fun q => absurd q (by decide)) (fun q => absurd q (by decide)) I_m_mdt24_t34.2.2.2), (Nd_A (by decide) (Mo_cons (fun q => show m_md t24 ≤ m_md t24 from by omega) Mo_nil) (Or.inl f_m_mdt24_t34)), ⟨(Io_n (by decide) (by decide) I_m_mdt4_t34.1 I_m_mdt4_t34.2.1 I_m_mdt4_t34.2.2.1 (fun q => absurd q (by decide)) (fun q => absurd q (by decide)) I_m_mdt4_t34.2.2.2), (Nd_56 (Mo_cons (fun q => show m_md t4 ≤ m_md t24 from by omega) (Mo_cons (fun q => show m_md t4 ≤ m_md t24 from by omega) Mo_nil)) (fun _ => h56)), Stk_step (N := n) (pop := (42, n, t)) (new := [(56, m_md t4, 2), (4, m_md t24, 3), (5, m_md t24, 3)]) F0 C_t34.1.to2 (fun (h : nk 42 = false) => absurd h (by decide)) (fun q _ h => h (42, n, t) rfl) (fun _ => rfl) (fun y hy hk => ⟨rfl, (Mo_cons (fun q => show n ≤ m_md t4 from by omega) (Mo_cons (fun q => show n ≤ m_md t24 from by omega) (Mo_cons (fun q => show n ≤ m_md t24 from by omega) Mo_nil))) y hy hk⟩) (fun (h : 42 = 3 ∨ 42 = 18 ∨ 42 = 41) => absurd h (by decide)) (fun (h : 42 = 18) => absurd h (by decide)) (fun _ h16 => (Or.inr ⟨f_n_t34, (Ab_some (y := (56, m_md t4, 2)) rfl (show n < m_md t4 from by omega)), H50_no la_n_t34 wl_n_t34 (by decide)⟩)) r [] (fun y hy => absurd hy List.not_mem_nil) hS⟩⟩⟩
              · exact (Aj_up (x := (5, m_md t24, 3)) (Aj_up (x := (4, m_md t24, 3)) (Aj_sub (y := (56, m_md t4, 2)) hJ (Nat.le_of_ble_eq_true rfl)) (Or.inr (Nat.le_of_ble_eq_true rfl))) (Or.inr (Nat.le_of_ble_eq_true rfl)))
              · show m_dp t34 = (dlt 5 + (dlt 4 + (dlt 56 + sD r)))
                have : dlt 4 = 0 := rfl; have : dlt 42 = 0 := rfl; have : dlt 5 = 0 := rfl; have : dlt 56 = 0 := rfl; omega
              · show m_rw t34 = (rho 5 + (rho 4 + (rho 56 + sR r)))
                have : rho 4 = 0 := rfl; have : rho 42 = 0 := rfl; have : rho 5 = 0 := rfl; have : rho 56 = 0 := rfl; omega
              · show m_md t34 + (mu7 5 + (mu7 4 + (mu7 56 + sM r))) ≤ 3 * m_at t34 + 7 * (r.length + 1 + 1 + 1) + 10
                have : mu7 4 = 7 := rfl; have : mu7 42 = 8 := rfl; have : mu7 5 = 7 := rfl; have : mu7 56 = 7 := rfl; omega
              · show (wt 5 + (wt 4 + (wt 56 + sW r))) + 6 * (4096 - m_at t34) + 4 * (600 - (r.length + 1 + 1 + 1)) < (wt 42 + sW r) + 6 * (4096 - m_at t0) + 4 * (600 - (r.length + 1))
                have : wt 4 = 5 := rfl; have : wt 42 = 5 := rfl; have : wt 5 = 5 := rfl; have : wt 56 = 5 := rfl; omega
            · refine Ok_ife (Nat.lt_trans (lo_lt (C_t26.tk hT) _) (by decide)) (by decide) (fun q35 => ?_) (fun q35 => ?_)
              · refine Kp_child C_t26 I_m_mdt24_t26.1 I_m_mdt24_t26.2.1 I_m_mdt24_t26.2.2.1 (by omega) (by omega) (by decide) (by decide) (fun t36 C_t36 X_t36 a_t36 b_t36 d_t36 w_t36 u_t36 v_t36 j_t36 l_t36 => ?_)
                have e_t36 := C_t36.2.2.2.1
                rw [a_t26] at a_t36
                rw [b_t26] at b_t36
                rw [d_t26] at d_t36
                rw [w_t26] at w_t36
                rw [u_t26] at u_t36
                rw [v_t26] at v_t36
                clear d_t26 w_t26 u_t26 v_t26 e_t26 a_t26
                have I_n_t36 := I_n_t26.chd X_t36 j_t36
                have f_n_t36 := f_n_t26.ex I_n_t26 (X_t36 0 (Nat.zero_le _))
                have u_n_t36 := u_n_t26.ex I_n_t26 (X_t36 0 (Nat.zero_le _))
                have I_m_mdt4_t36 := I_m_mdt4_t26.chd X_t36 j_t36
                have f_m_mdt4_t36 := f_m_mdt4_t26.ex I_m_mdt4_t26 (X_t36 0 (Nat.zero_le _))
                have I_m_mdt24_t36 := I_m_mdt24_t26.chd X_t36 j_t36
                have u_m_mdt24_t36 := u_m_mdt24_t26.ex I_m_mdt24_t26 (X_t36 0 (Nat.zero_le _))
                have hv_m_mdt4_t36 : V56 t36 (m_md t4) (m_md t0) n := hv_m_mdt4_t26.chd I_m_mdt4_t26.1 j_t36
                have x69_t36 : U69 t36 (m_md t24) := U69_ch j_t36 (by decide)
                have la_n_t36 : m_la t36 n = (m_md t4) + 1 := by rw [(j_t36.2.2.2.2.2.2.2.1 n I_n_t26.1 (by omega)).1]; exact la_n_t26
                have wl_n_t36 : m_wh t36 ((m_md t4)) = 56 := by rw [(j_t36.2.2.2.2.2.2.1 ((m_md t4)) (by omega)).2]; exact wl_n_t26
                clear la_n_t26 wl_n_t26
                have la_m_mdt4_t36 : m_la t36 (m_md t4) = (m_md t24) + 1 := by rw [(j_t36.2.2.2.2.2.2.2.1 (m_md t4) I_m_mdt4_t26.1 (by omega)).1]; exact la_m_mdt4_t26
                have wl_m_mdt4_t36 : m_wh t36 ((m_md t24)) = 13 := by rw [(j_t36.2.2.2.2.2.2.1 ((m_md t24)) (by omega)).2]; exact wl_m_mdt4_t26
                clear la_m_mdt4_t26 wl_m_mdt4_t26
                have f_m_mdt24_t36 : Fz t36 (m_md t24) := j_t36.2.2.2.2.1
                have I_m_mdt26_t36 : Nq t36 (m_md t26) := Nq.chn j_t36 (by omega) I_m_mdt24_t26 (by decide)
                have u_m_mdt26_t36 : Up t36 (m_md t26) := Or.inl j_t36.2.1
                have la_m_mdt24_t36 : m_la t36 (m_md t24) = (m_md t26) + 1 := j_t36.2.2.2.2.2.1
                have wl_m_mdt24_t36 : m_wh t36 (m_md t26) = 89 := j_t36.1
                refine Kp_more C_t36 (by omega) (by omega) (fun t37 C_t37 X_t37 a_t37 b_t37 d_t37 w_t37 u_t37 v_t37 j_t37 l_t37 => ?_)
                have e_t37 := C_t37.2.2.2.1
                rcases w_t37 with ⟨w_t37, y_t37⟩ | ⟨w_t37, wb_t37⟩
                · rw [a_t36] at a_t37
                  rw [b_t36] at b_t37
                  rw [d_t36] at d_t37
                  rw [w_t36] at w_t37
                  rw [u_t36] at u_t37
                  rw [v_t36] at v_t37
                  rw [d_t37] at y_t37
                  clear d_t36 w_t36 u_t36 v_t36 e_t36 a_t36 b_t36
                  have I_n_t37 := I_n_t36.flat X_t37
                  have f_n_t37 := f_n_t36.ex I_n_t36 (X_t37 0)
                  have u_n_t37 := u_n_t36.ex I_n_t36 (X_t37 0)
                  have I_m_mdt4_t37 := I_m_mdt4_t36.flat X_t37
                  have f_m_mdt4_t37 := f_m_mdt4_t36.ex I_m_mdt4_t36 (X_t37 0)
                  have I_m_mdt24_t37 := I_m_mdt24_t36.flat X_t37
                  have f_m_mdt24_t37 := f_m_mdt24_t36.ex I_m_mdt24_t36 (X_t37 0)
                  have u_m_mdt24_t37 := u_m_mdt24_t36.ex I_m_mdt24_t36 (X_t37 0)
                  have I_m_mdt26_t37 := I_m_mdt26_t36.flat X_t37
                  have u_m_mdt26_t37 := u_m_mdt26_t36.ex I_m_mdt26_t36 (X_t37 0)
                  have hv_m_mdt4_t37 : V56 t37 (m_md t4) (m_md t0) n := hv_m_mdt4_t36.flat j_t37
                  have x69_t37 : U69 t37 (m_md t24) := U69_flat j_t37 x69_t36
                  have la_n_t37 : m_la t37 n = (m_md t4) + 1 := by rw [j_t37.2.2.1]; exact la_n_t36
                  have wl_n_t37 : m_wh t37 ((m_md t4)) = 56 := by rw [j_t37.1]; exact wl_n_t36
                  clear la_n_t36 wl_n_t36
                  have la_m_mdt4_t37 : m_la t37 (m_md t4) = (m_md t24) + 1 := by rw [j_t37.2.2.1]; exact la_m_mdt4_t36
                  have wl_m_mdt4_t37 : m_wh t37 ((m_md t24)) = 13 := by rw [j_t37.1]; exact wl_m_mdt4_t36
                  clear la_m_mdt4_t36 wl_m_mdt4_t36
                  have la_m_mdt24_t37 : m_la t37 (m_md t24) = (m_md t26) + 1 := by rw [j_t37.2.2.1]; exact la_m_mdt24_t36
                  have wl_m_mdt24_t37 : m_wh t37 ((m_md t26)) = 89 := by rw [j_t37.1]; exact wl_m_mdt24_t36
                  clear la_m_mdt24_t36 wl_m_mdt24_t36
                  have z_t38 : m_at t37 < m_ct t37 := lo_ne (Nat.ne_of_gt (show 0 < lo t37 (m_at t37) from by omega))
                  refine Kp_at C_t37 (fun t38 C_t38 X_t38 a_t38 b_t38 d_t38 w_t38 u_t38 v_t38 j_t38 l_t38 => ?_)
                  have e_t38 := C_t38.2.2.2.1
                  rw [a_t37] at a_t38
                  rw [b_t37] at b_t38
                  rw [d_t37] at d_t38
                  rw [w_t37] at w_t38
                  rw [u_t37] at u_t38
                  rw [v_t37] at v_t38
                  rw [a_t37, e_t37] at z_t38
                  clear z_t23
                  clear d_t37 w_t37 u_t37 v_t37 e_t37 a_t37 b_t37
                  have I_n_t38 := I_n_t37.flat X_t38
                  have f_n_t38 := f_n_t37.ex I_n_t37 (X_t38 0)
                  have u_n_t38 := u_n_t37.ex I_n_t37 (X_t38 0)
                  have I_m_mdt4_t38 := I_m_mdt4_t37.flat X_t38
                  have f_m_mdt4_t38 := f_m_mdt4_t37.ex I_m_mdt4_t37 (X_t38 0)
                  have I_m_mdt24_t38 := I_m_mdt24_t37.flat X_t38
                  have f_m_mdt24_t38 := f_m_mdt24_t37.ex I_m_mdt24_t37 (X_t38 0)
                  have u_m_mdt24_t38 := u_m_mdt24_t37.ex I_m_mdt24_t37 (X_t38 0)
                  have I_m_mdt26_t38 := I_m_mdt26_t37.flat X_t38
                  have u_m_mdt26_t38 := u_m_mdt26_t37.ex I_m_mdt26_t37 (X_t38 0)
                  have hv_m_mdt4_t38 : V56 t38 (m_md t4) (m_md t0) n := hv_m_mdt4_t37.flat j_t38
                  have x69_t38 : U69 t38 (m_md t24) := U69_flat j_t38 x69_t37
                  have la_n_t38 : m_la t38 n = (m_md t4) + 1 := by rw [j_t38.2.2.1]; exact la_n_t37
                  have wl_n_t38 : m_wh t38 ((m_md t4)) = 56 := by rw [j_t38.1]; exact wl_n_t37
                  clear la_n_t37 wl_n_t37
                  have la_m_mdt4_t38 : m_la t38 (m_md t4) = (m_md t24) + 1 := by rw [j_t38.2.2.1]; exact la_m_mdt4_t37
                  have wl_m_mdt4_t38 : m_wh t38 ((m_md t24)) = 13 := by rw [j_t38.1]; exact wl_m_mdt4_t37
                  clear la_m_mdt4_t37 wl_m_mdt4_t37
                  have la_m_mdt24_t38 : m_la t38 (m_md t24) = (m_md t26) + 1 := by rw [j_t38.2.2.1]; exact la_m_mdt24_t37
                  have wl_m_mdt24_t38 : m_wh t38 ((m_md t26)) = 89 := by rw [j_t38.1]; exact wl_m_mdt24_t37
                  clear la_m_mdt24_t37 wl_m_mdt24_t37
                  refine Kp_push C_t38 (by omega) (fun t39 C_t39 X_t39 a_t39 b_t39 d_t39 w_t39 u_t39 v_t39 j_t39 l_t39 => ?_)
                  have e_t39 := C_t39.2.2.2.1
                  rw [a_t38] at a_t39
                  rw [b_t38] at b_t39
                  rw [d_t38] at d_t39
                  rw [w_t38] at w_t39
                  rw [u_t38] at u_t39
                  rw [v_t38] at v_t39
                  clear d_t38 w_t38 u_t38 v_t38 e_t38 a_t38 b_t38
                  have I_n_t39 := I_n_t38.flat X_t39
                  have f_n_t39 := f_n_t38.ex I_n_t38 (X_t39 0)
                  have u_n_t39 := u_n_t38.ex I_n_t38 (X_t39 0)
                  have I_m_mdt4_t39 := I_m_mdt4_t38.flat X_t39
                  have f_m_mdt4_t39 := f_m_mdt4_t38.ex I_m_mdt4_t38 (X_t39 0)
                  have I_m_mdt24_t39 := I_m_mdt24_t38.flat X_t39
                  have f_m_mdt24_t39 := f_m_mdt24_t38.ex I_m_mdt24_t38 (X_t39 0)
                  have u_m_mdt24_t39 := u_m_mdt24_t38.ex I_m_mdt24_t38 (X_t39 0)
                  have I_m_mdt26_t39 := I_m_mdt26_t38.flat X_t39
                  have u_m_mdt26_t39 := u_m_mdt26_t38.ex I_m_mdt26_t38 (X_t39 0)
                  have hv_m_mdt4_t39 : V56 t39 (m_md t4) (m_md t0) n := hv_m_mdt4_t38.flat j_t39
                  have x69_t39 : U69 t39 (m_md t24) := U69_flat j_t39 x69_t38
                  have la_n_t39 : m_la t39 n = (m_md t4) + 1 := by rw [j_t39.2.2.1]; exact la_n_t38
                  have wl_n_t39 : m_wh t39 ((m_md t4)) = 56 := by rw [j_t39.1]; exact wl_n_t38
                  clear la_n_t38 wl_n_t38
                  have la_m_mdt4_t39 : m_la t39 (m_md t4) = (m_md t24) + 1 := by rw [j_t39.2.2.1]; exact la_m_mdt4_t38
                  have wl_m_mdt4_t39 : m_wh t39 ((m_md t24)) = 13 := by rw [j_t39.1]; exact wl_m_mdt4_t38
                  clear la_m_mdt4_t38 wl_m_mdt4_t38
                  have la_m_mdt24_t39 : m_la t39 (m_md t24) = (m_md t26) + 1 := by rw [j_t39.2.2.1]; exact la_m_mdt24_t38
                  have wl_m_mdt24_t39 : m_wh t39 ((m_md t26)) = 89 := by rw [j_t39.1]; exact wl_m_mdt24_t38
                  clear la_m_mdt24_t38 wl_m_mdt24_t38
                  refine Ok_bnc ?_
                  try unfold b_X6_expression
                  refine Kp_push C_t39 (by omega) (fun t41 C_t41 X_t41 a_t41 b_t41 d_t41 w_t41 u_t41 v_t41 j_t41 l_t41 => ?_)
                  have e_t41 := C_t41.2.2.2.1
                  rw [a_t39] at a_t41
                  rw [b_t39] at b_t41
                  rw [d_t39] at d_t41
                  rw [w_t39] at w_t41
                  rw [u_t39] at u_t41
                  rw [v_t39] at v_t41
                  clear d_t39 w_t39 u_t39 v_t39 e_t39 a_t39 b_t39
                  have I_n_t41 := I_n_t39.flat X_t41
                  have f_n_t41 := f_n_t39.ex I_n_t39 (X_t41 0)
                  have u_n_t41 := u_n_t39.ex I_n_t39 (X_t41 0)
                  have I_m_mdt4_t41 := I_m_mdt4_t39.flat X_t41
                  have f_m_mdt4_t41 := f_m_mdt4_t39.ex I_m_mdt4_t39 (X_t41 0)
                  have I_m_mdt24_t41 := I_m_mdt24_t39.flat X_t41
                  have f_m_mdt24_t41 := f_m_mdt24_t39.ex I_m_mdt24_t39 (X_t41 0)
                  have u_m_mdt24_t41 := u_m_mdt24_t39.ex I_m_mdt24_t39 (X_t41 0)
                  have I_m_mdt26_t41 := I_m_mdt26_t39.flat X_t41
                  have u_m_mdt26_t41 := u_m_mdt26_t39.ex I_m_mdt26_t39 (X_t41 0)
                  have hv_m_mdt4_t41 : V56 t41 (m_md t4) (m_md t0) n := hv_m_mdt4_t39.flat j_t41
                  have x69_t41 : U69 t41 (m_md t24) := U69_flat j_t41 x69_t39
                  have la_n_t41 : m_la t41 n = (m_md t4) + 1 := by rw [j_t41.2.2.1]; exact la_n_t39
                  have wl_n_t41 : m_wh t41 ((m_md t4)) = 56 := by rw [j_t41.1]; exact wl_n_t39
                  clear la_n_t39 wl_n_t39
                  have la_m_mdt4_t41 : m_la t41 (m_md t4) = (m_md t24) + 1 := by rw [j_t41.2.2.1]; exact la_m_mdt4_t39
                  have wl_m_mdt4_t41 : m_wh t41 ((m_md t24)) = 13 := by rw [j_t41.1]; exact wl_m_mdt4_t39
                  clear la_m_mdt4_t39 wl_m_mdt4_t39
                  have la_m_mdt24_t41 : m_la t41 (m_md t24) = (m_md t26) + 1 := by rw [j_t41.2.2.1]; exact la_m_mdt24_t39
                  have wl_m_mdt24_t41 : m_wh t41 ((m_md t26)) = 89 := by rw [j_t41.1]; exact wl_m_mdt24_t39
                  clear la_m_mdt24_t39 wl_m_mdt24_t39
                  refine Kp_push C_t41 (by omega) (fun t42 C_t42 X_t42 a_t42 b_t42 d_t42 w_t42 u_t42 v_t42 j_t42 l_t42 => ?_)
                  have e_t42 := C_t42.2.2.2.1
                  rw [a_t41] at a_t42
                  rw [b_t41] at b_t42
                  rw [d_t41] at d_t42
                  rw [w_t41] at w_t42
                  rw [u_t41] at u_t42
                  rw [v_t41] at v_t42
                  clear d_t41 w_t41 u_t41 v_t41 e_t41 a_t41 b_t41
                  have I_n_t42 := I_n_t41.flat X_t42
                  have f_n_t42 := f_n_t41.ex I_n_t41 (X_t42 0)
                  have u_n_t42 := u_n_t41.ex I_n_t41 (X_t42 0)
                  have I_m_mdt4_t42 := I_m_mdt4_t41.flat X_t42
                  have f_m_mdt4_t42 := f_m_mdt4_t41.ex I_m_mdt4_t41 (X_t42 0)
                  have I_m_mdt24_t42 := I_m_mdt24_t41.flat X_t42
                  have f_m_mdt24_t42 := f_m_mdt24_t41.ex I_m_mdt24_t41 (X_t42 0)
                  have u_m_mdt24_t42 := u_m_mdt24_t41.ex I_m_mdt24_t41 (X_t42 0)
                  have I_m_mdt26_t42 := I_m_mdt26_t41.flat X_t42
                  have u_m_mdt26_t42 := u_m_mdt26_t41.ex I_m_mdt26_t41 (X_t42 0)
                  have hv_m_mdt4_t42 : V56 t42 (m_md t4) (m_md t0) n := hv_m_mdt4_t41.flat j_t42
                  have x69_t42 : U69 t42 (m_md t24) := U69_flat j_t42 x69_t41
                  have la_n_t42 : m_la t42 n = (m_md t4) + 1 := by rw [j_t42.2.2.1]; exact la_n_t41
                  have wl_n_t42 : m_wh t42 ((m_md t4)) = 56 := by rw [j_t42.1]; exact wl_n_t41
                  clear la_n_t41 wl_n_t41
                  have la_m_mdt4_t42 : m_la t42 (m_md t4) = (m_md t24) + 1 := by rw [j_t42.2.2.1]; exact la_m_mdt4_t41
                  have wl_m_mdt4_t42 : m_wh t42 ((m_md t24)) = 13 := by rw [j_t42.1]; exact wl_m_mdt4_t41
                  clear la_m_mdt4_t41 wl_m_mdt4_t41
                  have la_m_mdt24_t42 : m_la t42 (m_md t24) = (m_md t26) + 1 := by rw [j_t42.2.2.1]; exact la_m_mdt24_t41
                  have wl_m_mdt24_t42 : m_wh t42 ((m_md t26)) = 89 := by rw [j_t42.1]; exact wl_m_mdt24_t41
                  clear la_m_mdt24_t41 wl_m_mdt24_t41
                  refine Ok_ret (show Ok _ _ _ from ?_)
                  refine Ok_ret (show Ok _ _ _ from ?_)
                  refine Ok_ret (show Ok _ _ _ from ?_)
                  have h56 : N56 t42 (m_md t4) [(4, m_md t24, 3), (8, 79, 0), (2, m_md t26, 0 ||| (1 * 256)), (3, m_md t26, 0)] := N56_mk hv_m_mdt4_t42 la_m_mdt4_t42 (by omega) (by omega) (by omega) (by omega) (fun y hy => by cases hy; show m_md t24 ≤ m_md t24; omega) I_n_t42 I_m_mdt24_t42 u_m_mdt24_t42 x69_t42 (Or.inl f_m_mdt24_t42)
                  refine Hv_mk (Kv_c (x := (3, m_md t26, 0)) rfl (Kv_c (x := (2, m_md t26, 0 ||| (1 * 256))) rfl (Kv_c (x := (8, 79, 0)) rfl (Kv_c (x := (4, m_md t24, 3)) rfl (Kv_c (x := (56, m_md t4, 2)) rfl hK))))) (C_t42.1.2.2.2.2.2.2 hTt) C_t42 hT (by omega) (by omega) (by omega) ?_ ?_ ?_ (by omega) ?_ ?_ ?_
                  · exact ⟨(Io_n (by decide) (by decide) I_m_mdt26_t42.1 I_m_mdt26_t42.2.1 I_m_mdt26_t42.2.2.1 (fun q => absurd q (by decide)) (fun q => absurd q (by decide)) I_m_mdt26_t42.2.2.2), (Nd_0 (by decide) Mo_nil), ⟨(Io_2 (by have := or_256 (b := 1) (show 0 < 256 from by omega); omega) (by have := or_256 (b := 1) (show 0 < 256 from by omega); omega) (by have := or_256 (b := 1) (show 0 < 256 from by omega); omega) I_m_mdt26_t42.1 I_m_mdt26_t42.2.1 I_m_mdt26_t42.2.2.1 I_m_mdt26_t42.2.2.2), (Nd_A (by decide) (Mo_cons (fun q => show m_md t26 ≤ m_md t26 from by omega) Mo_nil) (Or.inr ⟨(3, m_md t26, 0), List.mem_cons_self, rfl, Or.inl rfl⟩)), ⟨(Io_78 (by decide) (by decide) (by decide)), (Nd_x (by decide)), ⟨(Io_n (by decide) (by decide) I_m_mdt24_t42.1 I_m_mdt24_t42.2.1 I_m_mdt24_t42.2.2.1 (fun q => absurd q (by decide)) (fun q => absurd q (by decide)) I_m_mdt24_t42.2.2.2), (Nd_A (by decide) (Mo_cons (fun q => absurd (show nk 8 = true from q) (by decide)) (Mo_cons (fun q => show m_md t24 ≤ m_md t26 from by omega) (Mo_cons (fun q => show m_md t24 ≤ m_md t26 from by omega) Mo_nil))) (Or.inl f_m_mdt24_t42)), ⟨(Io_n (by decide) (by decide) I_m_mdt4_t42.1 I_m_mdt4_t42.2.1 I_m_mdt4_t42.2.2.1 (fun q => absurd q (by decide)) (fun q => absurd q (by decide)) I_m_mdt4_t42.2.2.2), (Nd_56 (Mo_cons (fun q => show m_md t4 ≤ m_md t24 from by omega) (Mo_cons (fun q => absurd (show nk 8 = true from q) (by decide)) (Mo_cons (fun q => show m_md t4 ≤ m_md t26 from by omega) (Mo_cons (fun q => show m_md t4 ≤ m_md t26 from by omega) Mo_nil)))) (fun _ => h56)), Stk_step (N := n) (pop := (42, n, t)) (new := [(56, m_md t4, 2), (4, m_md t24, 3), (8, 79, 0), (2, m_md t26, 0 ||| (1 * 256)), (3, m_md t26, 0)]) F0 C_t42.1.to2 (fun (h : nk 42 = false) => absurd h (by decide)) (fun q _ h => h (42, n, t) rfl) (fun _ => rfl) (fun y hy hk => ⟨rfl, (Mo_cons (fun q => show n ≤ m_md t4 from by omega) (Mo_cons (fun q => show n ≤ m_md t24 from by omega) (Mo_cons (fun q => absurd (show nk 8 = true from q) (by decide)) (Mo_cons (fun q => show n ≤ m_md t26 from by omega) (Mo_cons (fun q => show n ≤ m_md t26 from by omega) Mo_nil))))) y hy hk⟩) (fun (h : 42 = 3 ∨ 42 = 18 ∨ 42 = 41) => absurd h (by decide)) (fun (h : 42 = 18) => absurd h (by decide)) (fun _ h16 => (Or.inr ⟨f_n_t42, (Ab_some (y := (56, m_md t4, 2)) rfl (show n < m_md t4 from by omega)), H50_no la_n_t42 wl_n_t42 (by decide)⟩)) r [] (fun y hy => absurd hy List.not_mem_nil) hS⟩⟩⟩⟩⟩
                  · exact (Aj_up (x := (3, m_md t26, 0)) (Aj_up (x := (2, m_md t26, 0 ||| (1 * 256))) (Aj_up (x := (8, 79, 0)) (Aj_up (x := (4, m_md t24, 3)) (Aj_sub (y := (56, m_md t4, 2)) hJ (Nat.le_of_ble_eq_true rfl)) (Or.inr (Nat.le_of_ble_eq_true rfl))) (Or.inr (Nat.le_of_ble_eq_true rfl))) (Or.inl (Nat.le_of_ble_eq_true rfl))) (Or.inr (show 2 < 9 - (0 ||| (1 * 256)) / 256 from by have := or_256 (b := 1) (show 0 < 256 from by omega); omega)))
                  · show m_dp t42 = (dlt 3 + (dlt 2 + (dlt 8 + (dlt 4 + (dlt 56 + sD r)))))
                    have : dlt 2 = 0 := rfl; have : dlt 3 = 0 := rfl; have : dlt 4 = 0 := rfl; have : dlt 42 = 0 := rfl; have : dlt 56 = 0 := rfl; have : dlt 8 = 1 := rfl; omega
                  · show m_rw t42 = (rho 3 + (rho 2 + (rho 8 + (rho 4 + (rho 56 + sR r)))))
                    have : rho 2 = 0 := rfl; have : rho 3 = 0 := rfl; have : rho 4 = 0 := rfl; have : rho 42 = 0 := rfl; have : rho 56 = 0 := rfl; have : rho 8 = 0 := rfl; omega
                  · show m_md t42 + (mu7 3 + (mu7 2 + (mu7 8 + (mu7 4 + (mu7 56 + sM r))))) ≤ 3 * m_at t42 + 7 * (r.length + 1 + 1 + 1 + 1 + 1) + 10
                    have : mu7 2 = 7 := rfl; have : mu7 3 = 5 := rfl; have : mu7 4 = 7 := rfl; have : mu7 42 = 8 := rfl; have : mu7 56 = 7 := rfl; have : mu7 8 = 4 := rfl; omega
                  · show (wt 3 + (wt 2 + (wt 8 + (wt 4 + (wt 56 + sW r))))) + 6 * (4096 - m_at t42) + 4 * (600 - (r.length + 1 + 1 + 1 + 1 + 1)) < (wt 42 + sW r) + 6 * (4096 - m_at t0) + 4 * (600 - (r.length + 1))
                    have : wt 2 = 5 := rfl; have : wt 3 = 3 := rfl; have : wt 4 = 5 := rfl; have : wt 42 = 5 := rfl; have : wt 56 = 5 := rfl; have : wt 8 = 0 := rfl; omega
                · have w_t37 := Nat.pos_of_ne_zero w_t37
                  have I_n_t37 := I_n_t36.flat X_t37
                  have f_n_t37 := f_n_t36.ex I_n_t36 (X_t37 0)
                  have u_n_t37 := u_n_t36.ex I_n_t36 (X_t37 0)
                  have I_m_mdt4_t37 := I_m_mdt4_t36.flat X_t37
                  have f_m_mdt4_t37 := f_m_mdt4_t36.ex I_m_mdt4_t36 (X_t37 0)
                  have I_m_mdt24_t37 := I_m_mdt24_t36.flat X_t37
                  have f_m_mdt24_t37 := f_m_mdt24_t36.ex I_m_mdt24_t36 (X_t37 0)
                  have u_m_mdt24_t37 := u_m_mdt24_t36.ex I_m_mdt24_t36 (X_t37 0)
                  have I_m_mdt26_t37 := I_m_mdt26_t36.flat X_t37
                  have u_m_mdt26_t37 := u_m_mdt26_t36.ex I_m_mdt26_t36 (X_t37 0)
                  have hv_m_mdt4_t37 : V56 t37 (m_md t4) (m_md t0) n := hv_m_mdt4_t36.flat j_t37
                  have x69_t37 : U69 t37 (m_md t24) := U69_flat j_t37 x69_t36
                  have la_n_t37 : m_la t37 n = (m_md t4) + 1 := by rw [j_t37.2.2.1]; exact la_n_t36
                  have wl_n_t37 : m_wh t37 ((m_md t4)) = 56 := by rw [j_t37.1]; exact wl_n_t36
                  clear la_n_t36 wl_n_t36
                  have la_m_mdt4_t37 : m_la t37 (m_md t4) = (m_md t24) + 1 := by rw [j_t37.2.2.1]; exact la_m_mdt4_t36
                  have wl_m_mdt4_t37 : m_wh t37 ((m_md t24)) = 13 := by rw [j_t37.1]; exact wl_m_mdt4_t36
                  clear la_m_mdt4_t36 wl_m_mdt4_t36
                  have la_m_mdt24_t37 : m_la t37 (m_md t24) = (m_md t26) + 1 := by rw [j_t37.2.2.1]; exact la_m_mdt24_t36
                  have wl_m_mdt24_t37 : m_wh t37 ((m_md t26)) = 89 := by rw [j_t37.1]; exact wl_m_mdt24_t36
                  clear la_m_mdt24_t36 wl_m_mdt24_t36
                  refine Kp_at C_t37 (fun t43 C_t43 X_t43 a_t43 b_t43 d_t43 w_t43 u_t43 v_t43 j_t43 l_t43 => ?_)
                  have e_t43 := C_t43.2.2.2.1
                  have I_n_t43 := I_n_t37.flat X_t43
                  have f_n_t43 := f_n_t37.ex I_n_t37 (X_t43 0)
                  have u_n_t43 := u_n_t37.ex I_n_t37 (X_t43 0)
                  have I_m_mdt4_t43 := I_m_mdt4_t37.flat X_t43
                  have f_m_mdt4_t43 := f_m_mdt4_t37.ex I_m_mdt4_t37 (X_t43 0)
                  have I_m_mdt24_t43 := I_m_mdt24_t37.flat X_t43
                  have f_m_mdt24_t43 := f_m_mdt24_t37.ex I_m_mdt24_t37 (X_t43 0)
                  have u_m_mdt24_t43 := u_m_mdt24_t37.ex I_m_mdt24_t37 (X_t43 0)
                  have I_m_mdt26_t43 := I_m_mdt26_t37.flat X_t43
                  have u_m_mdt26_t43 := u_m_mdt26_t37.ex I_m_mdt26_t37 (X_t43 0)
                  have hv_m_mdt4_t43 : V56 t43 (m_md t4) (m_md t0) n := hv_m_mdt4_t37.flat j_t43
                  have x69_t43 : U69 t43 (m_md t24) := U69_flat j_t43 x69_t37
                  have la_n_t43 : m_la t43 n = (m_md t4) + 1 := by rw [j_t43.2.2.1]; exact la_n_t37
                  have wl_n_t43 : m_wh t43 ((m_md t4)) = 56 := by rw [j_t43.1]; exact wl_n_t37
                  clear la_n_t37 wl_n_t37
                  have la_m_mdt4_t43 : m_la t43 (m_md t4) = (m_md t24) + 1 := by rw [j_t43.2.2.1]; exact la_m_mdt4_t37
                  have wl_m_mdt4_t43 : m_wh t43 ((m_md t24)) = 13 := by rw [j_t43.1]; exact wl_m_mdt4_t37
                  clear la_m_mdt4_t37 wl_m_mdt4_t37
                  have la_m_mdt24_t43 : m_la t43 (m_md t24) = (m_md t26) + 1 := by rw [j_t43.2.2.1]; exact la_m_mdt24_t37
                  have wl_m_mdt24_t43 : m_wh t43 ((m_md t26)) = 89 := by rw [j_t43.1]; exact wl_m_mdt24_t37
                  clear la_m_mdt24_t37 wl_m_mdt24_t37
                  refine Kp_push C_t43 (by omega) (fun t44 C_t44 X_t44 a_t44 b_t44 d_t44 w_t44 u_t44 v_t44 j_t44 l_t44 => ?_)
                  have e_t44 := C_t44.2.2.2.1
                  have I_n_t44 := I_n_t43.flat X_t44
                  have f_n_t44 := f_n_t43.ex I_n_t43 (X_t44 0)
                  have u_n_t44 := u_n_t43.ex I_n_t43 (X_t44 0)
                  have I_m_mdt4_t44 := I_m_mdt4_t43.flat X_t44
                  have f_m_mdt4_t44 := f_m_mdt4_t43.ex I_m_mdt4_t43 (X_t44 0)
                  have I_m_mdt24_t44 := I_m_mdt24_t43.flat X_t44
                  have f_m_mdt24_t44 := f_m_mdt24_t43.ex I_m_mdt24_t43 (X_t44 0)
                  have u_m_mdt24_t44 := u_m_mdt24_t43.ex I_m_mdt24_t43 (X_t44 0)
                  have I_m_mdt26_t44 := I_m_mdt26_t43.flat X_t44
                  have u_m_mdt26_t44 := u_m_mdt26_t43.ex I_m_mdt26_t43 (X_t44 0)
                  have hv_m_mdt4_t44 : V56 t44 (m_md t4) (m_md t0) n := hv_m_mdt4_t43.flat j_t44
                  have x69_t44 : U69 t44 (m_md t24) := U69_flat j_t44 x69_t43
                  have la_n_t44 : m_la t44 n = (m_md t4) + 1 := by rw [j_t44.2.2.1]; exact la_n_t43
                  have wl_n_t44 : m_wh t44 ((m_md t4)) = 56 := by rw [j_t44.1]; exact wl_n_t43
                  clear la_n_t43 wl_n_t43
                  have la_m_mdt4_t44 : m_la t44 (m_md t4) = (m_md t24) + 1 := by rw [j_t44.2.2.1]; exact la_m_mdt4_t43
                  have wl_m_mdt4_t44 : m_wh t44 ((m_md t24)) = 13 := by rw [j_t44.1]; exact wl_m_mdt4_t43
                  clear la_m_mdt4_t43 wl_m_mdt4_t43
                  have la_m_mdt24_t44 : m_la t44 (m_md t24) = (m_md t26) + 1 := by rw [j_t44.2.2.1]; exact la_m_mdt24_t43
                  have wl_m_mdt24_t44 : m_wh t44 ((m_md t26)) = 89 := by rw [j_t44.1]; exact wl_m_mdt24_t43
                  clear la_m_mdt24_t43 wl_m_mdt24_t43
                  refine Ok_bnc ?_
                  try unfold b_X6_expression
                  refine Kp_push C_t44 (by omega) (fun t46 C_t46 X_t46 a_t46 b_t46 d_t46 w_t46 u_t46 v_t46 j_t46 l_t46 => ?_)
                  have e_t46 := C_t46.2.2.2.1
                  have I_n_t46 := I_n_t44.flat X_t46
                  have f_n_t46 := f_n_t44.ex I_n_t44 (X_t46 0)
                  have u_n_t46 := u_n_t44.ex I_n_t44 (X_t46 0)
                  have I_m_mdt4_t46 := I_m_mdt4_t44.flat X_t46
                  have f_m_mdt4_t46 := f_m_mdt4_t44.ex I_m_mdt4_t44 (X_t46 0)
                  have I_m_mdt24_t46 := I_m_mdt24_t44.flat X_t46
                  have f_m_mdt24_t46 := f_m_mdt24_t44.ex I_m_mdt24_t44 (X_t46 0)
                  have u_m_mdt24_t46 := u_m_mdt24_t44.ex I_m_mdt24_t44 (X_t46 0)
                  have I_m_mdt26_t46 := I_m_mdt26_t44.flat X_t46
                  have u_m_mdt26_t46 := u_m_mdt26_t44.ex I_m_mdt26_t44 (X_t46 0)
                  have hv_m_mdt4_t46 : V56 t46 (m_md t4) (m_md t0) n := hv_m_mdt4_t44.flat j_t46
                  have x69_t46 : U69 t46 (m_md t24) := U69_flat j_t46 x69_t44
                  have la_n_t46 : m_la t46 n = (m_md t4) + 1 := by rw [j_t46.2.2.1]; exact la_n_t44
                  have wl_n_t46 : m_wh t46 ((m_md t4)) = 56 := by rw [j_t46.1]; exact wl_n_t44
                  clear la_n_t44 wl_n_t44
                  have la_m_mdt4_t46 : m_la t46 (m_md t4) = (m_md t24) + 1 := by rw [j_t46.2.2.1]; exact la_m_mdt4_t44
                  have wl_m_mdt4_t46 : m_wh t46 ((m_md t24)) = 13 := by rw [j_t46.1]; exact wl_m_mdt4_t44
                  clear la_m_mdt4_t44 wl_m_mdt4_t44
                  have la_m_mdt24_t46 : m_la t46 (m_md t24) = (m_md t26) + 1 := by rw [j_t46.2.2.1]; exact la_m_mdt24_t44
                  have wl_m_mdt24_t46 : m_wh t46 ((m_md t26)) = 89 := by rw [j_t46.1]; exact wl_m_mdt24_t44
                  clear la_m_mdt24_t44 wl_m_mdt24_t44
                  refine Kp_push C_t46 (by omega) (fun t47 C_t47 X_t47 a_t47 b_t47 d_t47 w_t47 u_t47 v_t47 j_t47 l_t47 => ?_)
                  have e_t47 := C_t47.2.2.2.1
                  have I_n_t47 := I_n_t46.flat X_t47
                  have f_n_t47 := f_n_t46.ex I_n_t46 (X_t47 0)
                  have u_n_t47 := u_n_t46.ex I_n_t46 (X_t47 0)
                  have I_m_mdt4_t47 := I_m_mdt4_t46.flat X_t47
                  have f_m_mdt4_t47 := f_m_mdt4_t46.ex I_m_mdt4_t46 (X_t47 0)
                  have I_m_mdt24_t47 := I_m_mdt24_t46.flat X_t47
                  have f_m_mdt24_t47 := f_m_mdt24_t46.ex I_m_mdt24_t46 (X_t47 0)
                  have u_m_mdt24_t47 := u_m_mdt24_t46.ex I_m_mdt24_t46 (X_t47 0)
                  have I_m_mdt26_t47 := I_m_mdt26_t46.flat X_t47
                  have u_m_mdt26_t47 := u_m_mdt26_t46.ex I_m_mdt26_t46 (X_t47 0)
                  have hv_m_mdt4_t47 : V56 t47 (m_md t4) (m_md t0) n := hv_m_mdt4_t46.flat j_t47
                  have x69_t47 : U69 t47 (m_md t24) := U69_flat j_t47 x69_t46
                  have la_n_t47 : m_la t47 n = (m_md t4) + 1 := by rw [j_t47.2.2.1]; exact la_n_t46
                  have wl_n_t47 : m_wh t47 ((m_md t4)) = 56 := by rw [j_t47.1]; exact wl_n_t46
                  clear la_n_t46 wl_n_t46
                  have la_m_mdt4_t47 : m_la t47 (m_md t4) = (m_md t24) + 1 := by rw [j_t47.2.2.1]; exact la_m_mdt4_t46
                  have wl_m_mdt4_t47 : m_wh t47 ((m_md t24)) = 13 := by rw [j_t47.1]; exact wl_m_mdt4_t46
                  clear la_m_mdt4_t46 wl_m_mdt4_t46
                  have la_m_mdt24_t47 : m_la t47 (m_md t24) = (m_md t26) + 1 := by rw [j_t47.2.2.1]; exact la_m_mdt24_t46
                  have wl_m_mdt24_t47 : m_wh t47 ((m_md t26)) = 89 := by rw [j_t47.1]; exact wl_m_mdt24_t46
                  clear la_m_mdt24_t46 wl_m_mdt24_t46
                  refine Ok_ret (show Ok _ _ _ from ?_)
                  refine Ok_ret (show Ok _ _ _ from ?_)
                  refine Ok_ret (show Ok _ _ _ from ?_)
                  exact Or.inl ⟨Nat.ne_of_gt (show 0 < m_wr t47 from by omega), by omega, by omega, C_t47.2.2.2.2.2, by omega⟩
              · refine Ok_ife (Nat.lt_trans (lo_lt (C_t26.tk hT) _) (by decide)) (by decide) (fun q48 => ?_) (fun q48 => ?_)
                · refine Kp_child C_t26 I_m_mdt24_t26.1 I_m_mdt24_t26.2.1 I_m_mdt24_t26.2.2.1 (by omega) (by omega) (by decide) (by decide) (fun t49 C_t49 X_t49 a_t49 b_t49 d_t49 w_t49 u_t49 v_t49 j_t49 l_t49 => ?_)
                  have e_t49 := C_t49.2.2.2.1
                  rw [a_t26] at a_t49
                  rw [b_t26] at b_t49
                  rw [d_t26] at d_t49
                  rw [w_t26] at w_t49
                  rw [u_t26] at u_t49
                  rw [v_t26] at v_t49
                  clear d_t26 w_t26 u_t26 v_t26 e_t26 a_t26
                  have I_n_t49 := I_n_t26.chd X_t49 j_t49
                  have f_n_t49 := f_n_t26.ex I_n_t26 (X_t49 0 (Nat.zero_le _))
                  have u_n_t49 := u_n_t26.ex I_n_t26 (X_t49 0 (Nat.zero_le _))
                  have I_m_mdt4_t49 := I_m_mdt4_t26.chd X_t49 j_t49
                  have f_m_mdt4_t49 := f_m_mdt4_t26.ex I_m_mdt4_t26 (X_t49 0 (Nat.zero_le _))
                  have I_m_mdt24_t49 := I_m_mdt24_t26.chd X_t49 j_t49
                  have u_m_mdt24_t49 := u_m_mdt24_t26.ex I_m_mdt24_t26 (X_t49 0 (Nat.zero_le _))
                  have hv_m_mdt4_t49 : V56 t49 (m_md t4) (m_md t0) n := hv_m_mdt4_t26.chd I_m_mdt4_t26.1 j_t49
                  have x69_t49 : U69 t49 (m_md t24) := U69_ch j_t49 (by decide)
                  have la_n_t49 : m_la t49 n = (m_md t4) + 1 := by rw [(j_t49.2.2.2.2.2.2.2.1 n I_n_t26.1 (by omega)).1]; exact la_n_t26
                  have wl_n_t49 : m_wh t49 ((m_md t4)) = 56 := by rw [(j_t49.2.2.2.2.2.2.1 ((m_md t4)) (by omega)).2]; exact wl_n_t26
                  clear la_n_t26 wl_n_t26
                  have la_m_mdt4_t49 : m_la t49 (m_md t4) = (m_md t24) + 1 := by rw [(j_t49.2.2.2.2.2.2.2.1 (m_md t4) I_m_mdt4_t26.1 (by omega)).1]; exact la_m_mdt4_t26
                  have wl_m_mdt4_t49 : m_wh t49 ((m_md t24)) = 13 := by rw [(j_t49.2.2.2.2.2.2.1 ((m_md t24)) (by omega)).2]; exact wl_m_mdt4_t26
                  clear la_m_mdt4_t26 wl_m_mdt4_t26
                  have f_m_mdt24_t49 : Fz t49 (m_md t24) := j_t49.2.2.2.2.1
                  have I_m_mdt26_t49 : Nq t49 (m_md t26) := Nq.chn j_t49 (by omega) I_m_mdt24_t26 (by decide)
                  have u_m_mdt26_t49 : Up t49 (m_md t26) := Or.inl j_t49.2.1
                  have la_m_mdt24_t49 : m_la t49 (m_md t24) = (m_md t26) + 1 := j_t49.2.2.2.2.2.1
                  have wl_m_mdt24_t49 : m_wh t49 (m_md t26) = 29 := j_t49.1
                  refine Kp_more C_t49 (by omega) (by omega) (fun t50 C_t50 X_t50 a_t50 b_t50 d_t50 w_t50 u_t50 v_t50 j_t50 l_t50 => ?_)
                  have e_t50 := C_t50.2.2.2.1
                  rcases w_t50 with ⟨w_t50, y_t50⟩ | ⟨w_t50, wb_t50⟩
                  · rw [a_t49] at a_t50
                    rw [b_t49] at b_t50
                    rw [d_t49] at d_t50
                    rw [w_t49] at w_t50
                    rw [u_t49] at u_t50
                    rw [v_t49] at v_t50
                    rw [d_t50] at y_t50
                    clear d_t49 w_t49 u_t49 v_t49 e_t49 a_t49 b_t49
                    have I_n_t50 := I_n_t49.flat X_t50
                    have f_n_t50 := f_n_t49.ex I_n_t49 (X_t50 0)
                    have u_n_t50 := u_n_t49.ex I_n_t49 (X_t50 0)
                    have I_m_mdt4_t50 := I_m_mdt4_t49.flat X_t50
                    have f_m_mdt4_t50 := f_m_mdt4_t49.ex I_m_mdt4_t49 (X_t50 0)
                    have I_m_mdt24_t50 := I_m_mdt24_t49.flat X_t50
                    have f_m_mdt24_t50 := f_m_mdt24_t49.ex I_m_mdt24_t49 (X_t50 0)
                    have u_m_mdt24_t50 := u_m_mdt24_t49.ex I_m_mdt24_t49 (X_t50 0)
                    have I_m_mdt26_t50 := I_m_mdt26_t49.flat X_t50
                    have u_m_mdt26_t50 := u_m_mdt26_t49.ex I_m_mdt26_t49 (X_t50 0)
                    have hv_m_mdt4_t50 : V56 t50 (m_md t4) (m_md t0) n := hv_m_mdt4_t49.flat j_t50
                    have x69_t50 : U69 t50 (m_md t24) := U69_flat j_t50 x69_t49
                    have la_n_t50 : m_la t50 n = (m_md t4) + 1 := by rw [j_t50.2.2.1]; exact la_n_t49
                    have wl_n_t50 : m_wh t50 ((m_md t4)) = 56 := by rw [j_t50.1]; exact wl_n_t49
                    clear la_n_t49 wl_n_t49
                    have la_m_mdt4_t50 : m_la t50 (m_md t4) = (m_md t24) + 1 := by rw [j_t50.2.2.1]; exact la_m_mdt4_t49
                    have wl_m_mdt4_t50 : m_wh t50 ((m_md t24)) = 13 := by rw [j_t50.1]; exact wl_m_mdt4_t49
                    clear la_m_mdt4_t49 wl_m_mdt4_t49
                    have la_m_mdt24_t50 : m_la t50 (m_md t24) = (m_md t26) + 1 := by rw [j_t50.2.2.1]; exact la_m_mdt24_t49
                    have wl_m_mdt24_t50 : m_wh t50 ((m_md t26)) = 29 := by rw [j_t50.1]; exact wl_m_mdt24_t49
                    clear la_m_mdt24_t49 wl_m_mdt24_t49
                    have z_t51 : m_at t50 < m_ct t50 := lo_ne (Nat.ne_of_gt (show 0 < lo t50 (m_at t50) from by omega))
                    refine Kp_at C_t50 (fun t51 C_t51 X_t51 a_t51 b_t51 d_t51 w_t51 u_t51 v_t51 j_t51 l_t51 => ?_)
                    have e_t51 := C_t51.2.2.2.1
                    rw [a_t50] at a_t51
                    rw [b_t50] at b_t51
                    rw [d_t50] at d_t51
                    rw [w_t50] at w_t51
                    rw [u_t50] at u_t51
                    rw [v_t50] at v_t51
                    rw [a_t50, e_t50] at z_t51
                    clear z_t23
                    clear d_t50 w_t50 u_t50 v_t50 e_t50 a_t50 b_t50
                    have I_n_t51 := I_n_t50.flat X_t51
                    have f_n_t51 := f_n_t50.ex I_n_t50 (X_t51 0)
                    have u_n_t51 := u_n_t50.ex I_n_t50 (X_t51 0)
                    have I_m_mdt4_t51 := I_m_mdt4_t50.flat X_t51
                    have f_m_mdt4_t51 := f_m_mdt4_t50.ex I_m_mdt4_t50 (X_t51 0)
                    have I_m_mdt24_t51 := I_m_mdt24_t50.flat X_t51
                    have f_m_mdt24_t51 := f_m_mdt24_t50.ex I_m_mdt24_t50 (X_t51 0)
                    have u_m_mdt24_t51 := u_m_mdt24_t50.ex I_m_mdt24_t50 (X_t51 0)
                    have I_m_mdt26_t51 := I_m_mdt26_t50.flat X_t51
                    have u_m_mdt26_t51 := u_m_mdt26_t50.ex I_m_mdt26_t50 (X_t51 0)
                    have hv_m_mdt4_t51 : V56 t51 (m_md t4) (m_md t0) n := hv_m_mdt4_t50.flat j_t51
                    have x69_t51 : U69 t51 (m_md t24) := U69_flat j_t51 x69_t50
                    have la_n_t51 : m_la t51 n = (m_md t4) + 1 := by rw [j_t51.2.2.1]; exact la_n_t50
                    have wl_n_t51 : m_wh t51 ((m_md t4)) = 56 := by rw [j_t51.1]; exact wl_n_t50
                    clear la_n_t50 wl_n_t50
                    have la_m_mdt4_t51 : m_la t51 (m_md t4) = (m_md t24) + 1 := by rw [j_t51.2.2.1]; exact la_m_mdt4_t50
                    have wl_m_mdt4_t51 : m_wh t51 ((m_md t24)) = 13 := by rw [j_t51.1]; exact wl_m_mdt4_t50
                    clear la_m_mdt4_t50 wl_m_mdt4_t50
                    have la_m_mdt24_t51 : m_la t51 (m_md t24) = (m_md t26) + 1 := by rw [j_t51.2.2.1]; exact la_m_mdt24_t50
                    have wl_m_mdt24_t51 : m_wh t51 ((m_md t26)) = 29 := by rw [j_t51.1]; exact wl_m_mdt24_t50
                    clear la_m_mdt24_t50 wl_m_mdt24_t50
                    refine Kp_push C_t51 (by omega) (fun t52 C_t52 X_t52 a_t52 b_t52 d_t52 w_t52 u_t52 v_t52 j_t52 l_t52 => ?_)
                    have e_t52 := C_t52.2.2.2.1
                    rw [a_t51] at a_t52
                    rw [b_t51] at b_t52
                    rw [d_t51] at d_t52
                    rw [w_t51] at w_t52
                    rw [u_t51] at u_t52
                    rw [v_t51] at v_t52
                    clear d_t51 w_t51 u_t51 v_t51 e_t51 a_t51 b_t51
                    have I_n_t52 := I_n_t51.flat X_t52
                    have f_n_t52 := f_n_t51.ex I_n_t51 (X_t52 0)
                    have u_n_t52 := u_n_t51.ex I_n_t51 (X_t52 0)
                    have I_m_mdt4_t52 := I_m_mdt4_t51.flat X_t52
                    have f_m_mdt4_t52 := f_m_mdt4_t51.ex I_m_mdt4_t51 (X_t52 0)
                    have I_m_mdt24_t52 := I_m_mdt24_t51.flat X_t52
                    have f_m_mdt24_t52 := f_m_mdt24_t51.ex I_m_mdt24_t51 (X_t52 0)
                    have u_m_mdt24_t52 := u_m_mdt24_t51.ex I_m_mdt24_t51 (X_t52 0)
                    have I_m_mdt26_t52 := I_m_mdt26_t51.flat X_t52
                    have u_m_mdt26_t52 := u_m_mdt26_t51.ex I_m_mdt26_t51 (X_t52 0)
                    have hv_m_mdt4_t52 : V56 t52 (m_md t4) (m_md t0) n := hv_m_mdt4_t51.flat j_t52
                    have x69_t52 : U69 t52 (m_md t24) := U69_flat j_t52 x69_t51
                    have la_n_t52 : m_la t52 n = (m_md t4) + 1 := by rw [j_t52.2.2.1]; exact la_n_t51
                    have wl_n_t52 : m_wh t52 ((m_md t4)) = 56 := by rw [j_t52.1]; exact wl_n_t51
                    clear la_n_t51 wl_n_t51
                    have la_m_mdt4_t52 : m_la t52 (m_md t4) = (m_md t24) + 1 := by rw [j_t52.2.2.1]; exact la_m_mdt4_t51
                    have wl_m_mdt4_t52 : m_wh t52 ((m_md t24)) = 13 := by rw [j_t52.1]; exact wl_m_mdt4_t51
                    clear la_m_mdt4_t51 wl_m_mdt4_t51
                    have la_m_mdt24_t52 : m_la t52 (m_md t24) = (m_md t26) + 1 := by rw [j_t52.2.2.1]; exact la_m_mdt24_t51
                    have wl_m_mdt24_t52 : m_wh t52 ((m_md t26)) = 29 := by rw [j_t52.1]; exact wl_m_mdt24_t51
                    clear la_m_mdt24_t51 wl_m_mdt24_t51
                    refine Kp_push C_t52 (by omega) (fun t53 C_t53 X_t53 a_t53 b_t53 d_t53 w_t53 u_t53 v_t53 j_t53 l_t53 => ?_)
                    have e_t53 := C_t53.2.2.2.1
                    rw [a_t52] at a_t53
                    rw [b_t52] at b_t53
                    rw [d_t52] at d_t53
                    rw [w_t52] at w_t53
                    rw [u_t52] at u_t53
                    rw [v_t52] at v_t53
                    clear d_t52 w_t52 u_t52 v_t52 e_t52 a_t52 b_t52
                    have I_n_t53 := I_n_t52.flat X_t53
                    have f_n_t53 := f_n_t52.ex I_n_t52 (X_t53 0)
                    have u_n_t53 := u_n_t52.ex I_n_t52 (X_t53 0)
                    have I_m_mdt4_t53 := I_m_mdt4_t52.flat X_t53
                    have f_m_mdt4_t53 := f_m_mdt4_t52.ex I_m_mdt4_t52 (X_t53 0)
                    have I_m_mdt24_t53 := I_m_mdt24_t52.flat X_t53
                    have f_m_mdt24_t53 := f_m_mdt24_t52.ex I_m_mdt24_t52 (X_t53 0)
                    have u_m_mdt24_t53 := u_m_mdt24_t52.ex I_m_mdt24_t52 (X_t53 0)
                    have I_m_mdt26_t53 := I_m_mdt26_t52.flat X_t53
                    have u_m_mdt26_t53 := u_m_mdt26_t52.ex I_m_mdt26_t52 (X_t53 0)
                    have hv_m_mdt4_t53 : V56 t53 (m_md t4) (m_md t0) n := hv_m_mdt4_t52.flat j_t53
                    have x69_t53 : U69 t53 (m_md t24) := U69_flat j_t53 x69_t52
                    have la_n_t53 : m_la t53 n = (m_md t4) + 1 := by rw [j_t53.2.2.1]; exact la_n_t52
                    have wl_n_t53 : m_wh t53 ((m_md t4)) = 56 := by rw [j_t53.1]; exact wl_n_t52
                    clear la_n_t52 wl_n_t52
                    have la_m_mdt4_t53 : m_la t53 (m_md t4) = (m_md t24) + 1 := by rw [j_t53.2.2.1]; exact la_m_mdt4_t52
                    have wl_m_mdt4_t53 : m_wh t53 ((m_md t24)) = 13 := by rw [j_t53.1]; exact wl_m_mdt4_t52
                    clear la_m_mdt4_t52 wl_m_mdt4_t52
                    have la_m_mdt24_t53 : m_la t53 (m_md t24) = (m_md t26) + 1 := by rw [j_t53.2.2.1]; exact la_m_mdt24_t52
                    have wl_m_mdt24_t53 : m_wh t53 ((m_md t26)) = 29 := by rw [j_t53.1]; exact wl_m_mdt24_t52
                    clear la_m_mdt24_t52 wl_m_mdt24_t52
                    refine Ok_ret (show Ok _ _ _ from ?_)
                    refine Ok_ret (show Ok _ _ _ from ?_)
                    have h56 : N56 t53 (m_md t4) [(4, m_md t24, 3), (20, m_md t26, 0), (21, m_md t26, 0)] := N56_mk hv_m_mdt4_t53 la_m_mdt4_t53 (by omega) (by omega) (by omega) (by omega) (fun y hy => by cases hy; show m_md t24 ≤ m_md t24; omega) I_n_t53 I_m_mdt24_t53 u_m_mdt24_t53 x69_t53 (Or.inl f_m_mdt24_t53)
                    refine Hv_mk (Kv_c (x := (21, m_md t26, 0)) rfl (Kv_c (x := (20, m_md t26, 0)) rfl (Kv_c (x := (4, m_md t24, 3)) rfl (Kv_c (x := (56, m_md t4, 2)) rfl hK)))) (C_t53.1.2.2.2.2.2.2 hTt) C_t53 hT (by omega) (by omega) (by omega) ?_ ?_ ?_ (by omega) ?_ ?_ ?_
                    · exact ⟨(Io_n (by decide) (by decide) I_m_mdt26_t53.1 I_m_mdt26_t53.2.1 I_m_mdt26_t53.2.2.1 (fun q => absurd q (by decide)) (fun q => absurd q (by decide)) I_m_mdt26_t53.2.2.2), (Nd_0 (by decide) Mo_nil), ⟨(Io_n (by decide) (by decide) I_m_mdt26_t53.1 I_m_mdt26_t53.2.1 I_m_mdt26_t53.2.2.1 (fun q => absurd q (by decide)) (fun q => absurd q (by decide)) I_m_mdt26_t53.2.2.2), (Nd_0 (by decide) (Mo_cons (fun q => show m_md t26 ≤ m_md t26 from by omega) Mo_nil)), ⟨(Io_n (by decide) (by decide) I_m_mdt24_t53.1 I_m_mdt24_t53.2.1 I_m_mdt24_t53.2.2.1 (fun q => absurd q (by decide)) (fun q => absurd q (by decide)) I_m_mdt24_t53.2.2.2), (Nd_A (by decide) (Mo_cons (fun q => show m_md t24 ≤ m_md t26 from by omega) (Mo_cons (fun q => show m_md t24 ≤ m_md t26 from by omega) Mo_nil)) (Or.inl f_m_mdt24_t53)), ⟨(Io_n (by decide) (by decide) I_m_mdt4_t53.1 I_m_mdt4_t53.2.1 I_m_mdt4_t53.2.2.1 (fun q => absurd q (by decide)) (fun q => absurd q (by decide)) I_m_mdt4_t53.2.2.2), (Nd_56 (Mo_cons (fun q => show m_md t4 ≤ m_md t24 from by omega) (Mo_cons (fun q => show m_md t4 ≤ m_md t26 from by omega) (Mo_cons (fun q => show m_md t4 ≤ m_md t26 from by omega) Mo_nil))) (fun _ => h56)), Stk_step (N := n) (pop := (42, n, t)) (new := [(56, m_md t4, 2), (4, m_md t24, 3), (20, m_md t26, 0), (21, m_md t26, 0)]) F0 C_t53.1.to2 (fun (h : nk 42 = false) => absurd h (by decide)) (fun q _ h => h (42, n, t) rfl) (fun _ => rfl) (fun y hy hk => ⟨rfl, (Mo_cons (fun q => show n ≤ m_md t4 from by omega) (Mo_cons (fun q => show n ≤ m_md t24 from by omega) (Mo_cons (fun q => show n ≤ m_md t26 from by omega) (Mo_cons (fun q => show n ≤ m_md t26 from by omega) Mo_nil)))) y hy hk⟩) (fun (h : 42 = 3 ∨ 42 = 18 ∨ 42 = 41) => absurd h (by decide)) (fun (h : 42 = 18) => absurd h (by decide)) (fun _ h16 => (Or.inr ⟨f_n_t53, (Ab_some (y := (56, m_md t4, 2)) rfl (show n < m_md t4 from by omega)), H50_no la_n_t53 wl_n_t53 (by decide)⟩)) r [] (fun y hy => absurd hy List.not_mem_nil) hS⟩⟩⟩⟩
                    · exact (Aj_up (x := (21, m_md t26, 0)) (Aj_up (x := (20, m_md t26, 0)) (Aj_up (x := (4, m_md t24, 3)) (Aj_sub (y := (56, m_md t4, 2)) hJ (Nat.le_of_ble_eq_true rfl)) (Or.inr (Nat.le_of_ble_eq_true rfl))) (Or.inr (Nat.le_of_ble_eq_true rfl))) (Or.inl (Nat.le_of_ble_eq_true rfl)))
                    · show m_dp t53 = (dlt 21 + (dlt 20 + (dlt 4 + (dlt 56 + sD r))))
                      have : dlt 20 = 1 := rfl; have : dlt 21 = 0 := rfl; have : dlt 4 = 0 := rfl; have : dlt 42 = 0 := rfl; have : dlt 56 = 0 := rfl; omega
                    · show m_rw t53 = (rho 21 + (rho 20 + (rho 4 + (rho 56 + sR r))))
                      have : rho 20 = 0 := rfl; have : rho 21 = 0 := rfl; have : rho 4 = 0 := rfl; have : rho 42 = 0 := rfl; have : rho 56 = 0 := rfl; omega
                    · show m_md t53 + (mu7 21 + (mu7 20 + (mu7 4 + (mu7 56 + sM r)))) ≤ 3 * m_at t53 + 7 * (r.length + 1 + 1 + 1 + 1) + 10
                      have : mu7 20 = 7 := rfl; have : mu7 21 = 3 := rfl; have : mu7 4 = 7 := rfl; have : mu7 42 = 8 := rfl; have : mu7 56 = 7 := rfl; omega
                    · show (wt 21 + (wt 20 + (wt 4 + (wt 56 + sW r)))) + 6 * (4096 - m_at t53) + 4 * (600 - (r.length + 1 + 1 + 1 + 1)) < (wt 42 + sW r) + 6 * (4096 - m_at t0) + 4 * (600 - (r.length + 1))
                      have : wt 20 = 5 := rfl; have : wt 21 = 2 := rfl; have : wt 4 = 5 := rfl; have : wt 42 = 5 := rfl; have : wt 56 = 5 := rfl; omega
                  · have w_t50 := Nat.pos_of_ne_zero w_t50
                    have I_n_t50 := I_n_t49.flat X_t50
                    have f_n_t50 := f_n_t49.ex I_n_t49 (X_t50 0)
                    have u_n_t50 := u_n_t49.ex I_n_t49 (X_t50 0)
                    have I_m_mdt4_t50 := I_m_mdt4_t49.flat X_t50
                    have f_m_mdt4_t50 := f_m_mdt4_t49.ex I_m_mdt4_t49 (X_t50 0)
                    have I_m_mdt24_t50 := I_m_mdt24_t49.flat X_t50
                    have f_m_mdt24_t50 := f_m_mdt24_t49.ex I_m_mdt24_t49 (X_t50 0)
                    have u_m_mdt24_t50 := u_m_mdt24_t49.ex I_m_mdt24_t49 (X_t50 0)
                    have I_m_mdt26_t50 := I_m_mdt26_t49.flat X_t50
                    have u_m_mdt26_t50 := u_m_mdt26_t49.ex I_m_mdt26_t49 (X_t50 0)
                    have hv_m_mdt4_t50 : V56 t50 (m_md t4) (m_md t0) n := hv_m_mdt4_t49.flat j_t50
                    have x69_t50 : U69 t50 (m_md t24) := U69_flat j_t50 x69_t49
                    have la_n_t50 : m_la t50 n = (m_md t4) + 1 := by rw [j_t50.2.2.1]; exact la_n_t49
                    have wl_n_t50 : m_wh t50 ((m_md t4)) = 56 := by rw [j_t50.1]; exact wl_n_t49
                    clear la_n_t49 wl_n_t49
                    have la_m_mdt4_t50 : m_la t50 (m_md t4) = (m_md t24) + 1 := by rw [j_t50.2.2.1]; exact la_m_mdt4_t49
                    have wl_m_mdt4_t50 : m_wh t50 ((m_md t24)) = 13 := by rw [j_t50.1]; exact wl_m_mdt4_t49
                    clear la_m_mdt4_t49 wl_m_mdt4_t49
                    have la_m_mdt24_t50 : m_la t50 (m_md t24) = (m_md t26) + 1 := by rw [j_t50.2.2.1]; exact la_m_mdt24_t49
                    have wl_m_mdt24_t50 : m_wh t50 ((m_md t26)) = 29 := by rw [j_t50.1]; exact wl_m_mdt24_t49
                    clear la_m_mdt24_t49 wl_m_mdt24_t49
                    refine Kp_at C_t50 (fun t54 C_t54 X_t54 a_t54 b_t54 d_t54 w_t54 u_t54 v_t54 j_t54 l_t54 => ?_)
                    have e_t54 := C_t54.2.2.2.1
                    have I_n_t54 := I_n_t50.flat X_t54
                    have f_n_t54 := f_n_t50.ex I_n_t50 (X_t54 0)
                    have u_n_t54 := u_n_t50.ex I_n_t50 (X_t54 0)
                    have I_m_mdt4_t54 := I_m_mdt4_t50.flat X_t54
                    have f_m_mdt4_t54 := f_m_mdt4_t50.ex I_m_mdt4_t50 (X_t54 0)
                    have I_m_mdt24_t54 := I_m_mdt24_t50.flat X_t54
                    have f_m_mdt24_t54 := f_m_mdt24_t50.ex I_m_mdt24_t50 (X_t54 0)
                    have u_m_mdt24_t54 := u_m_mdt24_t50.ex I_m_mdt24_t50 (X_t54 0)
                    have I_m_mdt26_t54 := I_m_mdt26_t50.flat X_t54
                    have u_m_mdt26_t54 := u_m_mdt26_t50.ex I_m_mdt26_t50 (X_t54 0)
                    have hv_m_mdt4_t54 : V56 t54 (m_md t4) (m_md t0) n := hv_m_mdt4_t50.flat j_t54
                    have x69_t54 : U69 t54 (m_md t24) := U69_flat j_t54 x69_t50
                    have la_n_t54 : m_la t54 n = (m_md t4) + 1 := by rw [j_t54.2.2.1]; exact la_n_t50
                    have wl_n_t54 : m_wh t54 ((m_md t4)) = 56 := by rw [j_t54.1]; exact wl_n_t50
                    clear la_n_t50 wl_n_t50
                    have la_m_mdt4_t54 : m_la t54 (m_md t4) = (m_md t24) + 1 := by rw [j_t54.2.2.1]; exact la_m_mdt4_t50
                    have wl_m_mdt4_t54 : m_wh t54 ((m_md t24)) = 13 := by rw [j_t54.1]; exact wl_m_mdt4_t50
                    clear la_m_mdt4_t50 wl_m_mdt4_t50
                    have la_m_mdt24_t54 : m_la t54 (m_md t24) = (m_md t26) + 1 := by rw [j_t54.2.2.1]; exact la_m_mdt24_t50
                    have wl_m_mdt24_t54 : m_wh t54 ((m_md t26)) = 29 := by rw [j_t54.1]; exact wl_m_mdt24_t50
                    clear la_m_mdt24_t50 wl_m_mdt24_t50
                    refine Kp_push C_t54 (by omega) (fun t55 C_t55 X_t55 a_t55 b_t55 d_t55 w_t55 u_t55 v_t55 j_t55 l_t55 => ?_)
                    have e_t55 := C_t55.2.2.2.1
                    have I_n_t55 := I_n_t54.flat X_t55
                    have f_n_t55 := f_n_t54.ex I_n_t54 (X_t55 0)
                    have u_n_t55 := u_n_t54.ex I_n_t54 (X_t55 0)
                    have I_m_mdt4_t55 := I_m_mdt4_t54.flat X_t55
                    have f_m_mdt4_t55 := f_m_mdt4_t54.ex I_m_mdt4_t54 (X_t55 0)
                    have I_m_mdt24_t55 := I_m_mdt24_t54.flat X_t55
                    have f_m_mdt24_t55 := f_m_mdt24_t54.ex I_m_mdt24_t54 (X_t55 0)
                    have u_m_mdt24_t55 := u_m_mdt24_t54.ex I_m_mdt24_t54 (X_t55 0)
                    have I_m_mdt26_t55 := I_m_mdt26_t54.flat X_t55
                    have u_m_mdt26_t55 := u_m_mdt26_t54.ex I_m_mdt26_t54 (X_t55 0)
                    have hv_m_mdt4_t55 : V56 t55 (m_md t4) (m_md t0) n := hv_m_mdt4_t54.flat j_t55
                    have x69_t55 : U69 t55 (m_md t24) := U69_flat j_t55 x69_t54
                    have la_n_t55 : m_la t55 n = (m_md t4) + 1 := by rw [j_t55.2.2.1]; exact la_n_t54
                    have wl_n_t55 : m_wh t55 ((m_md t4)) = 56 := by rw [j_t55.1]; exact wl_n_t54
                    clear la_n_t54 wl_n_t54
                    have la_m_mdt4_t55 : m_la t55 (m_md t4) = (m_md t24) + 1 := by rw [j_t55.2.2.1]; exact la_m_mdt4_t54
                    have wl_m_mdt4_t55 : m_wh t55 ((m_md t24)) = 13 := by rw [j_t55.1]; exact wl_m_mdt4_t54
                    clear la_m_mdt4_t54 wl_m_mdt4_t54
                    have la_m_mdt24_t55 : m_la t55 (m_md t24) = (m_md t26) + 1 := by rw [j_t55.2.2.1]; exact la_m_mdt24_t54
                    have wl_m_mdt24_t55 : m_wh t55 ((m_md t26)) = 29 := by rw [j_t55.1]; exact wl_m_mdt24_t54
                    clear la_m_mdt24_t54 wl_m_mdt24_t54
                    refine Kp_push C_t55 (by omega) (fun t56 C_t56 X_t56 a_t56 b_t56 d_t56 w_t56 u_t56 v_t56 j_t56 l_t56 => ?_)
                    have e_t56 := C_t56.2.2.2.1
                    have I_n_t56 := I_n_t55.flat X_t56
                    have f_n_t56 := f_n_t55.ex I_n_t55 (X_t56 0)
                    have u_n_t56 := u_n_t55.ex I_n_t55 (X_t56 0)
                    have I_m_mdt4_t56 := I_m_mdt4_t55.flat X_t56
                    have f_m_mdt4_t56 := f_m_mdt4_t55.ex I_m_mdt4_t55 (X_t56 0)
                    have I_m_mdt24_t56 := I_m_mdt24_t55.flat X_t56
                    have f_m_mdt24_t56 := f_m_mdt24_t55.ex I_m_mdt24_t55 (X_t56 0)
                    have u_m_mdt24_t56 := u_m_mdt24_t55.ex I_m_mdt24_t55 (X_t56 0)
                    have I_m_mdt26_t56 := I_m_mdt26_t55.flat X_t56
                    have u_m_mdt26_t56 := u_m_mdt26_t55.ex I_m_mdt26_t55 (X_t56 0)
                    have hv_m_mdt4_t56 : V56 t56 (m_md t4) (m_md t0) n := hv_m_mdt4_t55.flat j_t56
                    have x69_t56 : U69 t56 (m_md t24) := U69_flat j_t56 x69_t55
                    have la_n_t56 : m_la t56 n = (m_md t4) + 1 := by rw [j_t56.2.2.1]; exact la_n_t55
                    have wl_n_t56 : m_wh t56 ((m_md t4)) = 56 := by rw [j_t56.1]; exact wl_n_t55
                    clear la_n_t55 wl_n_t55
                    have la_m_mdt4_t56 : m_la t56 (m_md t4) = (m_md t24) + 1 := by rw [j_t56.2.2.1]; exact la_m_mdt4_t55
                    have wl_m_mdt4_t56 : m_wh t56 ((m_md t24)) = 13 := by rw [j_t56.1]; exact wl_m_mdt4_t55
                    clear la_m_mdt4_t55 wl_m_mdt4_t55
                    have la_m_mdt24_t56 : m_la t56 (m_md t24) = (m_md t26) + 1 := by rw [j_t56.2.2.1]; exact la_m_mdt24_t55
                    have wl_m_mdt24_t56 : m_wh t56 ((m_md t26)) = 29 := by rw [j_t56.1]; exact wl_m_mdt24_t55
                    clear la_m_mdt24_t55 wl_m_mdt24_t55
                    refine Ok_ret (show Ok _ _ _ from ?_)
                    refine Ok_ret (show Ok _ _ _ from ?_)
                    exact Or.inl ⟨Nat.ne_of_gt (show 0 < m_wr t56 from by omega), by omega, by omega, C_t56.2.2.2.2.2, by omega⟩
                · refine Ok_ife (Nat.lt_trans (lo_lt (C_t26.tk hT) _) (by decide)) (by decide) (fun q57 => ?_) (fun q57 => ?_)
                  · refine Kp_push C_t26 (by omega) (fun t58 C_t58 X_t58 a_t58 b_t58 d_t58 w_t58 u_t58 v_t58 j_t58 l_t58 => ?_)
                    have e_t58 := C_t58.2.2.2.1
                    rw [a_t26] at a_t58
                    rw [b_t26] at b_t58
                    rw [d_t26] at d_t58
                    rw [w_t26] at w_t58
                    rw [u_t26] at u_t58
                    rw [v_t26] at v_t58
                    clear d_t26 w_t26 u_t26 v_t26 e_t26 a_t26 b_t26
                    have I_n_t58 := I_n_t26.flat X_t58
                    have f_n_t58 := f_n_t26.ex I_n_t26 (X_t58 0)
                    have u_n_t58 := u_n_t26.ex I_n_t26 (X_t58 0)
                    have I_m_mdt4_t58 := I_m_mdt4_t26.flat X_t58
                    have f_m_mdt4_t58 := f_m_mdt4_t26.ex I_m_mdt4_t26 (X_t58 0)
                    have I_m_mdt24_t58 := I_m_mdt24_t26.flat X_t58
                    have u_m_mdt24_t58 := u_m_mdt24_t26.ex I_m_mdt24_t26 (X_t58 0)
                    have hv_m_mdt4_t58 : V56 t58 (m_md t4) (m_md t0) n := hv_m_mdt4_t26.flat j_t58
                    have x69_t58 : U69 t58 (m_md t24) := U69_flat j_t58 x69_t26
                    have la_n_t58 : m_la t58 n = (m_md t4) + 1 := by rw [j_t58.2.2.1]; exact la_n_t26
                    have wl_n_t58 : m_wh t58 ((m_md t4)) = 56 := by rw [j_t58.1]; exact wl_n_t26
                    clear la_n_t26 wl_n_t26
                    have la_m_mdt4_t58 : m_la t58 (m_md t4) = (m_md t24) + 1 := by rw [j_t58.2.2.1]; exact la_m_mdt4_t26
                    have wl_m_mdt4_t58 : m_wh t58 ((m_md t24)) = 13 := by rw [j_t58.1]; exact wl_m_mdt4_t26
                    clear la_m_mdt4_t26 wl_m_mdt4_t26
                    refine Kp_push C_t58 (by omega) (fun t59 C_t59 X_t59 a_t59 b_t59 d_t59 w_t59 u_t59 v_t59 j_t59 l_t59 => ?_)
                    have e_t59 := C_t59.2.2.2.1
                    rw [a_t58] at a_t59
                    rw [b_t58] at b_t59
                    rw [d_t58] at d_t59
                    rw [w_t58] at w_t59
                    rw [u_t58] at u_t59
                    rw [v_t58] at v_t59
                    clear d_t58 w_t58 u_t58 v_t58 e_t58 a_t58 b_t58
                    have I_n_t59 := I_n_t58.flat X_t59
                    have f_n_t59 := f_n_t58.ex I_n_t58 (X_t59 0)
                    have u_n_t59 := u_n_t58.ex I_n_t58 (X_t59 0)
                    have I_m_mdt4_t59 := I_m_mdt4_t58.flat X_t59
                    have f_m_mdt4_t59 := f_m_mdt4_t58.ex I_m_mdt4_t58 (X_t59 0)
                    have I_m_mdt24_t59 := I_m_mdt24_t58.flat X_t59
                    have u_m_mdt24_t59 := u_m_mdt24_t58.ex I_m_mdt24_t58 (X_t59 0)
                    have hv_m_mdt4_t59 : V56 t59 (m_md t4) (m_md t0) n := hv_m_mdt4_t58.flat j_t59
                    have x69_t59 : U69 t59 (m_md t24) := U69_flat j_t59 x69_t58
                    have la_n_t59 : m_la t59 n = (m_md t4) + 1 := by rw [j_t59.2.2.1]; exact la_n_t58
                    have wl_n_t59 : m_wh t59 ((m_md t4)) = 56 := by rw [j_t59.1]; exact wl_n_t58
                    clear la_n_t58 wl_n_t58
                    have la_m_mdt4_t59 : m_la t59 (m_md t4) = (m_md t24) + 1 := by rw [j_t59.2.2.1]; exact la_m_mdt4_t58
                    have wl_m_mdt4_t59 : m_wh t59 ((m_md t24)) = 13 := by rw [j_t59.1]; exact wl_m_mdt4_t58
                    clear la_m_mdt4_t58 wl_m_mdt4_t58
                    refine Ok_ret (show Ok _ _ _ from ?_)
                    refine Ok_ret (show Ok _ _ _ from ?_)
                    have h56 : N56 t59 (m_md t4) [(4, m_md t24, 3), (5, m_md t24, 3), (18, m_md t24, 1)] := N56_mk hv_m_mdt4_t59 la_m_mdt4_t59 (by omega) (by omega) (by omega) (by omega) (fun y hy => by cases hy; show m_md t24 ≤ m_md t24; omega) I_n_t59 I_m_mdt24_t59 u_m_mdt24_t59 x69_t59 (Or.inr ⟨(18, m_md t24, 1), (List.mem_cons_of_mem _ (List.mem_cons_of_mem _ List.mem_cons_self)), rfl, Or.inr (Or.inl rfl)⟩)
                    refine Hv_mk (Kv_c (x := (18, m_md t24, 1)) rfl (Kv_c (x := (5, m_md t24, 3)) rfl (Kv_c (x := (4, m_md t24, 3)) rfl (Kv_c (x := (56, m_md t4, 2)) rfl hK)))) (C_t59.1.2.2.2.2.2.2 hTt) C_t59 hT (by omega) (by omega) (by omega) ?_ ?_ ?_ (by omega) ?_ ?_ ?_
                    · exact ⟨(Io_n (by decide) (by decide) I_m_mdt24_t59.1 I_m_mdt24_t59.2.1 I_m_mdt24_t59.2.2.1 (fun q => absurd q (by decide)) (fun q => absurd q (by decide)) I_m_mdt24_t59.2.2.2), (Nd_0 (by decide) Mo_nil), ⟨(Io_n (by decide) (by decide) I_m_mdt24_t59.1 I_m_mdt24_t59.2.1 I_m_mdt24_t59.2.2.1 (fun q => absurd q (by decide)) (fun q => absurd q (by decide)) I_m_mdt24_t59.2.2.2), (Nd_5 (Mo_cons (fun q => show m_md t24 ≤ m_md t24 from by omega) Mo_nil) (Or.inl ⟨1, rfl⟩)), ⟨(Io_n (by decide) (by decide) I_m_mdt24_t59.1 I_m_mdt24_t59.2.1 I_m_mdt24_t59.2.2.1 (fun q => absurd q (by decide)) (fun q => absurd q (by decide)) I_m_mdt24_t59.2.2.2), (Nd_A (by decide) (Mo_cons (fun q => show m_md t24 ≤ m_md t24 from by omega) (Mo_cons (fun q => show m_md t24 ≤ m_md t24 from by omega) Mo_nil)) (Or.inr ⟨(18, m_md t24, 1), (List.mem_cons_of_mem _ List.mem_cons_self), rfl, Or.inr (Or.inl rfl)⟩)), ⟨(Io_n (by decide) (by decide) I_m_mdt4_t59.1 I_m_mdt4_t59.2.1 I_m_mdt4_t59.2.2.1 (fun q => absurd q (by decide)) (fun q => absurd q (by decide)) I_m_mdt4_t59.2.2.2), (Nd_56 (Mo_cons (fun q => show m_md t4 ≤ m_md t24 from by omega) (Mo_cons (fun q => show m_md t4 ≤ m_md t24 from by omega) (Mo_cons (fun q => show m_md t4 ≤ m_md t24 from by omega) Mo_nil))) (fun _ => h56)), Stk_step (N := n) (pop := (42, n, t)) (new := [(56, m_md t4, 2), (4, m_md t24, 3), (5, m_md t24, 3), (18, m_md t24, 1)]) F0 C_t59.1.to2 (fun (h : nk 42 = false) => absurd h (by decide)) (fun q _ h => h (42, n, t) rfl) (fun _ => rfl) (fun y hy hk => ⟨rfl, (Mo_cons (fun q => show n ≤ m_md t4 from by omega) (Mo_cons (fun q => show n ≤ m_md t24 from by omega) (Mo_cons (fun q => show n ≤ m_md t24 from by omega) (Mo_cons (fun q => show n ≤ m_md t24 from by omega) Mo_nil)))) y hy hk⟩) (fun (h : 42 = 3 ∨ 42 = 18 ∨ 42 = 41) => absurd h (by decide)) (fun (h : 42 = 18) => absurd h (by decide)) (fun _ h16 => (Or.inr ⟨f_n_t59, (Ab_some (y := (56, m_md t4, 2)) rfl (show n < m_md t4 from by omega)), H50_no la_n_t59 wl_n_t59 (by decide)⟩)) r [] (fun y hy => absurd hy List.not_mem_nil) hS⟩⟩⟩⟩
                    · exact (Aj_up (x := (18, m_md t24, 1)) (Aj_up (x := (5, m_md t24, 3)) (Aj_up (x := (4, m_md t24, 3)) (Aj_sub (y := (56, m_md t4, 2)) hJ (Nat.le_of_ble_eq_true rfl)) (Or.inr (Nat.le_of_ble_eq_true rfl))) (Or.inr (Nat.le_of_ble_eq_true rfl))) (Or.inr (Nat.le_of_ble_eq_true rfl)))
                    · show m_dp t59 = (dlt 18 + (dlt 5 + (dlt 4 + (dlt 56 + sD r))))
                      have : dlt 18 = 0 := rfl; have : dlt 4 = 0 := rfl; have : dlt 42 = 0 := rfl; have : dlt 5 = 0 := rfl; have : dlt 56 = 0 := rfl; omega
                    · show m_rw t59 = (rho 18 + (rho 5 + (rho 4 + (rho 56 + sR r))))
                      have : rho 18 = 0 := rfl; have : rho 4 = 0 := rfl; have : rho 42 = 0 := rfl; have : rho 5 = 0 := rfl; have : rho 56 = 0 := rfl; omega
                    · show m_md t59 + (mu7 18 + (mu7 5 + (mu7 4 + (mu7 56 + sM r)))) ≤ 3 * m_at t59 + 7 * (r.length + 1 + 1 + 1 + 1) + 10
                      have : mu7 18 = 5 := rfl; have : mu7 4 = 7 := rfl; have : mu7 42 = 8 := rfl; have : mu7 5 = 7 := rfl; have : mu7 56 = 7 := rfl; omega
                    · show (wt 18 + (wt 5 + (wt 4 + (wt 56 + sW r)))) + 6 * (4096 - m_at t59) + 4 * (600 - (r.length + 1 + 1 + 1 + 1)) < (wt 42 + sW r) + 6 * (4096 - m_at t0) + 4 * (600 - (r.length + 1))
                      have : wt 18 = 0 := rfl; have : wt 4 = 5 := rfl; have : wt 42 = 5 := rfl; have : wt 5 = 5 := rfl; have : wt 56 = 5 := rfl; omega
                  · refine Ok_ife (Nat.lt_trans (lo_lt (C_t26.tk hT) _) (by decide)) (by decide) (fun q60 => ?_) (fun q60 => ?_)
                    · refine Kp_push C_t26 (by omega) (fun t61 C_t61 X_t61 a_t61 b_t61 d_t61 w_t61 u_t61 v_t61 j_t61 l_t61 => ?_)
                      have e_t61 := C_t61.2.2.2.1
                      rw [a_t26] at a_t61
                      rw [b_t26] at b_t61
                      rw [d_t26] at d_t61
                      rw [w_t26] at w_t61
                      rw [u_t26] at u_t61
                      rw [v_t26] at v_t61
                      clear d_t26 w_t26 u_t26 v_t26 e_t26 a_t26 b_t26
                      have I_n_t61 := I_n_t26.flat X_t61
                      have f_n_t61 := f_n_t26.ex I_n_t26 (X_t61 0)
                      have u_n_t61 := u_n_t26.ex I_n_t26 (X_t61 0)
                      have I_m_mdt4_t61 := I_m_mdt4_t26.flat X_t61
                      have f_m_mdt4_t61 := f_m_mdt4_t26.ex I_m_mdt4_t26 (X_t61 0)
                      have I_m_mdt24_t61 := I_m_mdt24_t26.flat X_t61
                      have u_m_mdt24_t61 := u_m_mdt24_t26.ex I_m_mdt24_t26 (X_t61 0)
                      have hv_m_mdt4_t61 : V56 t61 (m_md t4) (m_md t0) n := hv_m_mdt4_t26.flat j_t61
                      have x69_t61 : U69 t61 (m_md t24) := U69_flat j_t61 x69_t26
                      have la_n_t61 : m_la t61 n = (m_md t4) + 1 := by rw [j_t61.2.2.1]; exact la_n_t26
                      have wl_n_t61 : m_wh t61 ((m_md t4)) = 56 := by rw [j_t61.1]; exact wl_n_t26
                      clear la_n_t26 wl_n_t26
                      have la_m_mdt4_t61 : m_la t61 (m_md t4) = (m_md t24) + 1 := by rw [j_t61.2.2.1]; exact la_m_mdt4_t26
                      have wl_m_mdt4_t61 : m_wh t61 ((m_md t24)) = 13 := by rw [j_t61.1]; exact wl_m_mdt4_t26
                      clear la_m_mdt4_t26 wl_m_mdt4_t26
                      refine Kp_push C_t61 (by omega) (fun t62 C_t62 X_t62 a_t62 b_t62 d_t62 w_t62 u_t62 v_t62 j_t62 l_t62 => ?_)
                      have e_t62 := C_t62.2.2.2.1
                      rw [a_t61] at a_t62
                      rw [b_t61] at b_t62
                      rw [d_t61] at d_t62
                      rw [w_t61] at w_t62
                      rw [u_t61] at u_t62
                      rw [v_t61] at v_t62
                      clear d_t61 w_t61 u_t61 v_t61 e_t61 a_t61 b_t61
                      have I_n_t62 := I_n_t61.flat X_t62
                      have f_n_t62 := f_n_t61.ex I_n_t61 (X_t62 0)
                      have u_n_t62 := u_n_t61.ex I_n_t61 (X_t62 0)
                      have I_m_mdt4_t62 := I_m_mdt4_t61.flat X_t62
                      have f_m_mdt4_t62 := f_m_mdt4_t61.ex I_m_mdt4_t61 (X_t62 0)
                      have I_m_mdt24_t62 := I_m_mdt24_t61.flat X_t62
                      have u_m_mdt24_t62 := u_m_mdt24_t61.ex I_m_mdt24_t61 (X_t62 0)
                      have hv_m_mdt4_t62 : V56 t62 (m_md t4) (m_md t0) n := hv_m_mdt4_t61.flat j_t62
                      have x69_t62 : U69 t62 (m_md t24) := U69_flat j_t62 x69_t61
                      have la_n_t62 : m_la t62 n = (m_md t4) + 1 := by rw [j_t62.2.2.1]; exact la_n_t61
                      have wl_n_t62 : m_wh t62 ((m_md t4)) = 56 := by rw [j_t62.1]; exact wl_n_t61
                      clear la_n_t61 wl_n_t61
                      have la_m_mdt4_t62 : m_la t62 (m_md t4) = (m_md t24) + 1 := by rw [j_t62.2.2.1]; exact la_m_mdt4_t61
                      have wl_m_mdt4_t62 : m_wh t62 ((m_md t24)) = 13 := by rw [j_t62.1]; exact wl_m_mdt4_t61
                      clear la_m_mdt4_t61 wl_m_mdt4_t61
                      refine Ok_ret (show Ok _ _ _ from ?_)
                      refine Ok_ret (show Ok _ _ _ from ?_)
                      have h56 : N56 t62 (m_md t4) [(4, m_md t24, 3), (5, m_md t24, 3), (18, m_md t24, 1)] := N56_mk hv_m_mdt4_t62 la_m_mdt4_t62 (by omega) (by omega) (by omega) (by omega) (fun y hy => by cases hy; show m_md t24 ≤ m_md t24; omega) I_n_t62 I_m_mdt24_t62 u_m_mdt24_t62 x69_t62 (Or.inr ⟨(18, m_md t24, 1), (List.mem_cons_of_mem _ (List.mem_cons_of_mem _ List.mem_cons_self)), rfl, Or.inr (Or.inl rfl)⟩)
                      refine Hv_mk (Kv_c (x := (18, m_md t24, 1)) rfl (Kv_c (x := (5, m_md t24, 3)) rfl (Kv_c (x := (4, m_md t24, 3)) rfl (Kv_c (x := (56, m_md t4, 2)) rfl hK)))) (C_t62.1.2.2.2.2.2.2 hTt) C_t62 hT (by omega) (by omega) (by omega) ?_ ?_ ?_ (by omega) ?_ ?_ ?_
                      · exact ⟨(Io_n (by decide) (by decide) I_m_mdt24_t62.1 I_m_mdt24_t62.2.1 I_m_mdt24_t62.2.2.1 (fun q => absurd q (by decide)) (fun q => absurd q (by decide)) I_m_mdt24_t62.2.2.2), (Nd_0 (by decide) Mo_nil), ⟨(Io_n (by decide) (by decide) I_m_mdt24_t62.1 I_m_mdt24_t62.2.1 I_m_mdt24_t62.2.2.1 (fun q => absurd q (by decide)) (fun q => absurd q (by decide)) I_m_mdt24_t62.2.2.2), (Nd_5 (Mo_cons (fun q => show m_md t24 ≤ m_md t24 from by omega) Mo_nil) (Or.inl ⟨1, rfl⟩)), ⟨(Io_n (by decide) (by decide) I_m_mdt24_t62.1 I_m_mdt24_t62.2.1 I_m_mdt24_t62.2.2.1 (fun q => absurd q (by decide)) (fun q => absurd q (by decide)) I_m_mdt24_t62.2.2.2), (Nd_A (by decide) (Mo_cons (fun q => show m_md t24 ≤ m_md t24 from by omega) (Mo_cons (fun q => show m_md t24 ≤ m_md t24 from by omega) Mo_nil)) (Or.inr ⟨(18, m_md t24, 1), (List.mem_cons_of_mem _ List.mem_cons_self), rfl, Or.inr (Or.inl rfl)⟩)), ⟨(Io_n (by decide) (by decide) I_m_mdt4_t62.1 I_m_mdt4_t62.2.1 I_m_mdt4_t62.2.2.1 (fun q => absurd q (by decide)) (fun q => absurd q (by decide)) I_m_mdt4_t62.2.2.2), (Nd_56 (Mo_cons (fun q => show m_md t4 ≤ m_md t24 from by omega) (Mo_cons (fun q => show m_md t4 ≤ m_md t24 from by omega) (Mo_cons (fun q => show m_md t4 ≤ m_md t24 from by omega) Mo_nil))) (fun _ => h56)), Stk_step (N := n) (pop := (42, n, t)) (new := [(56, m_md t4, 2), (4, m_md t24, 3), (5, m_md t24, 3), (18, m_md t24, 1)]) F0 C_t62.1.to2 (fun (h : nk 42 = false) => absurd h (by decide)) (fun q _ h => h (42, n, t) rfl) (fun _ => rfl) (fun y hy hk => ⟨rfl, (Mo_cons (fun q => show n ≤ m_md t4 from by omega) (Mo_cons (fun q => show n ≤ m_md t24 from by omega) (Mo_cons (fun q => show n ≤ m_md t24 from by omega) (Mo_cons (fun q => show n ≤ m_md t24 from by omega) Mo_nil)))) y hy hk⟩) (fun (h : 42 = 3 ∨ 42 = 18 ∨ 42 = 41) => absurd h (by decide)) (fun (h : 42 = 18) => absurd h (by decide)) (fun _ h16 => (Or.inr ⟨f_n_t62, (Ab_some (y := (56, m_md t4, 2)) rfl (show n < m_md t4 from by omega)), H50_no la_n_t62 wl_n_t62 (by decide)⟩)) r [] (fun y hy => absurd hy List.not_mem_nil) hS⟩⟩⟩⟩
                      · exact (Aj_up (x := (18, m_md t24, 1)) (Aj_up (x := (5, m_md t24, 3)) (Aj_up (x := (4, m_md t24, 3)) (Aj_sub (y := (56, m_md t4, 2)) hJ (Nat.le_of_ble_eq_true rfl)) (Or.inr (Nat.le_of_ble_eq_true rfl))) (Or.inr (Nat.le_of_ble_eq_true rfl))) (Or.inr (Nat.le_of_ble_eq_true rfl)))
                      · show m_dp t62 = (dlt 18 + (dlt 5 + (dlt 4 + (dlt 56 + sD r))))
                        have : dlt 18 = 0 := rfl; have : dlt 4 = 0 := rfl; have : dlt 42 = 0 := rfl; have : dlt 5 = 0 := rfl; have : dlt 56 = 0 := rfl; omega
                      · show m_rw t62 = (rho 18 + (rho 5 + (rho 4 + (rho 56 + sR r))))
                        have : rho 18 = 0 := rfl; have : rho 4 = 0 := rfl; have : rho 42 = 0 := rfl; have : rho 5 = 0 := rfl; have : rho 56 = 0 := rfl; omega
                      · show m_md t62 + (mu7 18 + (mu7 5 + (mu7 4 + (mu7 56 + sM r)))) ≤ 3 * m_at t62 + 7 * (r.length + 1 + 1 + 1 + 1) + 10
                        have : mu7 18 = 5 := rfl; have : mu7 4 = 7 := rfl; have : mu7 42 = 8 := rfl; have : mu7 5 = 7 := rfl; have : mu7 56 = 7 := rfl; omega
                      · show (wt 18 + (wt 5 + (wt 4 + (wt 56 + sW r)))) + 6 * (4096 - m_at t62) + 4 * (600 - (r.length + 1 + 1 + 1 + 1)) < (wt 42 + sW r) + 6 * (4096 - m_at t0) + 4 * (600 - (r.length + 1))
                        have : wt 18 = 0 := rfl; have : wt 4 = 5 := rfl; have : wt 42 = 5 := rfl; have : wt 5 = 5 := rfl; have : wt 56 = 5 := rfl; omega
                    · refine Ok_ife (Nat.lt_trans (lo_lt (C_t26.tk hT) _) (by decide)) (by decide) (fun q63 => ?_) (fun q63 => ?_)
                      · refine Kp_push C_t26 (by omega) (fun t64 C_t64 X_t64 a_t64 b_t64 d_t64 w_t64 u_t64 v_t64 j_t64 l_t64 => ?_)
                        have e_t64 := C_t64.2.2.2.1
                        rw [a_t26] at a_t64
                        rw [b_t26] at b_t64
                        rw [d_t26] at d_t64
                        rw [w_t26] at w_t64
                        rw [u_t26] at u_t64
                        rw [v_t26] at v_t64
                        clear d_t26 w_t26 u_t26 v_t26 e_t26 a_t26 b_t26
                        have I_n_t64 := I_n_t26.flat X_t64
                        have f_n_t64 := f_n_t26.ex I_n_t26 (X_t64 0)
                        have u_n_t64 := u_n_t26.ex I_n_t26 (X_t64 0)
                        have I_m_mdt4_t64 := I_m_mdt4_t26.flat X_t64
                        have f_m_mdt4_t64 := f_m_mdt4_t26.ex I_m_mdt4_t26 (X_t64 0)
                        have I_m_mdt24_t64 := I_m_mdt24_t26.flat X_t64
                        have u_m_mdt24_t64 := u_m_mdt24_t26.ex I_m_mdt24_t26 (X_t64 0)
                        have hv_m_mdt4_t64 : V56 t64 (m_md t4) (m_md t0) n := hv_m_mdt4_t26.flat j_t64
                        have x69_t64 : U69 t64 (m_md t24) := U69_flat j_t64 x69_t26
                        have la_n_t64 : m_la t64 n = (m_md t4) + 1 := by rw [j_t64.2.2.1]; exact la_n_t26
                        have wl_n_t64 : m_wh t64 ((m_md t4)) = 56 := by rw [j_t64.1]; exact wl_n_t26
                        clear la_n_t26 wl_n_t26
                        have la_m_mdt4_t64 : m_la t64 (m_md t4) = (m_md t24) + 1 := by rw [j_t64.2.2.1]; exact la_m_mdt4_t26
                        have wl_m_mdt4_t64 : m_wh t64 ((m_md t24)) = 13 := by rw [j_t64.1]; exact wl_m_mdt4_t26
                        clear la_m_mdt4_t26 wl_m_mdt4_t26
                        refine Kp_push C_t64 (by omega) (fun t65 C_t65 X_t65 a_t65 b_t65 d_t65 w_t65 u_t65 v_t65 j_t65 l_t65 => ?_)
                        have e_t65 := C_t65.2.2.2.1
                        rw [a_t64] at a_t65
                        rw [b_t64] at b_t65
                        rw [d_t64] at d_t65
                        rw [w_t64] at w_t65
                        rw [u_t64] at u_t65
                        rw [v_t64] at v_t65
                        clear d_t64 w_t64 u_t64 v_t64 e_t64 a_t64 b_t64
                        have I_n_t65 := I_n_t64.flat X_t65
                        have f_n_t65 := f_n_t64.ex I_n_t64 (X_t65 0)
                        have u_n_t65 := u_n_t64.ex I_n_t64 (X_t65 0)
                        have I_m_mdt4_t65 := I_m_mdt4_t64.flat X_t65
                        have f_m_mdt4_t65 := f_m_mdt4_t64.ex I_m_mdt4_t64 (X_t65 0)
                        have I_m_mdt24_t65 := I_m_mdt24_t64.flat X_t65
                        have u_m_mdt24_t65 := u_m_mdt24_t64.ex I_m_mdt24_t64 (X_t65 0)
                        have hv_m_mdt4_t65 : V56 t65 (m_md t4) (m_md t0) n := hv_m_mdt4_t64.flat j_t65
                        have x69_t65 : U69 t65 (m_md t24) := U69_flat j_t65 x69_t64
                        have la_n_t65 : m_la t65 n = (m_md t4) + 1 := by rw [j_t65.2.2.1]; exact la_n_t64
                        have wl_n_t65 : m_wh t65 ((m_md t4)) = 56 := by rw [j_t65.1]; exact wl_n_t64
                        clear la_n_t64 wl_n_t64
                        have la_m_mdt4_t65 : m_la t65 (m_md t4) = (m_md t24) + 1 := by rw [j_t65.2.2.1]; exact la_m_mdt4_t64
                        have wl_m_mdt4_t65 : m_wh t65 ((m_md t24)) = 13 := by rw [j_t65.1]; exact wl_m_mdt4_t64
                        clear la_m_mdt4_t64 wl_m_mdt4_t64
                        refine Ok_ret (show Ok _ _ _ from ?_)
                        refine Ok_ret (show Ok _ _ _ from ?_)
                        have h56 : N56 t65 (m_md t4) [(4, m_md t24, 3), (5, m_md t24, 3), (18, m_md t24, 1)] := N56_mk hv_m_mdt4_t65 la_m_mdt4_t65 (by omega) (by omega) (by omega) (by omega) (fun y hy => by cases hy; show m_md t24 ≤ m_md t24; omega) I_n_t65 I_m_mdt24_t65 u_m_mdt24_t65 x69_t65 (Or.inr ⟨(18, m_md t24, 1), (List.mem_cons_of_mem _ (List.mem_cons_of_mem _ List.mem_cons_self)), rfl, Or.inr (Or.inl rfl)⟩)
                        refine Hv_mk (Kv_c (x := (18, m_md t24, 1)) rfl (Kv_c (x := (5, m_md t24, 3)) rfl (Kv_c (x := (4, m_md t24, 3)) rfl (Kv_c (x := (56, m_md t4, 2)) rfl hK)))) (C_t65.1.2.2.2.2.2.2 hTt) C_t65 hT (by omega) (by omega) (by omega) ?_ ?_ ?_ (by omega) ?_ ?_ ?_
                        · exact ⟨(Io_n (by decide) (by decide) I_m_mdt24_t65.1 I_m_mdt24_t65.2.1 I_m_mdt24_t65.2.2.1 (fun q => absurd q (by decide)) (fun q => absurd q (by decide)) I_m_mdt24_t65.2.2.2), (Nd_0 (by decide) Mo_nil), ⟨(Io_n (by decide) (by decide) I_m_mdt24_t65.1 I_m_mdt24_t65.2.1 I_m_mdt24_t65.2.2.1 (fun q => absurd q (by decide)) (fun q => absurd q (by decide)) I_m_mdt24_t65.2.2.2), (Nd_5 (Mo_cons (fun q => show m_md t24 ≤ m_md t24 from by omega) Mo_nil) (Or.inl ⟨1, rfl⟩)), ⟨(Io_n (by decide) (by decide) I_m_mdt24_t65.1 I_m_mdt24_t65.2.1 I_m_mdt24_t65.2.2.1 (fun q => absurd q (by decide)) (fun q => absurd q (by decide)) I_m_mdt24_t65.2.2.2), (Nd_A (by decide) (Mo_cons (fun q => show m_md t24 ≤ m_md t24 from by omega) (Mo_cons (fun q => show m_md t24 ≤ m_md t24 from by omega) Mo_nil)) (Or.inr ⟨(18, m_md t24, 1), (List.mem_cons_of_mem _ List.mem_cons_self), rfl, Or.inr (Or.inl rfl)⟩)), ⟨(Io_n (by decide) (by decide) I_m_mdt4_t65.1 I_m_mdt4_t65.2.1 I_m_mdt4_t65.2.2.1 (fun q => absurd q (by decide)) (fun q => absurd q (by decide)) I_m_mdt4_t65.2.2.2), (Nd_56 (Mo_cons (fun q => show m_md t4 ≤ m_md t24 from by omega) (Mo_cons (fun q => show m_md t4 ≤ m_md t24 from by omega) (Mo_cons (fun q => show m_md t4 ≤ m_md t24 from by omega) Mo_nil))) (fun _ => h56)), Stk_step (N := n) (pop := (42, n, t)) (new := [(56, m_md t4, 2), (4, m_md t24, 3), (5, m_md t24, 3), (18, m_md t24, 1)]) F0 C_t65.1.to2 (fun (h : nk 42 = false) => absurd h (by decide)) (fun q _ h => h (42, n, t) rfl) (fun _ => rfl) (fun y hy hk => ⟨rfl, (Mo_cons (fun q => show n ≤ m_md t4 from by omega) (Mo_cons (fun q => show n ≤ m_md t24 from by omega) (Mo_cons (fun q => show n ≤ m_md t24 from by omega) (Mo_cons (fun q => show n ≤ m_md t24 from by omega) Mo_nil)))) y hy hk⟩) (fun (h : 42 = 3 ∨ 42 = 18 ∨ 42 = 41) => absurd h (by decide)) (fun (h : 42 = 18) => absurd h (by decide)) (fun _ h16 => (Or.inr ⟨f_n_t65, (Ab_some (y := (56, m_md t4, 2)) rfl (show n < m_md t4 from by omega)), H50_no la_n_t65 wl_n_t65 (by decide)⟩)) r [] (fun y hy => absurd hy List.not_mem_nil) hS⟩⟩⟩⟩
                        · exact (Aj_up (x := (18, m_md t24, 1)) (Aj_up (x := (5, m_md t24, 3)) (Aj_up (x := (4, m_md t24, 3)) (Aj_sub (y := (56, m_md t4, 2)) hJ (Nat.le_of_ble_eq_true rfl)) (Or.inr (Nat.le_of_ble_eq_true rfl))) (Or.inr (Nat.le_of_ble_eq_true rfl))) (Or.inr (Nat.le_of_ble_eq_true rfl)))
                        · show m_dp t65 = (dlt 18 + (dlt 5 + (dlt 4 + (dlt 56 + sD r))))
                          have : dlt 18 = 0 := rfl; have : dlt 4 = 0 := rfl; have : dlt 42 = 0 := rfl; have : dlt 5 = 0 := rfl; have : dlt 56 = 0 := rfl; omega
                        · show m_rw t65 = (rho 18 + (rho 5 + (rho 4 + (rho 56 + sR r))))
                          have : rho 18 = 0 := rfl; have : rho 4 = 0 := rfl; have : rho 42 = 0 := rfl; have : rho 5 = 0 := rfl; have : rho 56 = 0 := rfl; omega
                        · show m_md t65 + (mu7 18 + (mu7 5 + (mu7 4 + (mu7 56 + sM r)))) ≤ 3 * m_at t65 + 7 * (r.length + 1 + 1 + 1 + 1) + 10
                          have : mu7 18 = 5 := rfl; have : mu7 4 = 7 := rfl; have : mu7 42 = 8 := rfl; have : mu7 5 = 7 := rfl; have : mu7 56 = 7 := rfl; omega
                        · show (wt 18 + (wt 5 + (wt 4 + (wt 56 + sW r)))) + 6 * (4096 - m_at t65) + 4 * (600 - (r.length + 1 + 1 + 1 + 1)) < (wt 42 + sW r) + 6 * (4096 - m_at t0) + 4 * (600 - (r.length + 1))
                          have : wt 18 = 0 := rfl; have : wt 4 = 5 := rfl; have : wt 42 = 5 := rfl; have : wt 5 = 5 := rfl; have : wt 56 = 5 := rfl; omega
                      · refine Ok_ife (Nat.lt_trans (lo_lt (C_t26.tk hT) _) (by decide)) (by decide) (fun q66 => ?_) (fun q66 => ?_)
                        · refine Kp_push C_t26 (by omega) (fun t67 C_t67 X_t67 a_t67 b_t67 d_t67 w_t67 u_t67 v_t67 j_t67 l_t67 => ?_)
                          have e_t67 := C_t67.2.2.2.1
                          rw [a_t26] at a_t67
                          rw [b_t26] at b_t67
                          rw [d_t26] at d_t67
                          rw [w_t26] at w_t67
                          rw [u_t26] at u_t67
                          rw [v_t26] at v_t67
                          clear d_t26 w_t26 u_t26 v_t26 e_t26 a_t26 b_t26
                          have I_n_t67 := I_n_t26.flat X_t67
                          have f_n_t67 := f_n_t26.ex I_n_t26 (X_t67 0)
                          have u_n_t67 := u_n_t26.ex I_n_t26 (X_t67 0)
                          have I_m_mdt4_t67 := I_m_mdt4_t26.flat X_t67
                          have f_m_mdt4_t67 := f_m_mdt4_t26.ex I_m_mdt4_t26 (X_t67 0)
                          have I_m_mdt24_t67 := I_m_mdt24_t26.flat X_t67
                          have u_m_mdt24_t67 := u_m_mdt24_t26.ex I_m_mdt24_t26 (X_t67 0)
                          have hv_m_mdt4_t67 : V56 t67 (m_md t4) (m_md t0) n := hv_m_mdt4_t26.flat j_t67
                          have x69_t67 : U69 t67 (m_md t24) := U69_flat j_t67 x69_t26
                          have la_n_t67 : m_la t67 n = (m_md t4) + 1 := by rw [j_t67.2.2.1]; exact la_n_t26
                          have wl_n_t67 : m_wh t67 ((m_md t4)) = 56 := by rw [j_t67.1]; exact wl_n_t26
                          clear la_n_t26 wl_n_t26
                          have la_m_mdt4_t67 : m_la t67 (m_md t4) = (m_md t24) + 1 := by rw [j_t67.2.2.1]; exact la_m_mdt4_t26
                          have wl_m_mdt4_t67 : m_wh t67 ((m_md t24)) = 13 := by rw [j_t67.1]; exact wl_m_mdt4_t26
                          clear la_m_mdt4_t26 wl_m_mdt4_t26
                          refine Kp_push C_t67 (by omega) (fun t68 C_t68 X_t68 a_t68 b_t68 d_t68 w_t68 u_t68 v_t68 j_t68 l_t68 => ?_)
                          have e_t68 := C_t68.2.2.2.1
                          rw [a_t67] at a_t68
                          rw [b_t67] at b_t68
                          rw [d_t67] at d_t68
                          rw [w_t67] at w_t68
                          rw [u_t67] at u_t68
                          rw [v_t67] at v_t68
                          clear d_t67 w_t67 u_t67 v_t67 e_t67 a_t67 b_t67
                          have I_n_t68 := I_n_t67.flat X_t68
                          have f_n_t68 := f_n_t67.ex I_n_t67 (X_t68 0)
                          have u_n_t68 := u_n_t67.ex I_n_t67 (X_t68 0)
                          have I_m_mdt4_t68 := I_m_mdt4_t67.flat X_t68
                          have f_m_mdt4_t68 := f_m_mdt4_t67.ex I_m_mdt4_t67 (X_t68 0)
                          have I_m_mdt24_t68 := I_m_mdt24_t67.flat X_t68
                          have u_m_mdt24_t68 := u_m_mdt24_t67.ex I_m_mdt24_t67 (X_t68 0)
                          have hv_m_mdt4_t68 : V56 t68 (m_md t4) (m_md t0) n := hv_m_mdt4_t67.flat j_t68
                          have x69_t68 : U69 t68 (m_md t24) := U69_flat j_t68 x69_t67
                          have la_n_t68 : m_la t68 n = (m_md t4) + 1 := by rw [j_t68.2.2.1]; exact la_n_t67
                          have wl_n_t68 : m_wh t68 ((m_md t4)) = 56 := by rw [j_t68.1]; exact wl_n_t67
                          clear la_n_t67 wl_n_t67
                          have la_m_mdt4_t68 : m_la t68 (m_md t4) = (m_md t24) + 1 := by rw [j_t68.2.2.1]; exact la_m_mdt4_t67
                          have wl_m_mdt4_t68 : m_wh t68 ((m_md t24)) = 13 := by rw [j_t68.1]; exact wl_m_mdt4_t67
                          clear la_m_mdt4_t67 wl_m_mdt4_t67
                          refine Ok_ret (show Ok _ _ _ from ?_)
                          refine Ok_ret (show Ok _ _ _ from ?_)
                          have h56 : N56 t68 (m_md t4) [(4, m_md t24, 3), (5, m_md t24, 3), (18, m_md t24, 1)] := N56_mk hv_m_mdt4_t68 la_m_mdt4_t68 (by omega) (by omega) (by omega) (by omega) (fun y hy => by cases hy; show m_md t24 ≤ m_md t24; omega) I_n_t68 I_m_mdt24_t68 u_m_mdt24_t68 x69_t68 (Or.inr ⟨(18, m_md t24, 1), (List.mem_cons_of_mem _ (List.mem_cons_of_mem _ List.mem_cons_self)), rfl, Or.inr (Or.inl rfl)⟩)
                          refine Hv_mk (Kv_c (x := (18, m_md t24, 1)) rfl (Kv_c (x := (5, m_md t24, 3)) rfl (Kv_c (x := (4, m_md t24, 3)) rfl (Kv_c (x := (56, m_md t4, 2)) rfl hK)))) (C_t68.1.2.2.2.2.2.2 hTt) C_t68 hT (by omega) (by omega) (by omega) ?_ ?_ ?_ (by omega) ?_ ?_ ?_
                          · exact ⟨(Io_n (by decide) (by decide) I_m_mdt24_t68.1 I_m_mdt24_t68.2.1 I_m_mdt24_t68.2.2.1 (fun q => absurd q (by decide)) (fun q => absurd q (by decide)) I_m_mdt24_t68.2.2.2), (Nd_0 (by decide) Mo_nil), ⟨(Io_n (by decide) (by decide) I_m_mdt24_t68.1 I_m_mdt24_t68.2.1 I_m_mdt24_t68.2.2.1 (fun q => absurd q (by decide)) (fun q => absurd q (by decide)) I_m_mdt24_t68.2.2.2), (Nd_5 (Mo_cons (fun q => show m_md t24 ≤ m_md t24 from by omega) Mo_nil) (Or.inl ⟨1, rfl⟩)), ⟨(Io_n (by decide) (by decide) I_m_mdt24_t68.1 I_m_mdt24_t68.2.1 I_m_mdt24_t68.2.2.1 (fun q => absurd q (by decide)) (fun q => absurd q (by decide)) I_m_mdt24_t68.2.2.2), (Nd_A (by decide) (Mo_cons (fun q => show m_md t24 ≤ m_md t24 from by omega) (Mo_cons (fun q => show m_md t24 ≤ m_md t24 from by omega) Mo_nil)) (Or.inr ⟨(18, m_md t24, 1), (List.mem_cons_of_mem _ List.mem_cons_self), rfl, Or.inr (Or.inl rfl)⟩)), ⟨(Io_n (by decide) (by decide) I_m_mdt4_t68.1 I_m_mdt4_t68.2.1 I_m_mdt4_t68.2.2.1 (fun q => absurd q (by decide)) (fun q => absurd q (by decide)) I_m_mdt4_t68.2.2.2), (Nd_56 (Mo_cons (fun q => show m_md t4 ≤ m_md t24 from by omega) (Mo_cons (fun q => show m_md t4 ≤ m_md t24 from by omega) (Mo_cons (fun q => show m_md t4 ≤ m_md t24 from by omega) Mo_nil))) (fun _ => h56)), Stk_step (N := n) (pop := (42, n, t)) (new := [(56, m_md t4, 2), (4, m_md t24, 3), (5, m_md t24, 3), (18, m_md t24, 1)]) F0 C_t68.1.to2 (fun (h : nk 42 = false) => absurd h (by decide)) (fun q _ h => h (42, n, t) rfl) (fun _ => rfl) (fun y hy hk => ⟨rfl, (Mo_cons (fun q => show n ≤ m_md t4 from by omega) (Mo_cons (fun q => show n ≤ m_md t24 from by omega) (Mo_cons (fun q => show n ≤ m_md t24 from by omega) (Mo_cons (fun q => show n ≤ m_md t24 from by omega) Mo_nil)))) y hy hk⟩) (fun (h : 42 = 3 ∨ 42 = 18 ∨ 42 = 41) => absurd h (by decide)) (fun (h : 42 = 18) => absurd h (by decide)) (fun _ h16 => (Or.inr ⟨f_n_t68, (Ab_some (y := (56, m_md t4, 2)) rfl (show n < m_md t4 from by omega)), H50_no la_n_t68 wl_n_t68 (by decide)⟩)) r [] (fun y hy => absurd hy List.not_mem_nil) hS⟩⟩⟩⟩
                          · exact (Aj_up (x := (18, m_md t24, 1)) (Aj_up (x := (5, m_md t24, 3)) (Aj_up (x := (4, m_md t24, 3)) (Aj_sub (y := (56, m_md t4, 2)) hJ (Nat.le_of_ble_eq_true rfl)) (Or.inr (Nat.le_of_ble_eq_true rfl))) (Or.inr (Nat.le_of_ble_eq_true rfl))) (Or.inr (Nat.le_of_ble_eq_true rfl)))
                          · show m_dp t68 = (dlt 18 + (dlt 5 + (dlt 4 + (dlt 56 + sD r))))
                            have : dlt 18 = 0 := rfl; have : dlt 4 = 0 := rfl; have : dlt 42 = 0 := rfl; have : dlt 5 = 0 := rfl; have : dlt 56 = 0 := rfl; omega
                          · show m_rw t68 = (rho 18 + (rho 5 + (rho 4 + (rho 56 + sR r))))
                            have : rho 18 = 0 := rfl; have : rho 4 = 0 := rfl; have : rho 42 = 0 := rfl; have : rho 5 = 0 := rfl; have : rho 56 = 0 := rfl; omega
                          · show m_md t68 + (mu7 18 + (mu7 5 + (mu7 4 + (mu7 56 + sM r)))) ≤ 3 * m_at t68 + 7 * (r.length + 1 + 1 + 1 + 1) + 10
                            have : mu7 18 = 5 := rfl; have : mu7 4 = 7 := rfl; have : mu7 42 = 8 := rfl; have : mu7 5 = 7 := rfl; have : mu7 56 = 7 := rfl; omega
                          · show (wt 18 + (wt 5 + (wt 4 + (wt 56 + sW r)))) + 6 * (4096 - m_at t68) + 4 * (600 - (r.length + 1 + 1 + 1 + 1)) < (wt 42 + sW r) + 6 * (4096 - m_at t0) + 4 * (600 - (r.length + 1))
                            have : wt 18 = 0 := rfl; have : wt 4 = 5 := rfl; have : wt 42 = 5 := rfl; have : wt 5 = 5 := rfl; have : wt 56 = 5 := rfl; omega
                        · refine Ok_ife (Nat.lt_trans (lo_lt (C_t26.tk hT) _) (by decide)) (by decide) (fun q69 => ?_) (fun q69 => ?_)
                          · refine Kp_push C_t26 (by omega) (fun t70 C_t70 X_t70 a_t70 b_t70 d_t70 w_t70 u_t70 v_t70 j_t70 l_t70 => ?_)
                            have e_t70 := C_t70.2.2.2.1
                            rw [a_t26] at a_t70
                            rw [b_t26] at b_t70
                            rw [d_t26] at d_t70
                            rw [w_t26] at w_t70
                            rw [u_t26] at u_t70
                            rw [v_t26] at v_t70
                            clear d_t26 w_t26 u_t26 v_t26 e_t26 a_t26 b_t26
                            have I_n_t70 := I_n_t26.flat X_t70
                            have f_n_t70 := f_n_t26.ex I_n_t26 (X_t70 0)
                            have u_n_t70 := u_n_t26.ex I_n_t26 (X_t70 0)
                            have I_m_mdt4_t70 := I_m_mdt4_t26.flat X_t70
                            have f_m_mdt4_t70 := f_m_mdt4_t26.ex I_m_mdt4_t26 (X_t70 0)
                            have I_m_mdt24_t70 := I_m_mdt24_t26.flat X_t70
                            have u_m_mdt24_t70 := u_m_mdt24_t26.ex I_m_mdt24_t26 (X_t70 0)
                            have hv_m_mdt4_t70 : V56 t70 (m_md t4) (m_md t0) n := hv_m_mdt4_t26.flat j_t70
                            have x69_t70 : U69 t70 (m_md t24) := U69_flat j_t70 x69_t26
                            have la_n_t70 : m_la t70 n = (m_md t4) + 1 := by rw [j_t70.2.2.1]; exact la_n_t26
                            have wl_n_t70 : m_wh t70 ((m_md t4)) = 56 := by rw [j_t70.1]; exact wl_n_t26
                            clear la_n_t26 wl_n_t26
                            have la_m_mdt4_t70 : m_la t70 (m_md t4) = (m_md t24) + 1 := by rw [j_t70.2.2.1]; exact la_m_mdt4_t26
                            have wl_m_mdt4_t70 : m_wh t70 ((m_md t24)) = 13 := by rw [j_t70.1]; exact wl_m_mdt4_t26
                            clear la_m_mdt4_t26 wl_m_mdt4_t26
                            refine Kp_push C_t70 (by omega) (fun t71 C_t71 X_t71 a_t71 b_t71 d_t71 w_t71 u_t71 v_t71 j_t71 l_t71 => ?_)
                            have e_t71 := C_t71.2.2.2.1
                            rw [a_t70] at a_t71
                            rw [b_t70] at b_t71
                            rw [d_t70] at d_t71
                            rw [w_t70] at w_t71
                            rw [u_t70] at u_t71
                            rw [v_t70] at v_t71
                            clear d_t70 w_t70 u_t70 v_t70 e_t70 a_t70 b_t70
                            have I_n_t71 := I_n_t70.flat X_t71
                            have f_n_t71 := f_n_t70.ex I_n_t70 (X_t71 0)
                            have u_n_t71 := u_n_t70.ex I_n_t70 (X_t71 0)
                            have I_m_mdt4_t71 := I_m_mdt4_t70.flat X_t71
                            have f_m_mdt4_t71 := f_m_mdt4_t70.ex I_m_mdt4_t70 (X_t71 0)
                            have I_m_mdt24_t71 := I_m_mdt24_t70.flat X_t71
                            have u_m_mdt24_t71 := u_m_mdt24_t70.ex I_m_mdt24_t70 (X_t71 0)
                            have hv_m_mdt4_t71 : V56 t71 (m_md t4) (m_md t0) n := hv_m_mdt4_t70.flat j_t71
                            have x69_t71 : U69 t71 (m_md t24) := U69_flat j_t71 x69_t70
                            have la_n_t71 : m_la t71 n = (m_md t4) + 1 := by rw [j_t71.2.2.1]; exact la_n_t70
                            have wl_n_t71 : m_wh t71 ((m_md t4)) = 56 := by rw [j_t71.1]; exact wl_n_t70
                            clear la_n_t70 wl_n_t70
                            have la_m_mdt4_t71 : m_la t71 (m_md t4) = (m_md t24) + 1 := by rw [j_t71.2.2.1]; exact la_m_mdt4_t70
                            have wl_m_mdt4_t71 : m_wh t71 ((m_md t24)) = 13 := by rw [j_t71.1]; exact wl_m_mdt4_t70
                            clear la_m_mdt4_t70 wl_m_mdt4_t70
                            refine Ok_ret (show Ok _ _ _ from ?_)
                            refine Ok_ret (show Ok _ _ _ from ?_)
                            have h56 : N56 t71 (m_md t4) [(4, m_md t24, 3), (5, m_md t24, 3), (18, m_md t24, 1)] := N56_mk hv_m_mdt4_t71 la_m_mdt4_t71 (by omega) (by omega) (by omega) (by omega) (fun y hy => by cases hy; show m_md t24 ≤ m_md t24; omega) I_n_t71 I_m_mdt24_t71 u_m_mdt24_t71 x69_t71 (Or.inr ⟨(18, m_md t24, 1), (List.mem_cons_of_mem _ (List.mem_cons_of_mem _ List.mem_cons_self)), rfl, Or.inr (Or.inl rfl)⟩)
                            refine Hv_mk (Kv_c (x := (18, m_md t24, 1)) rfl (Kv_c (x := (5, m_md t24, 3)) rfl (Kv_c (x := (4, m_md t24, 3)) rfl (Kv_c (x := (56, m_md t4, 2)) rfl hK)))) (C_t71.1.2.2.2.2.2.2 hTt) C_t71 hT (by omega) (by omega) (by omega) ?_ ?_ ?_ (by omega) ?_ ?_ ?_
                            · exact ⟨(Io_n (by decide) (by decide) I_m_mdt24_t71.1 I_m_mdt24_t71.2.1 I_m_mdt24_t71.2.2.1 (fun q => absurd q (by decide)) (fun q => absurd q (by decide)) I_m_mdt24_t71.2.2.2), (Nd_0 (by decide) Mo_nil), ⟨(Io_n (by decide) (by decide) I_m_mdt24_t71.1 I_m_mdt24_t71.2.1 I_m_mdt24_t71.2.2.1 (fun q => absurd q (by decide)) (fun q => absurd q (by decide)) I_m_mdt24_t71.2.2.2), (Nd_5 (Mo_cons (fun q => show m_md t24 ≤ m_md t24 from by omega) Mo_nil) (Or.inl ⟨1, rfl⟩)), ⟨(Io_n (by decide) (by decide) I_m_mdt24_t71.1 I_m_mdt24_t71.2.1 I_m_mdt24_t71.2.2.1 (fun q => absurd q (by decide)) (fun q => absurd q (by decide)) I_m_mdt24_t71.2.2.2), (Nd_A (by decide) (Mo_cons (fun q => show m_md t24 ≤ m_md t24 from by omega) (Mo_cons (fun q => show m_md t24 ≤ m_md t24 from by omega) Mo_nil)) (Or.inr ⟨(18, m_md t24, 1), (List.mem_cons_of_mem _ List.mem_cons_self), rfl, Or.inr (Or.inl rfl)⟩)), ⟨(Io_n (by decide) (by decide) I_m_mdt4_t71.1 I_m_mdt4_t71.2.1 I_m_mdt4_t71.2.2.1 (fun q => absurd q (by decide)) (fun q => absurd q (by decide)) I_m_mdt4_t71.2.2.2), (Nd_56 (Mo_cons (fun q => show m_md t4 ≤ m_md t24 from by omega) (Mo_cons (fun q => show m_md t4 ≤ m_md t24 from by omega) (Mo_cons (fun q => show m_md t4 ≤ m_md t24 from by omega) Mo_nil))) (fun _ => h56)), Stk_step (N := n) (pop := (42, n, t)) (new := [(56, m_md t4, 2), (4, m_md t24, 3), (5, m_md t24, 3), (18, m_md t24, 1)]) F0 C_t71.1.to2 (fun (h : nk 42 = false) => absurd h (by decide)) (fun q _ h => h (42, n, t) rfl) (fun _ => rfl) (fun y hy hk => ⟨rfl, (Mo_cons (fun q => show n ≤ m_md t4 from by omega) (Mo_cons (fun q => show n ≤ m_md t24 from by omega) (Mo_cons (fun q => show n ≤ m_md t24 from by omega) (Mo_cons (fun q => show n ≤ m_md t24 from by omega) Mo_nil)))) y hy hk⟩) (fun (h : 42 = 3 ∨ 42 = 18 ∨ 42 = 41) => absurd h (by decide)) (fun (h : 42 = 18) => absurd h (by decide)) (fun _ h16 => (Or.inr ⟨f_n_t71, (Ab_some (y := (56, m_md t4, 2)) rfl (show n < m_md t4 from by omega)), H50_no la_n_t71 wl_n_t71 (by decide)⟩)) r [] (fun y hy => absurd hy List.not_mem_nil) hS⟩⟩⟩⟩
                            · exact (Aj_up (x := (18, m_md t24, 1)) (Aj_up (x := (5, m_md t24, 3)) (Aj_up (x := (4, m_md t24, 3)) (Aj_sub (y := (56, m_md t4, 2)) hJ (Nat.le_of_ble_eq_true rfl)) (Or.inr (Nat.le_of_ble_eq_true rfl))) (Or.inr (Nat.le_of_ble_eq_true rfl))) (Or.inr (Nat.le_of_ble_eq_true rfl)))
                            · show m_dp t71 = (dlt 18 + (dlt 5 + (dlt 4 + (dlt 56 + sD r))))
                              have : dlt 18 = 0 := rfl; have : dlt 4 = 0 := rfl; have : dlt 42 = 0 := rfl; have : dlt 5 = 0 := rfl; have : dlt 56 = 0 := rfl; omega
                            · show m_rw t71 = (rho 18 + (rho 5 + (rho 4 + (rho 56 + sR r))))
                              have : rho 18 = 0 := rfl; have : rho 4 = 0 := rfl; have : rho 42 = 0 := rfl; have : rho 5 = 0 := rfl; have : rho 56 = 0 := rfl; omega
                            · show m_md t71 + (mu7 18 + (mu7 5 + (mu7 4 + (mu7 56 + sM r)))) ≤ 3 * m_at t71 + 7 * (r.length + 1 + 1 + 1 + 1) + 10
                              have : mu7 18 = 5 := rfl; have : mu7 4 = 7 := rfl; have : mu7 42 = 8 := rfl; have : mu7 5 = 7 := rfl; have : mu7 56 = 7 := rfl; omega
                            · show (wt 18 + (wt 5 + (wt 4 + (wt 56 + sW r)))) + 6 * (4096 - m_at t71) + 4 * (600 - (r.length + 1 + 1 + 1 + 1)) < (wt 42 + sW r) + 6 * (4096 - m_at t0) + 4 * (600 - (r.length + 1))
                              have : wt 18 = 0 := rfl; have : wt 4 = 5 := rfl; have : wt 42 = 5 := rfl; have : wt 5 = 5 := rfl; have : wt 56 = 5 := rfl; omega
                          · refine Ok_ife (Nat.lt_trans (lo_lt (C_t26.tk hT) _) (by decide)) (by decide) (fun q72 => ?_) (fun q72 => ?_)
                            · refine Kp_push C_t26 (by omega) (fun t73 C_t73 X_t73 a_t73 b_t73 d_t73 w_t73 u_t73 v_t73 j_t73 l_t73 => ?_)
                              have e_t73 := C_t73.2.2.2.1
                              rw [a_t26] at a_t73
                              rw [b_t26] at b_t73
                              rw [d_t26] at d_t73
                              rw [w_t26] at w_t73
                              rw [u_t26] at u_t73
                              rw [v_t26] at v_t73
                              clear d_t26 w_t26 u_t26 v_t26 e_t26 a_t26 b_t26
                              have I_n_t73 := I_n_t26.flat X_t73
                              have f_n_t73 := f_n_t26.ex I_n_t26 (X_t73 0)
                              have u_n_t73 := u_n_t26.ex I_n_t26 (X_t73 0)
                              have I_m_mdt4_t73 := I_m_mdt4_t26.flat X_t73
                              have f_m_mdt4_t73 := f_m_mdt4_t26.ex I_m_mdt4_t26 (X_t73 0)
                              have I_m_mdt24_t73 := I_m_mdt24_t26.flat X_t73
                              have u_m_mdt24_t73 := u_m_mdt24_t26.ex I_m_mdt24_t26 (X_t73 0)
                              have hv_m_mdt4_t73 : V56 t73 (m_md t4) (m_md t0) n := hv_m_mdt4_t26.flat j_t73
                              have x69_t73 : U69 t73 (m_md t24) := U69_flat j_t73 x69_t26
                              have la_n_t73 : m_la t73 n = (m_md t4) + 1 := by rw [j_t73.2.2.1]; exact la_n_t26
                              have wl_n_t73 : m_wh t73 ((m_md t4)) = 56 := by rw [j_t73.1]; exact wl_n_t26
                              clear la_n_t26 wl_n_t26
                              have la_m_mdt4_t73 : m_la t73 (m_md t4) = (m_md t24) + 1 := by rw [j_t73.2.2.1]; exact la_m_mdt4_t26
                              have wl_m_mdt4_t73 : m_wh t73 ((m_md t24)) = 13 := by rw [j_t73.1]; exact wl_m_mdt4_t26
                              clear la_m_mdt4_t26 wl_m_mdt4_t26
                              refine Kp_push C_t73 (by omega) (fun t74 C_t74 X_t74 a_t74 b_t74 d_t74 w_t74 u_t74 v_t74 j_t74 l_t74 => ?_)
                              have e_t74 := C_t74.2.2.2.1
                              rw [a_t73] at a_t74
                              rw [b_t73] at b_t74
                              rw [d_t73] at d_t74
                              rw [w_t73] at w_t74
                              rw [u_t73] at u_t74
                              rw [v_t73] at v_t74
                              clear d_t73 w_t73 u_t73 v_t73 e_t73 a_t73 b_t73
                              have I_n_t74 := I_n_t73.flat X_t74
                              have f_n_t74 := f_n_t73.ex I_n_t73 (X_t74 0)
                              have u_n_t74 := u_n_t73.ex I_n_t73 (X_t74 0)
                              have I_m_mdt4_t74 := I_m_mdt4_t73.flat X_t74
                              have f_m_mdt4_t74 := f_m_mdt4_t73.ex I_m_mdt4_t73 (X_t74 0)
                              have I_m_mdt24_t74 := I_m_mdt24_t73.flat X_t74
                              have u_m_mdt24_t74 := u_m_mdt24_t73.ex I_m_mdt24_t73 (X_t74 0)
                              have hv_m_mdt4_t74 : V56 t74 (m_md t4) (m_md t0) n := hv_m_mdt4_t73.flat j_t74
                              have x69_t74 : U69 t74 (m_md t24) := U69_flat j_t74 x69_t73
                              have la_n_t74 : m_la t74 n = (m_md t4) + 1 := by rw [j_t74.2.2.1]; exact la_n_t73
                              have wl_n_t74 : m_wh t74 ((m_md t4)) = 56 := by rw [j_t74.1]; exact wl_n_t73
                              clear la_n_t73 wl_n_t73
                              have la_m_mdt4_t74 : m_la t74 (m_md t4) = (m_md t24) + 1 := by rw [j_t74.2.2.1]; exact la_m_mdt4_t73
                              have wl_m_mdt4_t74 : m_wh t74 ((m_md t24)) = 13 := by rw [j_t74.1]; exact wl_m_mdt4_t73
                              clear la_m_mdt4_t73 wl_m_mdt4_t73
                              refine Ok_ret (show Ok _ _ _ from ?_)
                              refine Ok_ret (show Ok _ _ _ from ?_)
                              have h56 : N56 t74 (m_md t4) [(4, m_md t24, 3), (5, m_md t24, 3), (18, m_md t24, 1)] := N56_mk hv_m_mdt4_t74 la_m_mdt4_t74 (by omega) (by omega) (by omega) (by omega) (fun y hy => by cases hy; show m_md t24 ≤ m_md t24; omega) I_n_t74 I_m_mdt24_t74 u_m_mdt24_t74 x69_t74 (Or.inr ⟨(18, m_md t24, 1), (List.mem_cons_of_mem _ (List.mem_cons_of_mem _ List.mem_cons_self)), rfl, Or.inr (Or.inl rfl)⟩)
                              refine Hv_mk (Kv_c (x := (18, m_md t24, 1)) rfl (Kv_c (x := (5, m_md t24, 3)) rfl (Kv_c (x := (4, m_md t24, 3)) rfl (Kv_c (x := (56, m_md t4, 2)) rfl hK)))) (C_t74.1.2.2.2.2.2.2 hTt) C_t74 hT (by omega) (by omega) (by omega) ?_ ?_ ?_ (by omega) ?_ ?_ ?_
                              · exact ⟨(Io_n (by decide) (by decide) I_m_mdt24_t74.1 I_m_mdt24_t74.2.1 I_m_mdt24_t74.2.2.1 (fun q => absurd q (by decide)) (fun q => absurd q (by decide)) I_m_mdt24_t74.2.2.2), (Nd_0 (by decide) Mo_nil), ⟨(Io_n (by decide) (by decide) I_m_mdt24_t74.1 I_m_mdt24_t74.2.1 I_m_mdt24_t74.2.2.1 (fun q => absurd q (by decide)) (fun q => absurd q (by decide)) I_m_mdt24_t74.2.2.2), (Nd_5 (Mo_cons (fun q => show m_md t24 ≤ m_md t24 from by omega) Mo_nil) (Or.inl ⟨1, rfl⟩)), ⟨(Io_n (by decide) (by decide) I_m_mdt24_t74.1 I_m_mdt24_t74.2.1 I_m_mdt24_t74.2.2.1 (fun q => absurd q (by decide)) (fun q => absurd q (by decide)) I_m_mdt24_t74.2.2.2), (Nd_A (by decide) (Mo_cons (fun q => show m_md t24 ≤ m_md t24 from by omega) (Mo_cons (fun q => show m_md t24 ≤ m_md t24 from by omega) Mo_nil)) (Or.inr ⟨(18, m_md t24, 1), (List.mem_cons_of_mem _ List.mem_cons_self), rfl, Or.inr (Or.inl rfl)⟩)), ⟨(Io_n (by decide) (by decide) I_m_mdt4_t74.1 I_m_mdt4_t74.2.1 I_m_mdt4_t74.2.2.1 (fun q => absurd q (by decide)) (fun q => absurd q (by decide)) I_m_mdt4_t74.2.2.2), (Nd_56 (Mo_cons (fun q => show m_md t4 ≤ m_md t24 from by omega) (Mo_cons (fun q => show m_md t4 ≤ m_md t24 from by omega) (Mo_cons (fun q => show m_md t4 ≤ m_md t24 from by omega) Mo_nil))) (fun _ => h56)), Stk_step (N := n) (pop := (42, n, t)) (new := [(56, m_md t4, 2), (4, m_md t24, 3), (5, m_md t24, 3), (18, m_md t24, 1)]) F0 C_t74.1.to2 (fun (h : nk 42 = false) => absurd h (by decide)) (fun q _ h => h (42, n, t) rfl) (fun _ => rfl) (fun y hy hk => ⟨rfl, (Mo_cons (fun q => show n ≤ m_md t4 from by omega) (Mo_cons (fun q => show n ≤ m_md t24 from by omega) (Mo_cons (fun q => show n ≤ m_md t24 from by omega) (Mo_cons (fun q => show n ≤ m_md t24 from by omega) Mo_nil)))) y hy hk⟩) (fun (h : 42 = 3 ∨ 42 = 18 ∨ 42 = 41) => absurd h (by decide)) (fun (h : 42 = 18) => absurd h (by decide)) (fun _ h16 => (Or.inr ⟨f_n_t74, (Ab_some (y := (56, m_md t4, 2)) rfl (show n < m_md t4 from by omega)), H50_no la_n_t74 wl_n_t74 (by decide)⟩)) r [] (fun y hy => absurd hy List.not_mem_nil) hS⟩⟩⟩⟩
                              · exact (Aj_up (x := (18, m_md t24, 1)) (Aj_up (x := (5, m_md t24, 3)) (Aj_up (x := (4, m_md t24, 3)) (Aj_sub (y := (56, m_md t4, 2)) hJ (Nat.le_of_ble_eq_true rfl)) (Or.inr (Nat.le_of_ble_eq_true rfl))) (Or.inr (Nat.le_of_ble_eq_true rfl))) (Or.inr (Nat.le_of_ble_eq_true rfl)))
                              · show m_dp t74 = (dlt 18 + (dlt 5 + (dlt 4 + (dlt 56 + sD r))))
                                have : dlt 18 = 0 := rfl; have : dlt 4 = 0 := rfl; have : dlt 42 = 0 := rfl; have : dlt 5 = 0 := rfl; have : dlt 56 = 0 := rfl; omega
                              · show m_rw t74 = (rho 18 + (rho 5 + (rho 4 + (rho 56 + sR r))))
                                have : rho 18 = 0 := rfl; have : rho 4 = 0 := rfl; have : rho 42 = 0 := rfl; have : rho 5 = 0 := rfl; have : rho 56 = 0 := rfl; omega
                              · show m_md t74 + (mu7 18 + (mu7 5 + (mu7 4 + (mu7 56 + sM r)))) ≤ 3 * m_at t74 + 7 * (r.length + 1 + 1 + 1 + 1) + 10
                                have : mu7 18 = 5 := rfl; have : mu7 4 = 7 := rfl; have : mu7 42 = 8 := rfl; have : mu7 5 = 7 := rfl; have : mu7 56 = 7 := rfl; omega
                              · show (wt 18 + (wt 5 + (wt 4 + (wt 56 + sW r)))) + 6 * (4096 - m_at t74) + 4 * (600 - (r.length + 1 + 1 + 1 + 1)) < (wt 42 + sW r) + 6 * (4096 - m_at t0) + 4 * (600 - (r.length + 1))
                                have : wt 18 = 0 := rfl; have : wt 4 = 5 := rfl; have : wt 42 = 5 := rfl; have : wt 5 = 5 := rfl; have : wt 56 = 5 := rfl; omega
                            · refine Kp_error C_t26 (by omega) (fun t75 C_t75 X_t75 a_t75 b_t75 d_t75 w_t75 u_t75 v_t75 j_t75 l_t75 => ?_)
                              have wb_t75 := w_t75.2
                              have w_t75 := Nat.pos_of_ne_zero w_t75.1
                              have e_t75 := C_t75.2.2.2.1
                              have I_n_t75 := I_n_t26.flat X_t75
                              have f_n_t75 := f_n_t26.ex I_n_t26 (X_t75 0)
                              have u_n_t75 := u_n_t26.ex I_n_t26 (X_t75 0)
                              have I_m_mdt4_t75 := I_m_mdt4_t26.flat X_t75
                              have f_m_mdt4_t75 := f_m_mdt4_t26.ex I_m_mdt4_t26 (X_t75 0)
                              have I_m_mdt24_t75 := I_m_mdt24_t26.flat X_t75
                              have u_m_mdt24_t75 := u_m_mdt24_t26.ex I_m_mdt24_t26 (X_t75 0)
                              have hv_m_mdt4_t75 : V56 t75 (m_md t4) (m_md t0) n := hv_m_mdt4_t26.flat j_t75
                              have x69_t75 : U69 t75 (m_md t24) := U69_flat j_t75 x69_t26
                              have la_n_t75 : m_la t75 n = (m_md t4) + 1 := by rw [j_t75.2.2.1]; exact la_n_t26
                              have wl_n_t75 : m_wh t75 ((m_md t4)) = 56 := by rw [j_t75.1]; exact wl_n_t26
                              clear la_n_t26 wl_n_t26
                              have la_m_mdt4_t75 : m_la t75 (m_md t4) = (m_md t24) + 1 := by rw [j_t75.2.2.1]; exact la_m_mdt4_t26
                              have wl_m_mdt4_t75 : m_wh t75 ((m_md t24)) = 13 := by rw [j_t75.1]; exact wl_m_mdt4_t26
                              clear la_m_mdt4_t26 wl_m_mdt4_t26
                              refine Ok_ret (show Ok _ _ _ from ?_)
                              refine Ok_ret (show Ok _ _ _ from ?_)
                              exact Or.inl ⟨Nat.ne_of_gt (show 0 < m_wr t75 from by omega), by omega, by omega, C_t75.2.2.2.2.2, by omega⟩
          · refine Kp_child C_t26 I_m_mdt24_t26.1 I_m_mdt24_t26.2.1 I_m_mdt24_t26.2.2.1 (by omega) (by omega) (by decide) (by decide) (fun t76 C_t76 X_t76 a_t76 b_t76 d_t76 w_t76 u_t76 v_t76 j_t76 l_t76 => ?_)
            have e_t76 := C_t76.2.2.2.1
            rw [a_t26] at a_t76
            rw [b_t26] at b_t76
            rw [d_t26] at d_t76
            rw [w_t26] at w_t76
            rw [u_t26] at u_t76
            rw [v_t26] at v_t76
            clear d_t26 w_t26 u_t26 v_t26 e_t26 a_t26
            have I_n_t76 := I_n_t26.chd X_t76 j_t76
            have f_n_t76 := f_n_t26.ex I_n_t26 (X_t76 0 (Nat.zero_le _))
            have u_n_t76 := u_n_t26.ex I_n_t26 (X_t76 0 (Nat.zero_le _))
            have I_m_mdt4_t76 := I_m_mdt4_t26.chd X_t76 j_t76
            have f_m_mdt4_t76 := f_m_mdt4_t26.ex I_m_mdt4_t26 (X_t76 0 (Nat.zero_le _))
            have I_m_mdt24_t76 := I_m_mdt24_t26.chd X_t76 j_t76
            have u_m_mdt24_t76 := u_m_mdt24_t26.ex I_m_mdt24_t26 (X_t76 0 (Nat.zero_le _))
            have hv_m_mdt4_t76 : V56 t76 (m_md t4) (m_md t0) n := hv_m_mdt4_t26.chd I_m_mdt4_t26.1 j_t76
            have x69_t76 : U69 t76 (m_md t24) := U69_ch j_t76 (by decide)
            have la_n_t76 : m_la t76 n = (m_md t4) + 1 := by rw [(j_t76.2.2.2.2.2.2.2.1 n I_n_t26.1 (by omega)).1]; exact la_n_t26
            have wl_n_t76 : m_wh t76 ((m_md t4)) = 56 := by rw [(j_t76.2.2.2.2.2.2.1 ((m_md t4)) (by omega)).2]; exact wl_n_t26
            clear la_n_t26 wl_n_t26
            have la_m_mdt4_t76 : m_la t76 (m_md t4) = (m_md t24) + 1 := by rw [(j_t76.2.2.2.2.2.2.2.1 (m_md t4) I_m_mdt4_t26.1 (by omega)).1]; exact la_m_mdt4_t26
            have wl_m_mdt4_t76 : m_wh t76 ((m_md t24)) = 13 := by rw [(j_t76.2.2.2.2.2.2.1 ((m_md t24)) (by omega)).2]; exact wl_m_mdt4_t26
            clear la_m_mdt4_t26 wl_m_mdt4_t26
            have f_m_mdt24_t76 : Fz t76 (m_md t24) := j_t76.2.2.2.2.1
            have I_m_mdt26_t76 : Nq t76 (m_md t26) := Nq.chn j_t76 (by omega) I_m_mdt24_t26 (by decide)
            have u_m_mdt26_t76 : Up t76 (m_md t26) := Or.inl j_t76.2.1
            have la_m_mdt24_t76 : m_la t76 (m_md t24) = (m_md t26) + 1 := j_t76.2.2.2.2.2.1
            have wl_m_mdt24_t76 : m_wh t76 (m_md t26) = 88 := j_t76.1
            have z_t77 : m_at t76 < m_ct t76 := lo_ne (Nat.ne_of_gt (show 0 < lo t76 (m_at t76) from by omega))
            refine Kp_at C_t76 (fun t77 C_t77 X_t77 a_t77 b_t77 d_t77 w_t77 u_t77 v_t77 j_t77 l_t77 => ?_)
            have e_t77 := C_t77.2.2.2.1
            rw [a_t76] at a_t77
            rw [b_t76] at b_t77
            rw [d_t76] at d_t77
            rw [w_t76] at w_t77
            rw [u_t76] at u_t77
            rw [v_t76] at v_t77
            rw [a_t76, e_t76] at z_t77
            clear z_t23
            clear d_t76 w_t76 u_t76 v_t76 e_t76 a_t76 b_t76
            have I_n_t77 := I_n_t76.flat X_t77
            have f_n_t77 := f_n_t76.ex I_n_t76 (X_t77 0)
            have u_n_t77 := u_n_t76.ex I_n_t76 (X_t77 0)
            have I_m_mdt4_t77 := I_m_mdt4_t76.flat X_t77
            have f_m_mdt4_t77 := f_m_mdt4_t76.ex I_m_mdt4_t76 (X_t77 0)
            have I_m_mdt24_t77 := I_m_mdt24_t76.flat X_t77
            have f_m_mdt24_t77 := f_m_mdt24_t76.ex I_m_mdt24_t76 (X_t77 0)
            have u_m_mdt24_t77 := u_m_mdt24_t76.ex I_m_mdt24_t76 (X_t77 0)
            have I_m_mdt26_t77 := I_m_mdt26_t76.flat X_t77
            have u_m_mdt26_t77 := u_m_mdt26_t76.ex I_m_mdt26_t76 (X_t77 0)
            have hv_m_mdt4_t77 : V56 t77 (m_md t4) (m_md t0) n := hv_m_mdt4_t76.flat j_t77
            have x69_t77 : U69 t77 (m_md t24) := U69_flat j_t77 x69_t76
            have la_n_t77 : m_la t77 n = (m_md t4) + 1 := by rw [j_t77.2.2.1]; exact la_n_t76
            have wl_n_t77 : m_wh t77 ((m_md t4)) = 56 := by rw [j_t77.1]; exact wl_n_t76
            clear la_n_t76 wl_n_t76
            have la_m_mdt4_t77 : m_la t77 (m_md t4) = (m_md t24) + 1 := by rw [j_t77.2.2.1]; exact la_m_mdt4_t76
            have wl_m_mdt4_t77 : m_wh t77 ((m_md t24)) = 13 := by rw [j_t77.1]; exact wl_m_mdt4_t76
            clear la_m_mdt4_t76 wl_m_mdt4_t76
            have la_m_mdt24_t77 : m_la t77 (m_md t24) = (m_md t26) + 1 := by rw [j_t77.2.2.1]; exact la_m_mdt24_t76
            have wl_m_mdt24_t77 : m_wh t77 ((m_md t26)) = 88 := by rw [j_t77.1]; exact wl_m_mdt24_t76
            clear la_m_mdt24_t76 wl_m_mdt24_t76
            refine Ok_ret (show Ok _ _ _ from ?_)
            refine Ok_ret (show Ok _ _ _ from ?_)
            have h56 : N56 t77 (m_md t4) [(4, m_md t24, 3)] := N56_mk hv_m_mdt4_t77 la_m_mdt4_t77 (by omega) (by omega) (by omega) (by omega) (fun y hy => by cases hy; show m_md t24 ≤ m_md t24; omega) I_n_t77 I_m_mdt24_t77 u_m_mdt24_t77 x69_t77 (Or.inl f_m_mdt24_t77)
            refine Hv_mk (Kv_c (x := (4, m_md t24, 3)) rfl (Kv_c (x := (56, m_md t4, 2)) rfl hK)) (C_t77.1.2.2.2.2.2.2 hTt) C_t77 hT (by omega) (by omega) (by omega) ?_ ?_ ?_ (by omega) ?_ ?_ ?_
            · exact ⟨(Io_n (by decide) (by decide) I_m_mdt24_t77.1 I_m_mdt24_t77.2.1 I_m_mdt24_t77.2.2.1 (fun q => absurd q (by decide)) (fun q => absurd q (by decide)) I_m_mdt24_t77.2.2.2), (Nd_A (by decide) Mo_nil (Or.inl f_m_mdt24_t77)), ⟨(Io_n (by decide) (by decide) I_m_mdt4_t77.1 I_m_mdt4_t77.2.1 I_m_mdt4_t77.2.2.1 (fun q => absurd q (by decide)) (fun q => absurd q (by decide)) I_m_mdt4_t77.2.2.2), (Nd_56 (Mo_cons (fun q => show m_md t4 ≤ m_md t24 from by omega) Mo_nil) (fun _ => h56)), Stk_step (N := n) (pop := (42, n, t)) (new := [(56, m_md t4, 2), (4, m_md t24, 3)]) F0 C_t77.1.to2 (fun (h : nk 42 = false) => absurd h (by decide)) (fun q _ h => h (42, n, t) rfl) (fun _ => rfl) (fun y hy hk => ⟨rfl, (Mo_cons (fun q => show n ≤ m_md t4 from by omega) (Mo_cons (fun q => show n ≤ m_md t24 from by omega) Mo_nil)) y hy hk⟩) (fun (h : 42 = 3 ∨ 42 = 18 ∨ 42 = 41) => absurd h (by decide)) (fun (h : 42 = 18) => absurd h (by decide)) (fun _ h16 => (Or.inr ⟨f_n_t77, (Ab_some (y := (56, m_md t4, 2)) rfl (show n < m_md t4 from by omega)), H50_no la_n_t77 wl_n_t77 (by decide)⟩)) r [] (fun y hy => absurd hy List.not_mem_nil) hS⟩⟩
            · exact (Aj_up (x := (4, m_md t24, 3)) (Aj_sub (y := (56, m_md t4, 2)) hJ (Nat.le_of_ble_eq_true rfl)) (Or.inr (Nat.le_of_ble_eq_true rfl)))
            · show m_dp t77 = (dlt 4 + (dlt 56 + sD r))
              have : dlt 4 = 0 := rfl; have : dlt 42 = 0 := rfl; have : dlt 56 = 0 := rfl; omega
            · show m_rw t77 = (rho 4 + (rho 56 + sR r))
              have : rho 4 = 0 := rfl; have : rho 42 = 0 := rfl; have : rho 56 = 0 := rfl; omega
            · show m_md t77 + (mu7 4 + (mu7 56 + sM r)) ≤ 3 * m_at t77 + 7 * (r.length + 1 + 1) + 10
              have : mu7 4 = 7 := rfl; have : mu7 42 = 8 := rfl; have : mu7 56 = 7 := rfl; omega
            · show (wt 4 + (wt 56 + sW r)) + 6 * (4096 - m_at t77) + 4 * (600 - (r.length + 1 + 1)) < (wt 42 + sW r) + 6 * (4096 - m_at t0) + 4 * (600 - (r.length + 1))
              have : wt 4 = 5 := rfl; have : wt 42 = 5 := rfl; have : wt 56 = 5 := rfl; omega
        · refine Ok_ife (Nat.lt_trans (lo_lt (C_t26.tk hT) _) (by decide)) (by decide) (fun q78 => ?_) (fun q78 => ?_)
          · refine Ok_bnc ?_
            try unfold b_X6_name
            refine Kp_look C_t26 hT (by omega) ?_
            refine Ok_ife (Nat.lt_trans (lo_lt (C_t26.tk hT) _) (by decide)) (by decide) (fun q => ?_) (fun q => absurd q78 q)
            refine Kp_child C_t26 I_m_mdt24_t26.1 I_m_mdt24_t26.2.1 I_m_mdt24_t26.2.2.1 (by omega) (by omega) (by decide) (by decide) (fun t80 C_t80 X_t80 a_t80 b_t80 d_t80 w_t80 u_t80 v_t80 j_t80 l_t80 => ?_)
            have e_t80 := C_t80.2.2.2.1
            rw [a_t26] at a_t80
            rw [b_t26] at b_t80
            rw [d_t26] at d_t80
            rw [w_t26] at w_t80
            rw [u_t26] at u_t80
            rw [v_t26] at v_t80
            clear d_t26 w_t26 u_t26 v_t26 e_t26 a_t26
            have I_n_t80 := I_n_t26.chd X_t80 j_t80
            have f_n_t80 := f_n_t26.ex I_n_t26 (X_t80 0 (Nat.zero_le _))
            have u_n_t80 := u_n_t26.ex I_n_t26 (X_t80 0 (Nat.zero_le _))
            have I_m_mdt4_t80 := I_m_mdt4_t26.chd X_t80 j_t80
            have f_m_mdt4_t80 := f_m_mdt4_t26.ex I_m_mdt4_t26 (X_t80 0 (Nat.zero_le _))
            have I_m_mdt24_t80 := I_m_mdt24_t26.chd X_t80 j_t80
            have u_m_mdt24_t80 := u_m_mdt24_t26.ex I_m_mdt24_t26 (X_t80 0 (Nat.zero_le _))
            have hv_m_mdt4_t80 : V56 t80 (m_md t4) (m_md t0) n := hv_m_mdt4_t26.chd I_m_mdt4_t26.1 j_t80
            have x69_t80 : U69 t80 (m_md t24) := U69_ch j_t80 (by decide)
            have la_n_t80 : m_la t80 n = (m_md t4) + 1 := by rw [(j_t80.2.2.2.2.2.2.2.1 n I_n_t26.1 (by omega)).1]; exact la_n_t26
            have wl_n_t80 : m_wh t80 ((m_md t4)) = 56 := by rw [(j_t80.2.2.2.2.2.2.1 ((m_md t4)) (by omega)).2]; exact wl_n_t26
            clear la_n_t26 wl_n_t26
            have la_m_mdt4_t80 : m_la t80 (m_md t4) = (m_md t24) + 1 := by rw [(j_t80.2.2.2.2.2.2.2.1 (m_md t4) I_m_mdt4_t26.1 (by omega)).1]; exact la_m_mdt4_t26
            have wl_m_mdt4_t80 : m_wh t80 ((m_md t24)) = 13 := by rw [(j_t80.2.2.2.2.2.2.1 ((m_md t24)) (by omega)).2]; exact wl_m_mdt4_t26
            clear la_m_mdt4_t26 wl_m_mdt4_t26
            have f_m_mdt24_t80 : Fz t80 (m_md t24) := j_t80.2.2.2.2.1
            have I_m_mdt26_t80 : Nq t80 (m_md t26) := Nq.chn j_t80 (by omega) I_m_mdt24_t26 (by decide)
            have u_m_mdt26_t80 : Up t80 (m_md t26) := Or.inl j_t80.2.1
            have la_m_mdt24_t80 : m_la t80 (m_md t24) = (m_md t26) + 1 := j_t80.2.2.2.2.2.1
            have wl_m_mdt24_t80 : m_wh t80 (m_md t26) = 5 := j_t80.1
            have z_t81 : m_at t80 < m_ct t80 := lo_ne (Nat.ne_of_gt (show 0 < lo t80 (m_at t80) from by omega))
            refine Kp_at C_t80 (fun t81 C_t81 X_t81 a_t81 b_t81 d_t81 w_t81 u_t81 v_t81 j_t81 l_t81 => ?_)
            have e_t81 := C_t81.2.2.2.1
            rw [a_t80] at a_t81
            rw [b_t80] at b_t81
            rw [d_t80] at d_t81
            rw [w_t80] at w_t81
            rw [u_t80] at u_t81
            rw [v_t80] at v_t81
            rw [a_t80, e_t80] at z_t81
            clear z_t23
            clear d_t80 w_t80 u_t80 v_t80 e_t80 a_t80 b_t80
            have I_n_t81 := I_n_t80.flat X_t81
            have f_n_t81 := f_n_t80.ex I_n_t80 (X_t81 0)
            have u_n_t81 := u_n_t80.ex I_n_t80 (X_t81 0)
            have I_m_mdt4_t81 := I_m_mdt4_t80.flat X_t81
            have f_m_mdt4_t81 := f_m_mdt4_t80.ex I_m_mdt4_t80 (X_t81 0)
            have I_m_mdt24_t81 := I_m_mdt24_t80.flat X_t81
            have f_m_mdt24_t81 := f_m_mdt24_t80.ex I_m_mdt24_t80 (X_t81 0)
            have u_m_mdt24_t81 := u_m_mdt24_t80.ex I_m_mdt24_t80 (X_t81 0)
            have I_m_mdt26_t81 := I_m_mdt26_t80.flat X_t81
            have u_m_mdt26_t81 := u_m_mdt26_t80.ex I_m_mdt26_t80 (X_t81 0)
            have hv_m_mdt4_t81 : V56 t81 (m_md t4) (m_md t0) n := hv_m_mdt4_t80.flat j_t81
            have x69_t81 : U69 t81 (m_md t24) := U69_flat j_t81 x69_t80
            have la_n_t81 : m_la t81 n = (m_md t4) + 1 := by rw [j_t81.2.2.1]; exact la_n_t80
            have wl_n_t81 : m_wh t81 ((m_md t4)) = 56 := by rw [j_t81.1]; exact wl_n_t80
            clear la_n_t80 wl_n_t80
            have la_m_mdt4_t81 : m_la t81 (m_md t4) = (m_md t24) + 1 := by rw [j_t81.2.2.1]; exact la_m_mdt4_t80
            have wl_m_mdt4_t81 : m_wh t81 ((m_md t24)) = 13 := by rw [j_t81.1]; exact wl_m_mdt4_t80
            clear la_m_mdt4_t80 wl_m_mdt4_t80
            have la_m_mdt24_t81 : m_la t81 (m_md t24) = (m_md t26) + 1 := by rw [j_t81.2.2.1]; exact la_m_mdt24_t80
            have wl_m_mdt24_t81 : m_wh t81 ((m_md t26)) = 5 := by rw [j_t81.1]; exact wl_m_mdt24_t80
            clear la_m_mdt24_t80 wl_m_mdt24_t80
            refine Ok_ret (show Ok _ _ _ from ?_)
            refine Kp_push C_t81 (by omega) (fun t82 C_t82 X_t82 a_t82 b_t82 d_t82 w_t82 u_t82 v_t82 j_t82 l_t82 => ?_)
            have e_t82 := C_t82.2.2.2.1
            rw [a_t81] at a_t82
            rw [b_t81] at b_t82
            rw [d_t81] at d_t82
            rw [w_t81] at w_t82
            rw [u_t81] at u_t82
            rw [v_t81] at v_t82
            clear d_t81 w_t81 u_t81 v_t81 e_t81 a_t81 b_t81
            have I_n_t82 := I_n_t81.flat X_t82
            have f_n_t82 := f_n_t81.ex I_n_t81 (X_t82 0)
            have u_n_t82 := u_n_t81.ex I_n_t81 (X_t82 0)
            have I_m_mdt4_t82 := I_m_mdt4_t81.flat X_t82
            have f_m_mdt4_t82 := f_m_mdt4_t81.ex I_m_mdt4_t81 (X_t82 0)
            have I_m_mdt24_t82 := I_m_mdt24_t81.flat X_t82
            have f_m_mdt24_t82 := f_m_mdt24_t81.ex I_m_mdt24_t81 (X_t82 0)
            have u_m_mdt24_t82 := u_m_mdt24_t81.ex I_m_mdt24_t81 (X_t82 0)
            have I_m_mdt26_t82 := I_m_mdt26_t81.flat X_t82
            have u_m_mdt26_t82 := u_m_mdt26_t81.ex I_m_mdt26_t81 (X_t82 0)
            have hv_m_mdt4_t82 : V56 t82 (m_md t4) (m_md t0) n := hv_m_mdt4_t81.flat j_t82
            have x69_t82 : U69 t82 (m_md t24) := U69_flat j_t82 x69_t81
            have la_n_t82 : m_la t82 n = (m_md t4) + 1 := by rw [j_t82.2.2.1]; exact la_n_t81
            have wl_n_t82 : m_wh t82 ((m_md t4)) = 56 := by rw [j_t82.1]; exact wl_n_t81
            clear la_n_t81 wl_n_t81
            have la_m_mdt4_t82 : m_la t82 (m_md t4) = (m_md t24) + 1 := by rw [j_t82.2.2.1]; exact la_m_mdt4_t81
            have wl_m_mdt4_t82 : m_wh t82 ((m_md t24)) = 13 := by rw [j_t82.1]; exact wl_m_mdt4_t81
            clear la_m_mdt4_t81 wl_m_mdt4_t81
            have la_m_mdt24_t82 : m_la t82 (m_md t24) = (m_md t26) + 1 := by rw [j_t82.2.2.1]; exact la_m_mdt24_t81
            have wl_m_mdt24_t82 : m_wh t82 ((m_md t26)) = 5 := by rw [j_t82.1]; exact wl_m_mdt24_t81
            clear la_m_mdt24_t81 wl_m_mdt24_t81
            refine Ok_ret (show Ok _ _ _ from ?_)
            refine Ok_ret (show Ok _ _ _ from ?_)
            have h56 : N56 t82 (m_md t4) [(4, m_md t24, 3), (5, m_md t24, 3)] := N56_mk hv_m_mdt4_t82 la_m_mdt4_t82 (by omega) (by omega) (by omega) (by omega) (fun y hy => by cases hy; show m_md t24 ≤ m_md t24; omega) I_n_t82 I_m_mdt24_t82 u_m_mdt24_t82 x69_t82 (Or.inl f_m_mdt24_t82)
            refine Hv_mk (Kv_c (x := (5, m_md t24, 3)) rfl (Kv_c (x := (4, m_md t24, 3)) rfl (Kv_c (x := (56, m_md t4, 2)) rfl hK))) (C_t82.1.2.2.2.2.2.2 hTt) C_t82 hT (by omega) (by omega) (by omega) ?_ ?_ ?_ (by omega) ?_ ?_ ?_
            · exact ⟨(Io_n (by decide) (by decide) I_m_mdt24_t82.1 I_m_mdt24_t82.2.1 I_m_mdt24_t82.2.2.1 (fun q => absurd q (by decide)) (fun q => absurd q (by decide)) I_m_mdt24_t82.2.2.2), (Nd_5 Mo_nil (Or.inr (N5_mk f_m_mdt24_t82 (Ab_none rfl) la_m_mdt24_t82 wl_m_mdt24_t82 (Or.inl (by decide))))), ⟨(Io_n (by decide) (by decide) I_m_mdt24_t82.1 I_m_mdt24_t82.2.1 I_m_mdt24_t82.2.2.1 (fun q => absurd q (by decide)) (fun q => absurd q (by decide)) I_m_mdt24_t82.2.2.2), (Nd_A (by decide) (Mo_cons (fun q => show m_md t24 ≤ m_md t24 from by omega) Mo_nil) (Or.inl f_m_mdt24_t82)), ⟨(Io_n (by decide) (by decide) I_m_mdt4_t82.1 I_m_mdt4_t82.2.1 I_m_mdt4_t82.2.2.1 (fun q => absurd q (by decide)) (fun q => absurd q (by decide)) I_m_mdt4_t82.2.2.2), (Nd_56 (Mo_cons (fun q => show m_md t4 ≤ m_md t24 from by omega) (Mo_cons (fun q => show m_md t4 ≤ m_md t24 from by omega) Mo_nil)) (fun _ => h56)), Stk_step (N := n) (pop := (42, n, t)) (new := [(56, m_md t4, 2), (4, m_md t24, 3), (5, m_md t24, 3)]) F0 C_t82.1.to2 (fun (h : nk 42 = false) => absurd h (by decide)) (fun q _ h => h (42, n, t) rfl) (fun _ => rfl) (fun y hy hk => ⟨rfl, (Mo_cons (fun q => show n ≤ m_md t4 from by omega) (Mo_cons (fun q => show n ≤ m_md t24 from by omega) (Mo_cons (fun q => show n ≤ m_md t24 from by omega) Mo_nil))) y hy hk⟩) (fun (h : 42 = 3 ∨ 42 = 18 ∨ 42 = 41) => absurd h (by decide)) (fun (h : 42 = 18) => absurd h (by decide)) (fun _ h16 => (Or.inr ⟨f_n_t82, (Ab_some (y := (56, m_md t4, 2)) rfl (show n < m_md t4 from by omega)), H50_no la_n_t82 wl_n_t82 (by decide)⟩)) r [] (fun y hy => absurd hy List.not_mem_nil) hS⟩⟩⟩
            · exact (Aj_up (x := (5, m_md t24, 3)) (Aj_up (x := (4, m_md t24, 3)) (Aj_sub (y := (56, m_md t4, 2)) hJ (Nat.le_of_ble_eq_true rfl)) (Or.inr (Nat.le_of_ble_eq_true rfl))) (Or.inr (Nat.le_of_ble_eq_true rfl)))
            · show m_dp t82 = (dlt 5 + (dlt 4 + (dlt 56 + sD r)))
              have : dlt 4 = 0 := rfl; have : dlt 42 = 0 := rfl; have : dlt 5 = 0 := rfl; have : dlt 56 = 0 := rfl; omega
            · show m_rw t82 = (rho 5 + (rho 4 + (rho 56 + sR r)))
              have : rho 4 = 0 := rfl; have : rho 42 = 0 := rfl; have : rho 5 = 0 := rfl; have : rho 56 = 0 := rfl; omega
            · show m_md t82 + (mu7 5 + (mu7 4 + (mu7 56 + sM r))) ≤ 3 * m_at t82 + 7 * (r.length + 1 + 1 + 1) + 10
              have : mu7 4 = 7 := rfl; have : mu7 42 = 8 := rfl; have : mu7 5 = 7 := rfl; have : mu7 56 = 7 := rfl; omega
            · show (wt 5 + (wt 4 + (wt 56 + sW r))) + 6 * (4096 - m_at t82) + 4 * (600 - (r.length + 1 + 1 + 1)) < (wt 42 + sW r) + 6 * (4096 - m_at t0) + 4 * (600 - (r.length + 1))
              have : wt 4 = 5 := rfl; have : wt 42 = 5 := rfl; have : wt 5 = 5 := rfl; have : wt 56 = 5 := rfl; omega
          · refine Ok_ife (Nat.lt_trans (lo_lt (C_t26.tk hT) _) (by decide)) (by decide) (fun q83 => ?_) (fun q83 => ?_)
            · refine Kp_child C_t26 I_m_mdt24_t26.1 I_m_mdt24_t26.2.1 I_m_mdt24_t26.2.2.1 (by omega) (by omega) (by decide) (by decide) (fun t84 C_t84 X_t84 a_t84 b_t84 d_t84 w_t84 u_t84 v_t84 j_t84 l_t84 => ?_)
              have e_t84 := C_t84.2.2.2.1
              rw [a_t26] at a_t84
              rw [b_t26] at b_t84
              rw [d_t26] at d_t84
              rw [w_t26] at w_t84
              rw [u_t26] at u_t84
              rw [v_t26] at v_t84
              clear d_t26 w_t26 u_t26 v_t26 e_t26 a_t26
              have I_n_t84 := I_n_t26.chd X_t84 j_t84
              have f_n_t84 := f_n_t26.ex I_n_t26 (X_t84 0 (Nat.zero_le _))
              have u_n_t84 := u_n_t26.ex I_n_t26 (X_t84 0 (Nat.zero_le _))
              have I_m_mdt4_t84 := I_m_mdt4_t26.chd X_t84 j_t84
              have f_m_mdt4_t84 := f_m_mdt4_t26.ex I_m_mdt4_t26 (X_t84 0 (Nat.zero_le _))
              have I_m_mdt24_t84 := I_m_mdt24_t26.chd X_t84 j_t84
              have u_m_mdt24_t84 := u_m_mdt24_t26.ex I_m_mdt24_t26 (X_t84 0 (Nat.zero_le _))
              have hv_m_mdt4_t84 : V56 t84 (m_md t4) (m_md t0) n := hv_m_mdt4_t26.chd I_m_mdt4_t26.1 j_t84
              have x69_t84 : U69 t84 (m_md t24) := U69_ch j_t84 (by decide)
              have la_n_t84 : m_la t84 n = (m_md t4) + 1 := by rw [(j_t84.2.2.2.2.2.2.2.1 n I_n_t26.1 (by omega)).1]; exact la_n_t26
              have wl_n_t84 : m_wh t84 ((m_md t4)) = 56 := by rw [(j_t84.2.2.2.2.2.2.1 ((m_md t4)) (by omega)).2]; exact wl_n_t26
              clear la_n_t26 wl_n_t26
              have la_m_mdt4_t84 : m_la t84 (m_md t4) = (m_md t24) + 1 := by rw [(j_t84.2.2.2.2.2.2.2.1 (m_md t4) I_m_mdt4_t26.1 (by omega)).1]; exact la_m_mdt4_t26
              have wl_m_mdt4_t84 : m_wh t84 ((m_md t24)) = 13 := by rw [(j_t84.2.2.2.2.2.2.1 ((m_md t24)) (by omega)).2]; exact wl_m_mdt4_t26
              clear la_m_mdt4_t26 wl_m_mdt4_t26
              have f_m_mdt24_t84 : Fz t84 (m_md t24) := j_t84.2.2.2.2.1
              have I_m_mdt26_t84 : Nq t84 (m_md t26) := Nq.chn j_t84 (by omega) I_m_mdt24_t26 (by decide)
              have u_m_mdt26_t84 : Up t84 (m_md t26) := Or.inl j_t84.2.1
              have la_m_mdt24_t84 : m_la t84 (m_md t24) = (m_md t26) + 1 := j_t84.2.2.2.2.2.1
              have wl_m_mdt24_t84 : m_wh t84 (m_md t26) = 89 := j_t84.1
              refine Kp_more C_t84 (by omega) (by omega) (fun t85 C_t85 X_t85 a_t85 b_t85 d_t85 w_t85 u_t85 v_t85 j_t85 l_t85 => ?_)
              have e_t85 := C_t85.2.2.2.1
              rcases w_t85 with ⟨w_t85, y_t85⟩ | ⟨w_t85, wb_t85⟩
              · rw [a_t84] at a_t85
                rw [b_t84] at b_t85
                rw [d_t84] at d_t85
                rw [w_t84] at w_t85
                rw [u_t84] at u_t85
                rw [v_t84] at v_t85
                rw [d_t85] at y_t85
                clear d_t84 w_t84 u_t84 v_t84 e_t84 a_t84 b_t84
                have I_n_t85 := I_n_t84.flat X_t85
                have f_n_t85 := f_n_t84.ex I_n_t84 (X_t85 0)
                have u_n_t85 := u_n_t84.ex I_n_t84 (X_t85 0)
                have I_m_mdt4_t85 := I_m_mdt4_t84.flat X_t85
                have f_m_mdt4_t85 := f_m_mdt4_t84.ex I_m_mdt4_t84 (X_t85 0)
                have I_m_mdt24_t85 := I_m_mdt24_t84.flat X_t85
                have f_m_mdt24_t85 := f_m_mdt24_t84.ex I_m_mdt24_t84 (X_t85 0)
                have u_m_mdt24_t85 := u_m_mdt24_t84.ex I_m_mdt24_t84 (X_t85 0)
                have I_m_mdt26_t85 := I_m_mdt26_t84.flat X_t85
                have u_m_mdt26_t85 := u_m_mdt26_t84.ex I_m_mdt26_t84 (X_t85 0)
                have hv_m_mdt4_t85 : V56 t85 (m_md t4) (m_md t0) n := hv_m_mdt4_t84.flat j_t85
                have x69_t85 : U69 t85 (m_md t24) := U69_flat j_t85 x69_t84
                have la_n_t85 : m_la t85 n = (m_md t4) + 1 := by rw [j_t85.2.2.1]; exact la_n_t84
                have wl_n_t85 : m_wh t85 ((m_md t4)) = 56 := by rw [j_t85.1]; exact wl_n_t84
                clear la_n_t84 wl_n_t84
                have la_m_mdt4_t85 : m_la t85 (m_md t4) = (m_md t24) + 1 := by rw [j_t85.2.2.1]; exact la_m_mdt4_t84
                have wl_m_mdt4_t85 : m_wh t85 ((m_md t24)) = 13 := by rw [j_t85.1]; exact wl_m_mdt4_t84
                clear la_m_mdt4_t84 wl_m_mdt4_t84
                have la_m_mdt24_t85 : m_la t85 (m_md t24) = (m_md t26) + 1 := by rw [j_t85.2.2.1]; exact la_m_mdt24_t84
                have wl_m_mdt24_t85 : m_wh t85 ((m_md t26)) = 89 := by rw [j_t85.1]; exact wl_m_mdt24_t84
                clear la_m_mdt24_t84 wl_m_mdt24_t84
                have z_t86 : m_at t85 < m_ct t85 := lo_ne (Nat.ne_of_gt (show 0 < lo t85 (m_at t85) from by omega))
                refine Kp_at C_t85 (fun t86 C_t86 X_t86 a_t86 b_t86 d_t86 w_t86 u_t86 v_t86 j_t86 l_t86 => ?_)
                have e_t86 := C_t86.2.2.2.1
                rw [a_t85] at a_t86
                rw [b_t85] at b_t86
                rw [d_t85] at d_t86
                rw [w_t85] at w_t86
                rw [u_t85] at u_t86
                rw [v_t85] at v_t86
                rw [a_t85, e_t85] at z_t86
                clear z_t23
                clear d_t85 w_t85 u_t85 v_t85 e_t85 a_t85 b_t85
                have I_n_t86 := I_n_t85.flat X_t86
                have f_n_t86 := f_n_t85.ex I_n_t85 (X_t86 0)
                have u_n_t86 := u_n_t85.ex I_n_t85 (X_t86 0)
                have I_m_mdt4_t86 := I_m_mdt4_t85.flat X_t86
                have f_m_mdt4_t86 := f_m_mdt4_t85.ex I_m_mdt4_t85 (X_t86 0)
                have I_m_mdt24_t86 := I_m_mdt24_t85.flat X_t86
                have f_m_mdt24_t86 := f_m_mdt24_t85.ex I_m_mdt24_t85 (X_t86 0)
                have u_m_mdt24_t86 := u_m_mdt24_t85.ex I_m_mdt24_t85 (X_t86 0)
                have I_m_mdt26_t86 := I_m_mdt26_t85.flat X_t86
                have u_m_mdt26_t86 := u_m_mdt26_t85.ex I_m_mdt26_t85 (X_t86 0)
                have hv_m_mdt4_t86 : V56 t86 (m_md t4) (m_md t0) n := hv_m_mdt4_t85.flat j_t86
                have x69_t86 : U69 t86 (m_md t24) := U69_flat j_t86 x69_t85
                have la_n_t86 : m_la t86 n = (m_md t4) + 1 := by rw [j_t86.2.2.1]; exact la_n_t85
                have wl_n_t86 : m_wh t86 ((m_md t4)) = 56 := by rw [j_t86.1]; exact wl_n_t85
                clear la_n_t85 wl_n_t85
                have la_m_mdt4_t86 : m_la t86 (m_md t4) = (m_md t24) + 1 := by rw [j_t86.2.2.1]; exact la_m_mdt4_t85
                have wl_m_mdt4_t86 : m_wh t86 ((m_md t24)) = 13 := by rw [j_t86.1]; exact wl_m_mdt4_t85
                clear la_m_mdt4_t85 wl_m_mdt4_t85
                have la_m_mdt24_t86 : m_la t86 (m_md t24) = (m_md t26) + 1 := by rw [j_t86.2.2.1]; exact la_m_mdt24_t85
                have wl_m_mdt24_t86 : m_wh t86 ((m_md t26)) = 89 := by rw [j_t86.1]; exact wl_m_mdt24_t85
                clear la_m_mdt24_t85 wl_m_mdt24_t85
                refine Kp_push C_t86 (by omega) (fun t87 C_t87 X_t87 a_t87 b_t87 d_t87 w_t87 u_t87 v_t87 j_t87 l_t87 => ?_)
                have e_t87 := C_t87.2.2.2.1
                rw [a_t86] at a_t87
                rw [b_t86] at b_t87
                rw [d_t86] at d_t87
                rw [w_t86] at w_t87
                rw [u_t86] at u_t87
                rw [v_t86] at v_t87
                clear d_t86 w_t86 u_t86 v_t86 e_t86 a_t86 b_t86
                have I_n_t87 := I_n_t86.flat X_t87
                have f_n_t87 := f_n_t86.ex I_n_t86 (X_t87 0)
                have u_n_t87 := u_n_t86.ex I_n_t86 (X_t87 0)
                have I_m_mdt4_t87 := I_m_mdt4_t86.flat X_t87
                have f_m_mdt4_t87 := f_m_mdt4_t86.ex I_m_mdt4_t86 (X_t87 0)
                have I_m_mdt24_t87 := I_m_mdt24_t86.flat X_t87
                have f_m_mdt24_t87 := f_m_mdt24_t86.ex I_m_mdt24_t86 (X_t87 0)
                have u_m_mdt24_t87 := u_m_mdt24_t86.ex I_m_mdt24_t86 (X_t87 0)
                have I_m_mdt26_t87 := I_m_mdt26_t86.flat X_t87
                have u_m_mdt26_t87 := u_m_mdt26_t86.ex I_m_mdt26_t86 (X_t87 0)
                have hv_m_mdt4_t87 : V56 t87 (m_md t4) (m_md t0) n := hv_m_mdt4_t86.flat j_t87
                have x69_t87 : U69 t87 (m_md t24) := U69_flat j_t87 x69_t86
                have la_n_t87 : m_la t87 n = (m_md t4) + 1 := by rw [j_t87.2.2.1]; exact la_n_t86
                have wl_n_t87 : m_wh t87 ((m_md t4)) = 56 := by rw [j_t87.1]; exact wl_n_t86
                clear la_n_t86 wl_n_t86
                have la_m_mdt4_t87 : m_la t87 (m_md t4) = (m_md t24) + 1 := by rw [j_t87.2.2.1]; exact la_m_mdt4_t86
                have wl_m_mdt4_t87 : m_wh t87 ((m_md t24)) = 13 := by rw [j_t87.1]; exact wl_m_mdt4_t86
                clear la_m_mdt4_t86 wl_m_mdt4_t86
                have la_m_mdt24_t87 : m_la t87 (m_md t24) = (m_md t26) + 1 := by rw [j_t87.2.2.1]; exact la_m_mdt24_t86
                have wl_m_mdt24_t87 : m_wh t87 ((m_md t26)) = 89 := by rw [j_t87.1]; exact wl_m_mdt24_t86
                clear la_m_mdt24_t86 wl_m_mdt24_t86
                refine Ok_bnc ?_
                try unfold b_X6_expression
                refine Kp_push C_t87 (by omega) (fun t89 C_t89 X_t89 a_t89 b_t89 d_t89 w_t89 u_t89 v_t89 j_t89 l_t89 => ?_)
                have e_t89 := C_t89.2.2.2.1
                rw [a_t87] at a_t89
                rw [b_t87] at b_t89
                rw [d_t87] at d_t89
                rw [w_t87] at w_t89
                rw [u_t87] at u_t89
                rw [v_t87] at v_t89
                clear d_t87 w_t87 u_t87 v_t87 e_t87 a_t87 b_t87
                have I_n_t89 := I_n_t87.flat X_t89
                have f_n_t89 := f_n_t87.ex I_n_t87 (X_t89 0)
                have u_n_t89 := u_n_t87.ex I_n_t87 (X_t89 0)
                have I_m_mdt4_t89 := I_m_mdt4_t87.flat X_t89
                have f_m_mdt4_t89 := f_m_mdt4_t87.ex I_m_mdt4_t87 (X_t89 0)
                have I_m_mdt24_t89 := I_m_mdt24_t87.flat X_t89
                have f_m_mdt24_t89 := f_m_mdt24_t87.ex I_m_mdt24_t87 (X_t89 0)
                have u_m_mdt24_t89 := u_m_mdt24_t87.ex I_m_mdt24_t87 (X_t89 0)
                have I_m_mdt26_t89 := I_m_mdt26_t87.flat X_t89
                have u_m_mdt26_t89 := u_m_mdt26_t87.ex I_m_mdt26_t87 (X_t89 0)
                have hv_m_mdt4_t89 : V56 t89 (m_md t4) (m_md t0) n := hv_m_mdt4_t87.flat j_t89
                have x69_t89 : U69 t89 (m_md t24) := U69_flat j_t89 x69_t87
                have la_n_t89 : m_la t89 n = (m_md t4) + 1 := by rw [j_t89.2.2.1]; exact la_n_t87
                have wl_n_t89 : m_wh t89 ((m_md t4)) = 56 := by rw [j_t89.1]; exact wl_n_t87
                clear la_n_t87 wl_n_t87
                have la_m_mdt4_t89 : m_la t89 (m_md t4) = (m_md t24) + 1 := by rw [j_t89.2.2.1]; exact la_m_mdt4_t87
                have wl_m_mdt4_t89 : m_wh t89 ((m_md t24)) = 13 := by rw [j_t89.1]; exact wl_m_mdt4_t87
                clear la_m_mdt4_t87 wl_m_mdt4_t87
                have la_m_mdt24_t89 : m_la t89 (m_md t24) = (m_md t26) + 1 := by rw [j_t89.2.2.1]; exact la_m_mdt24_t87
                have wl_m_mdt24_t89 : m_wh t89 ((m_md t26)) = 89 := by rw [j_t89.1]; exact wl_m_mdt24_t87
                clear la_m_mdt24_t87 wl_m_mdt24_t87
                refine Kp_push C_t89 (by omega) (fun t90 C_t90 X_t90 a_t90 b_t90 d_t90 w_t90 u_t90 v_t90 j_t90 l_t90 => ?_)
                have e_t90 := C_t90.2.2.2.1
                rw [a_t89] at a_t90
                rw [b_t89] at b_t90
                rw [d_t89] at d_t90
                rw [w_t89] at w_t90
                rw [u_t89] at u_t90
                rw [v_t89] at v_t90
                clear d_t89 w_t89 u_t89 v_t89 e_t89 a_t89 b_t89
                have I_n_t90 := I_n_t89.flat X_t90
                have f_n_t90 := f_n_t89.ex I_n_t89 (X_t90 0)
                have u_n_t90 := u_n_t89.ex I_n_t89 (X_t90 0)
                have I_m_mdt4_t90 := I_m_mdt4_t89.flat X_t90
                have f_m_mdt4_t90 := f_m_mdt4_t89.ex I_m_mdt4_t89 (X_t90 0)
                have I_m_mdt24_t90 := I_m_mdt24_t89.flat X_t90
                have f_m_mdt24_t90 := f_m_mdt24_t89.ex I_m_mdt24_t89 (X_t90 0)
                have u_m_mdt24_t90 := u_m_mdt24_t89.ex I_m_mdt24_t89 (X_t90 0)
                have I_m_mdt26_t90 := I_m_mdt26_t89.flat X_t90
                have u_m_mdt26_t90 := u_m_mdt26_t89.ex I_m_mdt26_t89 (X_t90 0)
                have hv_m_mdt4_t90 : V56 t90 (m_md t4) (m_md t0) n := hv_m_mdt4_t89.flat j_t90
                have x69_t90 : U69 t90 (m_md t24) := U69_flat j_t90 x69_t89
                have la_n_t90 : m_la t90 n = (m_md t4) + 1 := by rw [j_t90.2.2.1]; exact la_n_t89
                have wl_n_t90 : m_wh t90 ((m_md t4)) = 56 := by rw [j_t90.1]; exact wl_n_t89
                clear la_n_t89 wl_n_t89
                have la_m_mdt4_t90 : m_la t90 (m_md t4) = (m_md t24) + 1 := by rw [j_t90.2.2.1]; exact la_m_mdt4_t89
                have wl_m_mdt4_t90 : m_wh t90 ((m_md t24)) = 13 := by rw [j_t90.1]; exact wl_m_mdt4_t89
                clear la_m_mdt4_t89 wl_m_mdt4_t89
                have la_m_mdt24_t90 : m_la t90 (m_md t24) = (m_md t26) + 1 := by rw [j_t90.2.2.1]; exact la_m_mdt24_t89
                have wl_m_mdt24_t90 : m_wh t90 ((m_md t26)) = 89 := by rw [j_t90.1]; exact wl_m_mdt24_t89
                clear la_m_mdt24_t89 wl_m_mdt24_t89
                refine Ok_ret (show Ok _ _ _ from ?_)
                refine Ok_ret (show Ok _ _ _ from ?_)
                refine Ok_ret (show Ok _ _ _ from ?_)
                have h56 : N56 t90 (m_md t4) [(4, m_md t24, 3), (8, 79, 0), (2, m_md t26, 0 ||| (1 * 256)), (3, m_md t26, 0)] := N56_mk hv_m_mdt4_t90 la_m_mdt4_t90 (by omega) (by omega) (by omega) (by omega) (fun y hy => by cases hy; show m_md t24 ≤ m_md t24; omega) I_n_t90 I_m_mdt24_t90 u_m_mdt24_t90 x69_t90 (Or.inl f_m_mdt24_t90)
                refine Hv_mk (Kv_c (x := (3, m_md t26, 0)) rfl (Kv_c (x := (2, m_md t26, 0 ||| (1 * 256))) rfl (Kv_c (x := (8, 79, 0)) rfl (Kv_c (x := (4, m_md t24, 3)) rfl (Kv_c (x := (56, m_md t4, 2)) rfl hK))))) (C_t90.1.2.2.2.2.2.2 hTt) C_t90 hT (by omega) (by omega) (by omega) ?_ ?_ ?_ (by omega) ?_ ?_ ?_
                · exact ⟨(Io_n (by decide) (by decide) I_m_mdt26_t90.1 I_m_mdt26_t90.2.1 I_m_mdt26_t90.2.2.1 (fun q => absurd q (by decide)) (fun q => absurd q (by decide)) I_m_mdt26_t90.2.2.2), (Nd_0 (by decide) Mo_nil), ⟨(Io_2 (by have := or_256 (b := 1) (show 0 < 256 from by omega); omega) (by have := or_256 (b := 1) (show 0 < 256 from by omega); omega) (by have := or_256 (b := 1) (show 0 < 256 from by omega); omega) I_m_mdt26_t90.1 I_m_mdt26_t90.2.1 I_m_mdt26_t90.2.2.1 I_m_mdt26_t90.2.2.2), (Nd_A (by decide) (Mo_cons (fun q => show m_md t26 ≤ m_md t26 from by omega) Mo_nil) (Or.inr ⟨(3, m_md t26, 0), List.mem_cons_self, rfl, Or.inl rfl⟩)), ⟨(Io_78 (by decide) (by decide) (by decide)), (Nd_x (by decide)), ⟨(Io_n (by decide) (by decide) I_m_mdt24_t90.1 I_m_mdt24_t90.2.1 I_m_mdt24_t90.2.2.1 (fun q => absurd q (by decide)) (fun q => absurd q (by decide)) I_m_mdt24_t90.2.2.2), (Nd_A (by decide) (Mo_cons (fun q => absurd (show nk 8 = true from q) (by decide)) (Mo_cons (fun q => show m_md t24 ≤ m_md t26 from by omega) (Mo_cons (fun q => show m_md t24 ≤ m_md t26 from by omega) Mo_nil))) (Or.inl f_m_mdt24_t90)), ⟨(Io_n (by decide) (by decide) I_m_mdt4_t90.1 I_m_mdt4_t90.2.1 I_m_mdt4_t90.2.2.1 (fun q => absurd q (by decide)) (fun q => absurd q (by decide)) I_m_mdt4_t90.2.2.2), (Nd_56 (Mo_cons (fun q => show m_md t4 ≤ m_md t24 from by omega) (Mo_cons (fun q => absurd (show nk 8 = true from q) (by decide)) (Mo_cons (fun q => show m_md t4 ≤ m_md t26 from by omega) (Mo_cons (fun q => show m_md t4 ≤ m_md t26 from by omega) Mo_nil)))) (fun _ => h56)), Stk_step (N := n) (pop := (42, n, t)) (new := [(56, m_md t4, 2), (4, m_md t24, 3), (8, 79, 0), (2, m_md t26, 0 ||| (1 * 256)), (3, m_md t26, 0)]) F0 C_t90.1.to2 (fun (h : nk 42 = false) => absurd h (by decide)) (fun q _ h => h (42, n, t) rfl) (fun _ => rfl) (fun y hy hk => ⟨rfl, (Mo_cons (fun q => show n ≤ m_md t4 from by omega) (Mo_cons (fun q => show n ≤ m_md t24 from by omega) (Mo_cons (fun q => absurd (show nk 8 = true from q) (by decide)) (Mo_cons (fun q => show n ≤ m_md t26 from by omega) (Mo_cons (fun q => show n ≤ m_md t26 from by omega) Mo_nil))))) y hy hk⟩) (fun (h : 42 = 3 ∨ 42 = 18 ∨ 42 = 41) => absurd h (by decide)) (fun (h : 42 = 18) => absurd h (by decide)) (fun _ h16 => (Or.inr ⟨f_n_t90, (Ab_some (y := (56, m_md t4, 2)) rfl (show n < m_md t4 from by omega)), H50_no la_n_t90 wl_n_t90 (by decide)⟩)) r [] (fun y hy => absurd hy List.not_mem_nil) hS⟩⟩⟩⟩⟩
                · exact (Aj_up (x := (3, m_md t26, 0)) (Aj_up (x := (2, m_md t26, 0 ||| (1 * 256))) (Aj_up (x := (8, 79, 0)) (Aj_up (x := (4, m_md t24, 3)) (Aj_sub (y := (56, m_md t4, 2)) hJ (Nat.le_of_ble_eq_true rfl)) (Or.inr (Nat.le_of_ble_eq_true rfl))) (Or.inr (Nat.le_of_ble_eq_true rfl))) (Or.inl (Nat.le_of_ble_eq_true rfl))) (Or.inr (show 2 < 9 - (0 ||| (1 * 256)) / 256 from by have := or_256 (b := 1) (show 0 < 256 from by omega); omega)))
                · show m_dp t90 = (dlt 3 + (dlt 2 + (dlt 8 + (dlt 4 + (dlt 56 + sD r)))))
                  have : dlt 2 = 0 := rfl; have : dlt 3 = 0 := rfl; have : dlt 4 = 0 := rfl; have : dlt 42 = 0 := rfl; have : dlt 56 = 0 := rfl; have : dlt 8 = 1 := rfl; omega
                · show m_rw t90 = (rho 3 + (rho 2 + (rho 8 + (rho 4 + (rho 56 + sR r)))))
                  have : rho 2 = 0 := rfl; have : rho 3 = 0 := rfl; have : rho 4 = 0 := rfl; have : rho 42 = 0 := rfl; have : rho 56 = 0 := rfl; have : rho 8 = 0 := rfl; omega
                · show m_md t90 + (mu7 3 + (mu7 2 + (mu7 8 + (mu7 4 + (mu7 56 + sM r))))) ≤ 3 * m_at t90 + 7 * (r.length + 1 + 1 + 1 + 1 + 1) + 10
                  have : mu7 2 = 7 := rfl; have : mu7 3 = 5 := rfl; have : mu7 4 = 7 := rfl; have : mu7 42 = 8 := rfl; have : mu7 56 = 7 := rfl; have : mu7 8 = 4 := rfl; omega
                · show (wt 3 + (wt 2 + (wt 8 + (wt 4 + (wt 56 + sW r))))) + 6 * (4096 - m_at t90) + 4 * (600 - (r.length + 1 + 1 + 1 + 1 + 1)) < (wt 42 + sW r) + 6 * (4096 - m_at t0) + 4 * (600 - (r.length + 1))
                  have : wt 2 = 5 := rfl; have : wt 3 = 3 := rfl; have : wt 4 = 5 := rfl; have : wt 42 = 5 := rfl; have : wt 56 = 5 := rfl; have : wt 8 = 0 := rfl; omega
              · have w_t85 := Nat.pos_of_ne_zero w_t85
                have I_n_t85 := I_n_t84.flat X_t85
                have f_n_t85 := f_n_t84.ex I_n_t84 (X_t85 0)
                have u_n_t85 := u_n_t84.ex I_n_t84 (X_t85 0)
                have I_m_mdt4_t85 := I_m_mdt4_t84.flat X_t85
                have f_m_mdt4_t85 := f_m_mdt4_t84.ex I_m_mdt4_t84 (X_t85 0)
                have I_m_mdt24_t85 := I_m_mdt24_t84.flat X_t85
                have f_m_mdt24_t85 := f_m_mdt24_t84.ex I_m_mdt24_t84 (X_t85 0)
                have u_m_mdt24_t85 := u_m_mdt24_t84.ex I_m_mdt24_t84 (X_t85 0)
                have I_m_mdt26_t85 := I_m_mdt26_t84.flat X_t85
                have u_m_mdt26_t85 := u_m_mdt26_t84.ex I_m_mdt26_t84 (X_t85 0)
                have hv_m_mdt4_t85 : V56 t85 (m_md t4) (m_md t0) n := hv_m_mdt4_t84.flat j_t85
                have x69_t85 : U69 t85 (m_md t24) := U69_flat j_t85 x69_t84
                have la_n_t85 : m_la t85 n = (m_md t4) + 1 := by rw [j_t85.2.2.1]; exact la_n_t84
                have wl_n_t85 : m_wh t85 ((m_md t4)) = 56 := by rw [j_t85.1]; exact wl_n_t84
                clear la_n_t84 wl_n_t84
                have la_m_mdt4_t85 : m_la t85 (m_md t4) = (m_md t24) + 1 := by rw [j_t85.2.2.1]; exact la_m_mdt4_t84
                have wl_m_mdt4_t85 : m_wh t85 ((m_md t24)) = 13 := by rw [j_t85.1]; exact wl_m_mdt4_t84
                clear la_m_mdt4_t84 wl_m_mdt4_t84
                have la_m_mdt24_t85 : m_la t85 (m_md t24) = (m_md t26) + 1 := by rw [j_t85.2.2.1]; exact la_m_mdt24_t84
                have wl_m_mdt24_t85 : m_wh t85 ((m_md t26)) = 89 := by rw [j_t85.1]; exact wl_m_mdt24_t84
                clear la_m_mdt24_t84 wl_m_mdt24_t84
                refine Kp_at C_t85 (fun t91 C_t91 X_t91 a_t91 b_t91 d_t91 w_t91 u_t91 v_t91 j_t91 l_t91 => ?_)
                have e_t91 := C_t91.2.2.2.1
                have I_n_t91 := I_n_t85.flat X_t91
                have f_n_t91 := f_n_t85.ex I_n_t85 (X_t91 0)
                have u_n_t91 := u_n_t85.ex I_n_t85 (X_t91 0)
                have I_m_mdt4_t91 := I_m_mdt4_t85.flat X_t91
                have f_m_mdt4_t91 := f_m_mdt4_t85.ex I_m_mdt4_t85 (X_t91 0)
                have I_m_mdt24_t91 := I_m_mdt24_t85.flat X_t91
                have f_m_mdt24_t91 := f_m_mdt24_t85.ex I_m_mdt24_t85 (X_t91 0)
                have u_m_mdt24_t91 := u_m_mdt24_t85.ex I_m_mdt24_t85 (X_t91 0)
                have I_m_mdt26_t91 := I_m_mdt26_t85.flat X_t91
                have u_m_mdt26_t91 := u_m_mdt26_t85.ex I_m_mdt26_t85 (X_t91 0)
                have hv_m_mdt4_t91 : V56 t91 (m_md t4) (m_md t0) n := hv_m_mdt4_t85.flat j_t91
                have x69_t91 : U69 t91 (m_md t24) := U69_flat j_t91 x69_t85
                have la_n_t91 : m_la t91 n = (m_md t4) + 1 := by rw [j_t91.2.2.1]; exact la_n_t85
                have wl_n_t91 : m_wh t91 ((m_md t4)) = 56 := by rw [j_t91.1]; exact wl_n_t85
                clear la_n_t85 wl_n_t85
                have la_m_mdt4_t91 : m_la t91 (m_md t4) = (m_md t24) + 1 := by rw [j_t91.2.2.1]; exact la_m_mdt4_t85
                have wl_m_mdt4_t91 : m_wh t91 ((m_md t24)) = 13 := by rw [j_t91.1]; exact wl_m_mdt4_t85
                clear la_m_mdt4_t85 wl_m_mdt4_t85
                have la_m_mdt24_t91 : m_la t91 (m_md t24) = (m_md t26) + 1 := by rw [j_t91.2.2.1]; exact la_m_mdt24_t85
                have wl_m_mdt24_t91 : m_wh t91 ((m_md t26)) = 89 := by rw [j_t91.1]; exact wl_m_mdt24_t85
                clear la_m_mdt24_t85 wl_m_mdt24_t85
                refine Kp_push C_t91 (by omega) (fun t92 C_t92 X_t92 a_t92 b_t92 d_t92 w_t92 u_t92 v_t92 j_t92 l_t92 => ?_)
                have e_t92 := C_t92.2.2.2.1
                have I_n_t92 := I_n_t91.flat X_t92
                have f_n_t92 := f_n_t91.ex I_n_t91 (X_t92 0)
                have u_n_t92 := u_n_t91.ex I_n_t91 (X_t92 0)
                have I_m_mdt4_t92 := I_m_mdt4_t91.flat X_t92
                have f_m_mdt4_t92 := f_m_mdt4_t91.ex I_m_mdt4_t91 (X_t92 0)
                have I_m_mdt24_t92 := I_m_mdt24_t91.flat X_t92
                have f_m_mdt24_t92 := f_m_mdt24_t91.ex I_m_mdt24_t91 (X_t92 0)
                have u_m_mdt24_t92 := u_m_mdt24_t91.ex I_m_mdt24_t91 (X_t92 0)
                have I_m_mdt26_t92 := I_m_mdt26_t91.flat X_t92
                have u_m_mdt26_t92 := u_m_mdt26_t91.ex I_m_mdt26_t91 (X_t92 0)
                have hv_m_mdt4_t92 : V56 t92 (m_md t4) (m_md t0) n := hv_m_mdt4_t91.flat j_t92
                have x69_t92 : U69 t92 (m_md t24) := U69_flat j_t92 x69_t91
                have la_n_t92 : m_la t92 n = (m_md t4) + 1 := by rw [j_t92.2.2.1]; exact la_n_t91
                have wl_n_t92 : m_wh t92 ((m_md t4)) = 56 := by rw [j_t92.1]; exact wl_n_t91
                clear la_n_t91 wl_n_t91
                have la_m_mdt4_t92 : m_la t92 (m_md t4) = (m_md t24) + 1 := by rw [j_t92.2.2.1]; exact la_m_mdt4_t91
                have wl_m_mdt4_t92 : m_wh t92 ((m_md t24)) = 13 := by rw [j_t92.1]; exact wl_m_mdt4_t91
                clear la_m_mdt4_t91 wl_m_mdt4_t91
                have la_m_mdt24_t92 : m_la t92 (m_md t24) = (m_md t26) + 1 := by rw [j_t92.2.2.1]; exact la_m_mdt24_t91
                have wl_m_mdt24_t92 : m_wh t92 ((m_md t26)) = 89 := by rw [j_t92.1]; exact wl_m_mdt24_t91
                clear la_m_mdt24_t91 wl_m_mdt24_t91
                refine Ok_bnc ?_
                try unfold b_X6_expression
                refine Kp_push C_t92 (by omega) (fun t94 C_t94 X_t94 a_t94 b_t94 d_t94 w_t94 u_t94 v_t94 j_t94 l_t94 => ?_)
                have e_t94 := C_t94.2.2.2.1
                have I_n_t94 := I_n_t92.flat X_t94
                have f_n_t94 := f_n_t92.ex I_n_t92 (X_t94 0)
                have u_n_t94 := u_n_t92.ex I_n_t92 (X_t94 0)
                have I_m_mdt4_t94 := I_m_mdt4_t92.flat X_t94
                have f_m_mdt4_t94 := f_m_mdt4_t92.ex I_m_mdt4_t92 (X_t94 0)
                have I_m_mdt24_t94 := I_m_mdt24_t92.flat X_t94
                have f_m_mdt24_t94 := f_m_mdt24_t92.ex I_m_mdt24_t92 (X_t94 0)
                have u_m_mdt24_t94 := u_m_mdt24_t92.ex I_m_mdt24_t92 (X_t94 0)
                have I_m_mdt26_t94 := I_m_mdt26_t92.flat X_t94
                have u_m_mdt26_t94 := u_m_mdt26_t92.ex I_m_mdt26_t92 (X_t94 0)
                have hv_m_mdt4_t94 : V56 t94 (m_md t4) (m_md t0) n := hv_m_mdt4_t92.flat j_t94
                have x69_t94 : U69 t94 (m_md t24) := U69_flat j_t94 x69_t92
                have la_n_t94 : m_la t94 n = (m_md t4) + 1 := by rw [j_t94.2.2.1]; exact la_n_t92
                have wl_n_t94 : m_wh t94 ((m_md t4)) = 56 := by rw [j_t94.1]; exact wl_n_t92
                clear la_n_t92 wl_n_t92
                have la_m_mdt4_t94 : m_la t94 (m_md t4) = (m_md t24) + 1 := by rw [j_t94.2.2.1]; exact la_m_mdt4_t92
                have wl_m_mdt4_t94 : m_wh t94 ((m_md t24)) = 13 := by rw [j_t94.1]; exact wl_m_mdt4_t92
                clear la_m_mdt4_t92 wl_m_mdt4_t92
                have la_m_mdt24_t94 : m_la t94 (m_md t24) = (m_md t26) + 1 := by rw [j_t94.2.2.1]; exact la_m_mdt24_t92
                have wl_m_mdt24_t94 : m_wh t94 ((m_md t26)) = 89 := by rw [j_t94.1]; exact wl_m_mdt24_t92
                clear la_m_mdt24_t92 wl_m_mdt24_t92
                refine Kp_push C_t94 (by omega) (fun t95 C_t95 X_t95 a_t95 b_t95 d_t95 w_t95 u_t95 v_t95 j_t95 l_t95 => ?_)
                have e_t95 := C_t95.2.2.2.1
                have I_n_t95 := I_n_t94.flat X_t95
                have f_n_t95 := f_n_t94.ex I_n_t94 (X_t95 0)
                have u_n_t95 := u_n_t94.ex I_n_t94 (X_t95 0)
                have I_m_mdt4_t95 := I_m_mdt4_t94.flat X_t95
                have f_m_mdt4_t95 := f_m_mdt4_t94.ex I_m_mdt4_t94 (X_t95 0)
                have I_m_mdt24_t95 := I_m_mdt24_t94.flat X_t95
                have f_m_mdt24_t95 := f_m_mdt24_t94.ex I_m_mdt24_t94 (X_t95 0)
                have u_m_mdt24_t95 := u_m_mdt24_t94.ex I_m_mdt24_t94 (X_t95 0)
                have I_m_mdt26_t95 := I_m_mdt26_t94.flat X_t95
                have u_m_mdt26_t95 := u_m_mdt26_t94.ex I_m_mdt26_t94 (X_t95 0)
                have hv_m_mdt4_t95 : V56 t95 (m_md t4) (m_md t0) n := hv_m_mdt4_t94.flat j_t95
                have x69_t95 : U69 t95 (m_md t24) := U69_flat j_t95 x69_t94
                have la_n_t95 : m_la t95 n = (m_md t4) + 1 := by rw [j_t95.2.2.1]; exact la_n_t94
                have wl_n_t95 : m_wh t95 ((m_md t4)) = 56 := by rw [j_t95.1]; exact wl_n_t94
                clear la_n_t94 wl_n_t94
                have la_m_mdt4_t95 : m_la t95 (m_md t4) = (m_md t24) + 1 := by rw [j_t95.2.2.1]; exact la_m_mdt4_t94
                have wl_m_mdt4_t95 : m_wh t95 ((m_md t24)) = 13 := by rw [j_t95.1]; exact wl_m_mdt4_t94
                clear la_m_mdt4_t94 wl_m_mdt4_t94
                have la_m_mdt24_t95 : m_la t95 (m_md t24) = (m_md t26) + 1 := by rw [j_t95.2.2.1]; exact la_m_mdt24_t94
                have wl_m_mdt24_t95 : m_wh t95 ((m_md t26)) = 89 := by rw [j_t95.1]; exact wl_m_mdt24_t94
                clear la_m_mdt24_t94 wl_m_mdt24_t94
                refine Ok_ret (show Ok _ _ _ from ?_)
                refine Ok_ret (show Ok _ _ _ from ?_)
                refine Ok_ret (show Ok _ _ _ from ?_)
                exact Or.inl ⟨Nat.ne_of_gt (show 0 < m_wr t95 from by omega), by omega, by omega, C_t95.2.2.2.2.2, by omega⟩
            · refine Ok_ife (Nat.lt_trans (lo_lt (C_t26.tk hT) _) (by decide)) (by decide) (fun q96 => ?_) (fun q96 => ?_)
              · refine Kp_child C_t26 I_m_mdt24_t26.1 I_m_mdt24_t26.2.1 I_m_mdt24_t26.2.2.1 (by omega) (by omega) (by decide) (by decide) (fun t97 C_t97 X_t97 a_t97 b_t97 d_t97 w_t97 u_t97 v_t97 j_t97 l_t97 => ?_)
                have e_t97 := C_t97.2.2.2.1
                rw [a_t26] at a_t97
                rw [b_t26] at b_t97
                rw [d_t26] at d_t97
                rw [w_t26] at w_t97
                rw [u_t26] at u_t97
                rw [v_t26] at v_t97
                clear d_t26 w_t26 u_t26 v_t26 e_t26 a_t26
                have I_n_t97 := I_n_t26.chd X_t97 j_t97
                have f_n_t97 := f_n_t26.ex I_n_t26 (X_t97 0 (Nat.zero_le _))
                have u_n_t97 := u_n_t26.ex I_n_t26 (X_t97 0 (Nat.zero_le _))
                have I_m_mdt4_t97 := I_m_mdt4_t26.chd X_t97 j_t97
                have f_m_mdt4_t97 := f_m_mdt4_t26.ex I_m_mdt4_t26 (X_t97 0 (Nat.zero_le _))
                have I_m_mdt24_t97 := I_m_mdt24_t26.chd X_t97 j_t97
                have u_m_mdt24_t97 := u_m_mdt24_t26.ex I_m_mdt24_t26 (X_t97 0 (Nat.zero_le _))
                have hv_m_mdt4_t97 : V56 t97 (m_md t4) (m_md t0) n := hv_m_mdt4_t26.chd I_m_mdt4_t26.1 j_t97
                have x69_t97 : U69 t97 (m_md t24) := U69_ch j_t97 (by decide)
                have la_n_t97 : m_la t97 n = (m_md t4) + 1 := by rw [(j_t97.2.2.2.2.2.2.2.1 n I_n_t26.1 (by omega)).1]; exact la_n_t26
                have wl_n_t97 : m_wh t97 ((m_md t4)) = 56 := by rw [(j_t97.2.2.2.2.2.2.1 ((m_md t4)) (by omega)).2]; exact wl_n_t26
                clear la_n_t26 wl_n_t26
                have la_m_mdt4_t97 : m_la t97 (m_md t4) = (m_md t24) + 1 := by rw [(j_t97.2.2.2.2.2.2.2.1 (m_md t4) I_m_mdt4_t26.1 (by omega)).1]; exact la_m_mdt4_t26
                have wl_m_mdt4_t97 : m_wh t97 ((m_md t24)) = 13 := by rw [(j_t97.2.2.2.2.2.2.1 ((m_md t24)) (by omega)).2]; exact wl_m_mdt4_t26
                clear la_m_mdt4_t26 wl_m_mdt4_t26
                have f_m_mdt24_t97 : Fz t97 (m_md t24) := j_t97.2.2.2.2.1
                have I_m_mdt26_t97 : Nq t97 (m_md t26) := Nq.chn j_t97 (by omega) I_m_mdt24_t26 (by decide)
                have u_m_mdt26_t97 : Up t97 (m_md t26) := Or.inl j_t97.2.1
                have la_m_mdt24_t97 : m_la t97 (m_md t24) = (m_md t26) + 1 := j_t97.2.2.2.2.2.1
                have wl_m_mdt24_t97 : m_wh t97 (m_md t26) = 29 := j_t97.1
                refine Kp_more C_t97 (by omega) (by omega) (fun t98 C_t98 X_t98 a_t98 b_t98 d_t98 w_t98 u_t98 v_t98 j_t98 l_t98 => ?_)
                have e_t98 := C_t98.2.2.2.1
                rcases w_t98 with ⟨w_t98, y_t98⟩ | ⟨w_t98, wb_t98⟩
                · rw [a_t97] at a_t98
                  rw [b_t97] at b_t98
                  rw [d_t97] at d_t98
                  rw [w_t97] at w_t98
                  rw [u_t97] at u_t98
                  rw [v_t97] at v_t98
                  rw [d_t98] at y_t98
                  clear d_t97 w_t97 u_t97 v_t97 e_t97 a_t97 b_t97
                  have I_n_t98 := I_n_t97.flat X_t98
                  have f_n_t98 := f_n_t97.ex I_n_t97 (X_t98 0)
                  have u_n_t98 := u_n_t97.ex I_n_t97 (X_t98 0)
                  have I_m_mdt4_t98 := I_m_mdt4_t97.flat X_t98
                  have f_m_mdt4_t98 := f_m_mdt4_t97.ex I_m_mdt4_t97 (X_t98 0)
                  have I_m_mdt24_t98 := I_m_mdt24_t97.flat X_t98
                  have f_m_mdt24_t98 := f_m_mdt24_t97.ex I_m_mdt24_t97 (X_t98 0)
                  have u_m_mdt24_t98 := u_m_mdt24_t97.ex I_m_mdt24_t97 (X_t98 0)
                  have I_m_mdt26_t98 := I_m_mdt26_t97.flat X_t98
                  have u_m_mdt26_t98 := u_m_mdt26_t97.ex I_m_mdt26_t97 (X_t98 0)
                  have hv_m_mdt4_t98 : V56 t98 (m_md t4) (m_md t0) n := hv_m_mdt4_t97.flat j_t98
                  have x69_t98 : U69 t98 (m_md t24) := U69_flat j_t98 x69_t97
                  have la_n_t98 : m_la t98 n = (m_md t4) + 1 := by rw [j_t98.2.2.1]; exact la_n_t97
                  have wl_n_t98 : m_wh t98 ((m_md t4)) = 56 := by rw [j_t98.1]; exact wl_n_t97
                  clear la_n_t97 wl_n_t97
                  have la_m_mdt4_t98 : m_la t98 (m_md t4) = (m_md t24) + 1 := by rw [j_t98.2.2.1]; exact la_m_mdt4_t97
                  have wl_m_mdt4_t98 : m_wh t98 ((m_md t24)) = 13 := by rw [j_t98.1]; exact wl_m_mdt4_t97
                  clear la_m_mdt4_t97 wl_m_mdt4_t97
                  have la_m_mdt24_t98 : m_la t98 (m_md t24) = (m_md t26) + 1 := by rw [j_t98.2.2.1]; exact la_m_mdt24_t97
                  have wl_m_mdt24_t98 : m_wh t98 ((m_md t26)) = 29 := by rw [j_t98.1]; exact wl_m_mdt24_t97
                  clear la_m_mdt24_t97 wl_m_mdt24_t97
                  have z_t99 : m_at t98 < m_ct t98 := lo_ne (Nat.ne_of_gt (show 0 < lo t98 (m_at t98) from by omega))
                  refine Kp_at C_t98 (fun t99 C_t99 X_t99 a_t99 b_t99 d_t99 w_t99 u_t99 v_t99 j_t99 l_t99 => ?_)
                  have e_t99 := C_t99.2.2.2.1
                  rw [a_t98] at a_t99
                  rw [b_t98] at b_t99
                  rw [d_t98] at d_t99
                  rw [w_t98] at w_t99
                  rw [u_t98] at u_t99
                  rw [v_t98] at v_t99
                  rw [a_t98, e_t98] at z_t99
                  clear z_t23
                  clear d_t98 w_t98 u_t98 v_t98 e_t98 a_t98 b_t98
                  have I_n_t99 := I_n_t98.flat X_t99
                  have f_n_t99 := f_n_t98.ex I_n_t98 (X_t99 0)
                  have u_n_t99 := u_n_t98.ex I_n_t98 (X_t99 0)
                  have I_m_mdt4_t99 := I_m_mdt4_t98.flat X_t99
                  have f_m_mdt4_t99 := f_m_mdt4_t98.ex I_m_mdt4_t98 (X_t99 0)
                  have I_m_mdt24_t99 := I_m_mdt24_t98.flat X_t99
                  have f_m_mdt24_t99 := f_m_mdt24_t98.ex I_m_mdt24_t98 (X_t99 0)
                  have u_m_mdt24_t99 := u_m_mdt24_t98.ex I_m_mdt24_t98 (X_t99 0)
                  have I_m_mdt26_t99 := I_m_mdt26_t98.flat X_t99
                  have u_m_mdt26_t99 := u_m_mdt26_t98.ex I_m_mdt26_t98 (X_t99 0)
                  have hv_m_mdt4_t99 : V56 t99 (m_md t4) (m_md t0) n := hv_m_mdt4_t98.flat j_t99
                  have x69_t99 : U69 t99 (m_md t24) := U69_flat j_t99 x69_t98
                  have la_n_t99 : m_la t99 n = (m_md t4) + 1 := by rw [j_t99.2.2.1]; exact la_n_t98
                  have wl_n_t99 : m_wh t99 ((m_md t4)) = 56 := by rw [j_t99.1]; exact wl_n_t98
                  clear la_n_t98 wl_n_t98
                  have la_m_mdt4_t99 : m_la t99 (m_md t4) = (m_md t24) + 1 := by rw [j_t99.2.2.1]; exact la_m_mdt4_t98
                  have wl_m_mdt4_t99 : m_wh t99 ((m_md t24)) = 13 := by rw [j_t99.1]; exact wl_m_mdt4_t98
                  clear la_m_mdt4_t98 wl_m_mdt4_t98
                  have la_m_mdt24_t99 : m_la t99 (m_md t24) = (m_md t26) + 1 := by rw [j_t99.2.2.1]; exact la_m_mdt24_t98
                  have wl_m_mdt24_t99 : m_wh t99 ((m_md t26)) = 29 := by rw [j_t99.1]; exact wl_m_mdt24_t98
                  clear la_m_mdt24_t98 wl_m_mdt24_t98
                  refine Kp_push C_t99 (by omega) (fun t100 C_t100 X_t100 a_t100 b_t100 d_t100 w_t100 u_t100 v_t100 j_t100 l_t100 => ?_)
                  have e_t100 := C_t100.2.2.2.1
                  rw [a_t99] at a_t100
                  rw [b_t99] at b_t100
                  rw [d_t99] at d_t100
                  rw [w_t99] at w_t100
                  rw [u_t99] at u_t100
                  rw [v_t99] at v_t100
                  clear d_t99 w_t99 u_t99 v_t99 e_t99 a_t99 b_t99
                  have I_n_t100 := I_n_t99.flat X_t100
                  have f_n_t100 := f_n_t99.ex I_n_t99 (X_t100 0)
                  have u_n_t100 := u_n_t99.ex I_n_t99 (X_t100 0)
                  have I_m_mdt4_t100 := I_m_mdt4_t99.flat X_t100
                  have f_m_mdt4_t100 := f_m_mdt4_t99.ex I_m_mdt4_t99 (X_t100 0)
                  have I_m_mdt24_t100 := I_m_mdt24_t99.flat X_t100
                  have f_m_mdt24_t100 := f_m_mdt24_t99.ex I_m_mdt24_t99 (X_t100 0)
                  have u_m_mdt24_t100 := u_m_mdt24_t99.ex I_m_mdt24_t99 (X_t100 0)
                  have I_m_mdt26_t100 := I_m_mdt26_t99.flat X_t100
                  have u_m_mdt26_t100 := u_m_mdt26_t99.ex I_m_mdt26_t99 (X_t100 0)
                  have hv_m_mdt4_t100 : V56 t100 (m_md t4) (m_md t0) n := hv_m_mdt4_t99.flat j_t100
                  have x69_t100 : U69 t100 (m_md t24) := U69_flat j_t100 x69_t99
                  have la_n_t100 : m_la t100 n = (m_md t4) + 1 := by rw [j_t100.2.2.1]; exact la_n_t99
                  have wl_n_t100 : m_wh t100 ((m_md t4)) = 56 := by rw [j_t100.1]; exact wl_n_t99
                  clear la_n_t99 wl_n_t99
                  have la_m_mdt4_t100 : m_la t100 (m_md t4) = (m_md t24) + 1 := by rw [j_t100.2.2.1]; exact la_m_mdt4_t99
                  have wl_m_mdt4_t100 : m_wh t100 ((m_md t24)) = 13 := by rw [j_t100.1]; exact wl_m_mdt4_t99
                  clear la_m_mdt4_t99 wl_m_mdt4_t99
                  have la_m_mdt24_t100 : m_la t100 (m_md t24) = (m_md t26) + 1 := by rw [j_t100.2.2.1]; exact la_m_mdt24_t99
                  have wl_m_mdt24_t100 : m_wh t100 ((m_md t26)) = 29 := by rw [j_t100.1]; exact wl_m_mdt24_t99
                  clear la_m_mdt24_t99 wl_m_mdt24_t99
                  refine Kp_push C_t100 (by omega) (fun t101 C_t101 X_t101 a_t101 b_t101 d_t101 w_t101 u_t101 v_t101 j_t101 l_t101 => ?_)
                  have e_t101 := C_t101.2.2.2.1
                  rw [a_t100] at a_t101
                  rw [b_t100] at b_t101
                  rw [d_t100] at d_t101
                  rw [w_t100] at w_t101
                  rw [u_t100] at u_t101
                  rw [v_t100] at v_t101
                  clear d_t100 w_t100 u_t100 v_t100 e_t100 a_t100 b_t100
                  have I_n_t101 := I_n_t100.flat X_t101
                  have f_n_t101 := f_n_t100.ex I_n_t100 (X_t101 0)
                  have u_n_t101 := u_n_t100.ex I_n_t100 (X_t101 0)
                  have I_m_mdt4_t101 := I_m_mdt4_t100.flat X_t101
                  have f_m_mdt4_t101 := f_m_mdt4_t100.ex I_m_mdt4_t100 (X_t101 0)
                  have I_m_mdt24_t101 := I_m_mdt24_t100.flat X_t101
                  have f_m_mdt24_t101 := f_m_mdt24_t100.ex I_m_mdt24_t100 (X_t101 0)
                  have u_m_mdt24_t101 := u_m_mdt24_t100.ex I_m_mdt24_t100 (X_t101 0)
                  have I_m_mdt26_t101 := I_m_mdt26_t100.flat X_t101
                  have u_m_mdt26_t101 := u_m_mdt26_t100.ex I_m_mdt26_t100 (X_t101 0)
                  have hv_m_mdt4_t101 : V56 t101 (m_md t4) (m_md t0) n := hv_m_mdt4_t100.flat j_t101
                  have x69_t101 : U69 t101 (m_md t24) := U69_flat j_t101 x69_t100
                  have la_n_t101 : m_la t101 n = (m_md t4) + 1 := by rw [j_t101.2.2.1]; exact la_n_t100
                  have wl_n_t101 : m_wh t101 ((m_md t4)) = 56 := by rw [j_t101.1]; exact wl_n_t100
                  clear la_n_t100 wl_n_t100
                  have la_m_mdt4_t101 : m_la t101 (m_md t4) = (m_md t24) + 1 := by rw [j_t101.2.2.1]; exact la_m_mdt4_t100
                  have wl_m_mdt4_t101 : m_wh t101 ((m_md t24)) = 13 := by rw [j_t101.1]; exact wl_m_mdt4_t100
                  clear la_m_mdt4_t100 wl_m_mdt4_t100
                  have la_m_mdt24_t101 : m_la t101 (m_md t24) = (m_md t26) + 1 := by rw [j_t101.2.2.1]; exact la_m_mdt24_t100
                  have wl_m_mdt24_t101 : m_wh t101 ((m_md t26)) = 29 := by rw [j_t101.1]; exact wl_m_mdt24_t100
                  clear la_m_mdt24_t100 wl_m_mdt24_t100
                  refine Ok_ret (show Ok _ _ _ from ?_)
                  refine Ok_ret (show Ok _ _ _ from ?_)
                  have h56 : N56 t101 (m_md t4) [(4, m_md t24, 3), (20, m_md t26, 0), (21, m_md t26, 0)] := N56_mk hv_m_mdt4_t101 la_m_mdt4_t101 (by omega) (by omega) (by omega) (by omega) (fun y hy => by cases hy; show m_md t24 ≤ m_md t24; omega) I_n_t101 I_m_mdt24_t101 u_m_mdt24_t101 x69_t101 (Or.inl f_m_mdt24_t101)
                  refine Hv_mk (Kv_c (x := (21, m_md t26, 0)) rfl (Kv_c (x := (20, m_md t26, 0)) rfl (Kv_c (x := (4, m_md t24, 3)) rfl (Kv_c (x := (56, m_md t4, 2)) rfl hK)))) (C_t101.1.2.2.2.2.2.2 hTt) C_t101 hT (by omega) (by omega) (by omega) ?_ ?_ ?_ (by omega) ?_ ?_ ?_
                  · exact ⟨(Io_n (by decide) (by decide) I_m_mdt26_t101.1 I_m_mdt26_t101.2.1 I_m_mdt26_t101.2.2.1 (fun q => absurd q (by decide)) (fun q => absurd q (by decide)) I_m_mdt26_t101.2.2.2), (Nd_0 (by decide) Mo_nil), ⟨(Io_n (by decide) (by decide) I_m_mdt26_t101.1 I_m_mdt26_t101.2.1 I_m_mdt26_t101.2.2.1 (fun q => absurd q (by decide)) (fun q => absurd q (by decide)) I_m_mdt26_t101.2.2.2), (Nd_0 (by decide) (Mo_cons (fun q => show m_md t26 ≤ m_md t26 from by omega) Mo_nil)), ⟨(Io_n (by decide) (by decide) I_m_mdt24_t101.1 I_m_mdt24_t101.2.1 I_m_mdt24_t101.2.2.1 (fun q => absurd q (by decide)) (fun q => absurd q (by decide)) I_m_mdt24_t101.2.2.2), (Nd_A (by decide) (Mo_cons (fun q => show m_md t24 ≤ m_md t26 from by omega) (Mo_cons (fun q => show m_md t24 ≤ m_md t26 from by omega) Mo_nil)) (Or.inl f_m_mdt24_t101)), ⟨(Io_n (by decide) (by decide) I_m_mdt4_t101.1 I_m_mdt4_t101.2.1 I_m_mdt4_t101.2.2.1 (fun q => absurd q (by decide)) (fun q => absurd q (by decide)) I_m_mdt4_t101.2.2.2), (Nd_56 (Mo_cons (fun q => show m_md t4 ≤ m_md t24 from by omega) (Mo_cons (fun q => show m_md t4 ≤ m_md t26 from by omega) (Mo_cons (fun q => show m_md t4 ≤ m_md t26 from by omega) Mo_nil))) (fun _ => h56)), Stk_step (N := n) (pop := (42, n, t)) (new := [(56, m_md t4, 2), (4, m_md t24, 3), (20, m_md t26, 0), (21, m_md t26, 0)]) F0 C_t101.1.to2 (fun (h : nk 42 = false) => absurd h (by decide)) (fun q _ h => h (42, n, t) rfl) (fun _ => rfl) (fun y hy hk => ⟨rfl, (Mo_cons (fun q => show n ≤ m_md t4 from by omega) (Mo_cons (fun q => show n ≤ m_md t24 from by omega) (Mo_cons (fun q => show n ≤ m_md t26 from by omega) (Mo_cons (fun q => show n ≤ m_md t26 from by omega) Mo_nil)))) y hy hk⟩) (fun (h : 42 = 3 ∨ 42 = 18 ∨ 42 = 41) => absurd h (by decide)) (fun (h : 42 = 18) => absurd h (by decide)) (fun _ h16 => (Or.inr ⟨f_n_t101, (Ab_some (y := (56, m_md t4, 2)) rfl (show n < m_md t4 from by omega)), H50_no la_n_t101 wl_n_t101 (by decide)⟩)) r [] (fun y hy => absurd hy List.not_mem_nil) hS⟩⟩⟩⟩
                  · exact (Aj_up (x := (21, m_md t26, 0)) (Aj_up (x := (20, m_md t26, 0)) (Aj_up (x := (4, m_md t24, 3)) (Aj_sub (y := (56, m_md t4, 2)) hJ (Nat.le_of_ble_eq_true rfl)) (Or.inr (Nat.le_of_ble_eq_true rfl))) (Or.inr (Nat.le_of_ble_eq_true rfl))) (Or.inl (Nat.le_of_ble_eq_true rfl)))
                  · show m_dp t101 = (dlt 21 + (dlt 20 + (dlt 4 + (dlt 56 + sD r))))
                    have : dlt 20 = 1 := rfl; have : dlt 21 = 0 := rfl; have : dlt 4 = 0 := rfl; have : dlt 42 = 0 := rfl; have : dlt 56 = 0 := rfl; omega
                  · show m_rw t101 = (rho 21 + (rho 20 + (rho 4 + (rho 56 + sR r))))
                    have : rho 20 = 0 := rfl; have : rho 21 = 0 := rfl; have : rho 4 = 0 := rfl; have : rho 42 = 0 := rfl; have : rho 56 = 0 := rfl; omega
                  · show m_md t101 + (mu7 21 + (mu7 20 + (mu7 4 + (mu7 56 + sM r)))) ≤ 3 * m_at t101 + 7 * (r.length + 1 + 1 + 1 + 1) + 10
                    have : mu7 20 = 7 := rfl; have : mu7 21 = 3 := rfl; have : mu7 4 = 7 := rfl; have : mu7 42 = 8 := rfl; have : mu7 56 = 7 := rfl; omega
                  · show (wt 21 + (wt 20 + (wt 4 + (wt 56 + sW r)))) + 6 * (4096 - m_at t101) + 4 * (600 - (r.length + 1 + 1 + 1 + 1)) < (wt 42 + sW r) + 6 * (4096 - m_at t0) + 4 * (600 - (r.length + 1))
                    have : wt 20 = 5 := rfl; have : wt 21 = 2 := rfl; have : wt 4 = 5 := rfl; have : wt 42 = 5 := rfl; have : wt 56 = 5 := rfl; omega
                · have w_t98 := Nat.pos_of_ne_zero w_t98
                  have I_n_t98 := I_n_t97.flat X_t98
                  have f_n_t98 := f_n_t97.ex I_n_t97 (X_t98 0)
                  have u_n_t98 := u_n_t97.ex I_n_t97 (X_t98 0)
                  have I_m_mdt4_t98 := I_m_mdt4_t97.flat X_t98
                  have f_m_mdt4_t98 := f_m_mdt4_t97.ex I_m_mdt4_t97 (X_t98 0)
                  have I_m_mdt24_t98 := I_m_mdt24_t97.flat X_t98
                  have f_m_mdt24_t98 := f_m_mdt24_t97.ex I_m_mdt24_t97 (X_t98 0)
                  have u_m_mdt24_t98 := u_m_mdt24_t97.ex I_m_mdt24_t97 (X_t98 0)
                  have I_m_mdt26_t98 := I_m_mdt26_t97.flat X_t98
                  have u_m_mdt26_t98 := u_m_mdt26_t97.ex I_m_mdt26_t97 (X_t98 0)
                  have hv_m_mdt4_t98 : V56 t98 (m_md t4) (m_md t0) n := hv_m_mdt4_t97.flat j_t98
                  have x69_t98 : U69 t98 (m_md t24) := U69_flat j_t98 x69_t97
                  have la_n_t98 : m_la t98 n = (m_md t4) + 1 := by rw [j_t98.2.2.1]; exact la_n_t97
                  have wl_n_t98 : m_wh t98 ((m_md t4)) = 56 := by rw [j_t98.1]; exact wl_n_t97
                  clear la_n_t97 wl_n_t97
                  have la_m_mdt4_t98 : m_la t98 (m_md t4) = (m_md t24) + 1 := by rw [j_t98.2.2.1]; exact la_m_mdt4_t97
                  have wl_m_mdt4_t98 : m_wh t98 ((m_md t24)) = 13 := by rw [j_t98.1]; exact wl_m_mdt4_t97
                  clear la_m_mdt4_t97 wl_m_mdt4_t97
                  have la_m_mdt24_t98 : m_la t98 (m_md t24) = (m_md t26) + 1 := by rw [j_t98.2.2.1]; exact la_m_mdt24_t97
                  have wl_m_mdt24_t98 : m_wh t98 ((m_md t26)) = 29 := by rw [j_t98.1]; exact wl_m_mdt24_t97
                  clear la_m_mdt24_t97 wl_m_mdt24_t97
                  refine Kp_at C_t98 (fun t102 C_t102 X_t102 a_t102 b_t102 d_t102 w_t102 u_t102 v_t102 j_t102 l_t102 => ?_)
                  have e_t102 := C_t102.2.2.2.1
                  have I_n_t102 := I_n_t98.flat X_t102
                  have f_n_t102 := f_n_t98.ex I_n_t98 (X_t102 0)
                  have u_n_t102 := u_n_t98.ex I_n_t98 (X_t102 0)
                  have I_m_mdt4_t102 := I_m_mdt4_t98.flat X_t102
                  have f_m_mdt4_t102 := f_m_mdt4_t98.ex I_m_mdt4_t98 (X_t102 0)
                  have I_m_mdt24_t102 := I_m_mdt24_t98.flat X_t102
                  have f_m_mdt24_t102 := f_m_mdt24_t98.ex I_m_mdt24_t98 (X_t102 0)
                  have u_m_mdt24_t102 := u_m_mdt24_t98.ex I_m_mdt24_t98 (X_t102 0)
                  have I_m_mdt26_t102 := I_m_mdt26_t98.flat X_t102
                  have u_m_mdt26_t102 := u_m_mdt26_t98.ex I_m_mdt26_t98 (X_t102 0)
                  have hv_m_mdt4_t102 : V56 t102 (m_md t4) (m_md t0) n := hv_m_mdt4_t98.flat j_t102
                  have x69_t102 : U69 t102 (m_md t24) := U69_flat j_t102 x69_t98
                  have la_n_t102 : m_la t102 n = (m_md t4) + 1 := by rw [j_t102.2.2.1]; exact la_n_t98
                  have wl_n_t102 : m_wh t102 ((m_md t4)) = 56 := by rw [j_t102.1]; exact wl_n_t98
                  clear la_n_t98 wl_n_t98
                  have la_m_mdt4_t102 : m_la t102 (m_md t4) = (m_md t24) + 1 := by rw [j_t102.2.2.1]; exact la_m_mdt4_t98
                  have wl_m_mdt4_t102 : m_wh t102 ((m_md t24)) = 13 := by rw [j_t102.1]; exact wl_m_mdt4_t98
                  clear la_m_mdt4_t98 wl_m_mdt4_t98
                  have la_m_mdt24_t102 : m_la t102 (m_md t24) = (m_md t26) + 1 := by rw [j_t102.2.2.1]; exact la_m_mdt24_t98
                  have wl_m_mdt24_t102 : m_wh t102 ((m_md t26)) = 29 := by rw [j_t102.1]; exact wl_m_mdt24_t98
                  clear la_m_mdt24_t98 wl_m_mdt24_t98
                  refine Kp_push C_t102 (by omega) (fun t103 C_t103 X_t103 a_t103 b_t103 d_t103 w_t103 u_t103 v_t103 j_t103 l_t103 => ?_)
                  have e_t103 := C_t103.2.2.2.1
                  have I_n_t103 := I_n_t102.flat X_t103
                  have f_n_t103 := f_n_t102.ex I_n_t102 (X_t103 0)
                  have u_n_t103 := u_n_t102.ex I_n_t102 (X_t103 0)
                  have I_m_mdt4_t103 := I_m_mdt4_t102.flat X_t103
                  have f_m_mdt4_t103 := f_m_mdt4_t102.ex I_m_mdt4_t102 (X_t103 0)
                  have I_m_mdt24_t103 := I_m_mdt24_t102.flat X_t103
                  have f_m_mdt24_t103 := f_m_mdt24_t102.ex I_m_mdt24_t102 (X_t103 0)
                  have u_m_mdt24_t103 := u_m_mdt24_t102.ex I_m_mdt24_t102 (X_t103 0)
                  have I_m_mdt26_t103 := I_m_mdt26_t102.flat X_t103
                  have u_m_mdt26_t103 := u_m_mdt26_t102.ex I_m_mdt26_t102 (X_t103 0)
                  have hv_m_mdt4_t103 : V56 t103 (m_md t4) (m_md t0) n := hv_m_mdt4_t102.flat j_t103
                  have x69_t103 : U69 t103 (m_md t24) := U69_flat j_t103 x69_t102
                  have la_n_t103 : m_la t103 n = (m_md t4) + 1 := by rw [j_t103.2.2.1]; exact la_n_t102
                  have wl_n_t103 : m_wh t103 ((m_md t4)) = 56 := by rw [j_t103.1]; exact wl_n_t102
                  clear la_n_t102 wl_n_t102
                  have la_m_mdt4_t103 : m_la t103 (m_md t4) = (m_md t24) + 1 := by rw [j_t103.2.2.1]; exact la_m_mdt4_t102
                  have wl_m_mdt4_t103 : m_wh t103 ((m_md t24)) = 13 := by rw [j_t103.1]; exact wl_m_mdt4_t102
                  clear la_m_mdt4_t102 wl_m_mdt4_t102
                  have la_m_mdt24_t103 : m_la t103 (m_md t24) = (m_md t26) + 1 := by rw [j_t103.2.2.1]; exact la_m_mdt24_t102
                  have wl_m_mdt24_t103 : m_wh t103 ((m_md t26)) = 29 := by rw [j_t103.1]; exact wl_m_mdt24_t102
                  clear la_m_mdt24_t102 wl_m_mdt24_t102
                  refine Kp_push C_t103 (by omega) (fun t104 C_t104 X_t104 a_t104 b_t104 d_t104 w_t104 u_t104 v_t104 j_t104 l_t104 => ?_)
                  have e_t104 := C_t104.2.2.2.1
                  have I_n_t104 := I_n_t103.flat X_t104
                  have f_n_t104 := f_n_t103.ex I_n_t103 (X_t104 0)
                  have u_n_t104 := u_n_t103.ex I_n_t103 (X_t104 0)
                  have I_m_mdt4_t104 := I_m_mdt4_t103.flat X_t104
                  have f_m_mdt4_t104 := f_m_mdt4_t103.ex I_m_mdt4_t103 (X_t104 0)
                  have I_m_mdt24_t104 := I_m_mdt24_t103.flat X_t104
                  have f_m_mdt24_t104 := f_m_mdt24_t103.ex I_m_mdt24_t103 (X_t104 0)
                  have u_m_mdt24_t104 := u_m_mdt24_t103.ex I_m_mdt24_t103 (X_t104 0)
                  have I_m_mdt26_t104 := I_m_mdt26_t103.flat X_t104
                  have u_m_mdt26_t104 := u_m_mdt26_t103.ex I_m_mdt26_t103 (X_t104 0)
                  have hv_m_mdt4_t104 : V56 t104 (m_md t4) (m_md t0) n := hv_m_mdt4_t103.flat j_t104
                  have x69_t104 : U69 t104 (m_md t24) := U69_flat j_t104 x69_t103
                  have la_n_t104 : m_la t104 n = (m_md t4) + 1 := by rw [j_t104.2.2.1]; exact la_n_t103
                  have wl_n_t104 : m_wh t104 ((m_md t4)) = 56 := by rw [j_t104.1]; exact wl_n_t103
                  clear la_n_t103 wl_n_t103
                  have la_m_mdt4_t104 : m_la t104 (m_md t4) = (m_md t24) + 1 := by rw [j_t104.2.2.1]; exact la_m_mdt4_t103
                  have wl_m_mdt4_t104 : m_wh t104 ((m_md t24)) = 13 := by rw [j_t104.1]; exact wl_m_mdt4_t103
                  clear la_m_mdt4_t103 wl_m_mdt4_t103
                  have la_m_mdt24_t104 : m_la t104 (m_md t24) = (m_md t26) + 1 := by rw [j_t104.2.2.1]; exact la_m_mdt24_t103
                  have wl_m_mdt24_t104 : m_wh t104 ((m_md t26)) = 29 := by rw [j_t104.1]; exact wl_m_mdt24_t103
                  clear la_m_mdt24_t103 wl_m_mdt24_t103
                  refine Ok_ret (show Ok _ _ _ from ?_)
                  refine Ok_ret (show Ok _ _ _ from ?_)
                  exact Or.inl ⟨Nat.ne_of_gt (show 0 < m_wr t104 from by omega), by omega, by omega, C_t104.2.2.2.2.2, by omega⟩
              · refine Ok_ife (Nat.lt_trans (lo_lt (C_t26.tk hT) _) (by decide)) (by decide) (fun q105 => ?_) (fun q105 => ?_)
                · refine Kp_push C_t26 (by omega) (fun t106 C_t106 X_t106 a_t106 b_t106 d_t106 w_t106 u_t106 v_t106 j_t106 l_t106 => ?_)
                  have e_t106 := C_t106.2.2.2.1
                  rw [a_t26] at a_t106
                  rw [b_t26] at b_t106
                  rw [d_t26] at d_t106
                  rw [w_t26] at w_t106
                  rw [u_t26] at u_t106
                  rw [v_t26] at v_t106
                  clear d_t26 w_t26 u_t26 v_t26 e_t26 a_t26 b_t26
                  have I_n_t106 := I_n_t26.flat X_t106
                  have f_n_t106 := f_n_t26.ex I_n_t26 (X_t106 0)
                  have u_n_t106 := u_n_t26.ex I_n_t26 (X_t106 0)
                  have I_m_mdt4_t106 := I_m_mdt4_t26.flat X_t106
                  have f_m_mdt4_t106 := f_m_mdt4_t26.ex I_m_mdt4_t26 (X_t106 0)
                  have I_m_mdt24_t106 := I_m_mdt24_t26.flat X_t106
                  have u_m_mdt24_t106 := u_m_mdt24_t26.ex I_m_mdt24_t26 (X_t106 0)
                  have hv_m_mdt4_t106 : V56 t106 (m_md t4) (m_md t0) n := hv_m_mdt4_t26.flat j_t106
                  have x69_t106 : U69 t106 (m_md t24) := U69_flat j_t106 x69_t26
                  have la_n_t106 : m_la t106 n = (m_md t4) + 1 := by rw [j_t106.2.2.1]; exact la_n_t26
                  have wl_n_t106 : m_wh t106 ((m_md t4)) = 56 := by rw [j_t106.1]; exact wl_n_t26
                  clear la_n_t26 wl_n_t26
                  have la_m_mdt4_t106 : m_la t106 (m_md t4) = (m_md t24) + 1 := by rw [j_t106.2.2.1]; exact la_m_mdt4_t26
                  have wl_m_mdt4_t106 : m_wh t106 ((m_md t24)) = 13 := by rw [j_t106.1]; exact wl_m_mdt4_t26
                  clear la_m_mdt4_t26 wl_m_mdt4_t26
                  refine Kp_push C_t106 (by omega) (fun t107 C_t107 X_t107 a_t107 b_t107 d_t107 w_t107 u_t107 v_t107 j_t107 l_t107 => ?_)
                  have e_t107 := C_t107.2.2.2.1
                  rw [a_t106] at a_t107
                  rw [b_t106] at b_t107
                  rw [d_t106] at d_t107
                  rw [w_t106] at w_t107
                  rw [u_t106] at u_t107
                  rw [v_t106] at v_t107
                  clear d_t106 w_t106 u_t106 v_t106 e_t106 a_t106 b_t106
                  have I_n_t107 := I_n_t106.flat X_t107
                  have f_n_t107 := f_n_t106.ex I_n_t106 (X_t107 0)
                  have u_n_t107 := u_n_t106.ex I_n_t106 (X_t107 0)
                  have I_m_mdt4_t107 := I_m_mdt4_t106.flat X_t107
                  have f_m_mdt4_t107 := f_m_mdt4_t106.ex I_m_mdt4_t106 (X_t107 0)
                  have I_m_mdt24_t107 := I_m_mdt24_t106.flat X_t107
                  have u_m_mdt24_t107 := u_m_mdt24_t106.ex I_m_mdt24_t106 (X_t107 0)
                  have hv_m_mdt4_t107 : V56 t107 (m_md t4) (m_md t0) n := hv_m_mdt4_t106.flat j_t107
                  have x69_t107 : U69 t107 (m_md t24) := U69_flat j_t107 x69_t106
                  have la_n_t107 : m_la t107 n = (m_md t4) + 1 := by rw [j_t107.2.2.1]; exact la_n_t106
                  have wl_n_t107 : m_wh t107 ((m_md t4)) = 56 := by rw [j_t107.1]; exact wl_n_t106
                  clear la_n_t106 wl_n_t106
                  have la_m_mdt4_t107 : m_la t107 (m_md t4) = (m_md t24) + 1 := by rw [j_t107.2.2.1]; exact la_m_mdt4_t106
                  have wl_m_mdt4_t107 : m_wh t107 ((m_md t24)) = 13 := by rw [j_t107.1]; exact wl_m_mdt4_t106
                  clear la_m_mdt4_t106 wl_m_mdt4_t106
                  refine Ok_ret (show Ok _ _ _ from ?_)
                  refine Ok_ret (show Ok _ _ _ from ?_)
                  have h56 : N56 t107 (m_md t4) [(4, m_md t24, 3), (5, m_md t24, 3), (18, m_md t24, 1)] := N56_mk hv_m_mdt4_t107 la_m_mdt4_t107 (by omega) (by omega) (by omega) (by omega) (fun y hy => by cases hy; show m_md t24 ≤ m_md t24; omega) I_n_t107 I_m_mdt24_t107 u_m_mdt24_t107 x69_t107 (Or.inr ⟨(18, m_md t24, 1), (List.mem_cons_of_mem _ (List.mem_cons_of_mem _ List.mem_cons_self)), rfl, Or.inr (Or.inl rfl)⟩)
                  refine Hv_mk (Kv_c (x := (18, m_md t24, 1)) rfl (Kv_c (x := (5, m_md t24, 3)) rfl (Kv_c (x := (4, m_md t24, 3)) rfl (Kv_c (x := (56, m_md t4, 2)) rfl hK)))) (C_t107.1.2.2.2.2.2.2 hTt) C_t107 hT (by omega) (by omega) (by omega) ?_ ?_ ?_ (by omega) ?_ ?_ ?_
                  · exact ⟨(Io_n (by decide) (by decide) I_m_mdt24_t107.1 I_m_mdt24_t107.2.1 I_m_mdt24_t107.2.2.1 (fun q => absurd q (by decide)) (fun q => absurd q (by decide)) I_m_mdt24_t107.2.2.2), (Nd_0 (by decide) Mo_nil), ⟨(Io_n (by decide) (by decide) I_m_mdt24_t107.1 I_m_mdt24_t107.2.1 I_m_mdt24_t107.2.2.1 (fun q => absurd q (by decide)) (fun q => absurd q (by decide)) I_m_mdt24_t107.2.2.2), (Nd_5 (Mo_cons (fun q => show m_md t24 ≤ m_md t24 from by omega) Mo_nil) (Or.inl ⟨1, rfl⟩)), ⟨(Io_n (by decide) (by decide) I_m_mdt24_t107.1 I_m_mdt24_t107.2.1 I_m_mdt24_t107.2.2.1 (fun q => absurd q (by decide)) (fun q => absurd q (by decide)) I_m_mdt24_t107.2.2.2), (Nd_A (by decide) (Mo_cons (fun q => show m_md t24 ≤ m_md t24 from by omega) (Mo_cons (fun q => show m_md t24 ≤ m_md t24 from by omega) Mo_nil)) (Or.inr ⟨(18, m_md t24, 1), (List.mem_cons_of_mem _ List.mem_cons_self), rfl, Or.inr (Or.inl rfl)⟩)), ⟨(Io_n (by decide) (by decide) I_m_mdt4_t107.1 I_m_mdt4_t107.2.1 I_m_mdt4_t107.2.2.1 (fun q => absurd q (by decide)) (fun q => absurd q (by decide)) I_m_mdt4_t107.2.2.2), (Nd_56 (Mo_cons (fun q => show m_md t4 ≤ m_md t24 from by omega) (Mo_cons (fun q => show m_md t4 ≤ m_md t24 from by omega) (Mo_cons (fun q => show m_md t4 ≤ m_md t24 from by omega) Mo_nil))) (fun _ => h56)), Stk_step (N := n) (pop := (42, n, t)) (new := [(56, m_md t4, 2), (4, m_md t24, 3), (5, m_md t24, 3), (18, m_md t24, 1)]) F0 C_t107.1.to2 (fun (h : nk 42 = false) => absurd h (by decide)) (fun q _ h => h (42, n, t) rfl) (fun _ => rfl) (fun y hy hk => ⟨rfl, (Mo_cons (fun q => show n ≤ m_md t4 from by omega) (Mo_cons (fun q => show n ≤ m_md t24 from by omega) (Mo_cons (fun q => show n ≤ m_md t24 from by omega) (Mo_cons (fun q => show n ≤ m_md t24 from by omega) Mo_nil)))) y hy hk⟩) (fun (h : 42 = 3 ∨ 42 = 18 ∨ 42 = 41) => absurd h (by decide)) (fun (h : 42 = 18) => absurd h (by decide)) (fun _ h16 => (Or.inr ⟨f_n_t107, (Ab_some (y := (56, m_md t4, 2)) rfl (show n < m_md t4 from by omega)), H50_no la_n_t107 wl_n_t107 (by decide)⟩)) r [] (fun y hy => absurd hy List.not_mem_nil) hS⟩⟩⟩⟩
                  · exact (Aj_up (x := (18, m_md t24, 1)) (Aj_up (x := (5, m_md t24, 3)) (Aj_up (x := (4, m_md t24, 3)) (Aj_sub (y := (56, m_md t4, 2)) hJ (Nat.le_of_ble_eq_true rfl)) (Or.inr (Nat.le_of_ble_eq_true rfl))) (Or.inr (Nat.le_of_ble_eq_true rfl))) (Or.inr (Nat.le_of_ble_eq_true rfl)))
                  · show m_dp t107 = (dlt 18 + (dlt 5 + (dlt 4 + (dlt 56 + sD r))))
                    have : dlt 18 = 0 := rfl; have : dlt 4 = 0 := rfl; have : dlt 42 = 0 := rfl; have : dlt 5 = 0 := rfl; have : dlt 56 = 0 := rfl; omega
                  · show m_rw t107 = (rho 18 + (rho 5 + (rho 4 + (rho 56 + sR r))))
                    have : rho 18 = 0 := rfl; have : rho 4 = 0 := rfl; have : rho 42 = 0 := rfl; have : rho 5 = 0 := rfl; have : rho 56 = 0 := rfl; omega
                  · show m_md t107 + (mu7 18 + (mu7 5 + (mu7 4 + (mu7 56 + sM r)))) ≤ 3 * m_at t107 + 7 * (r.length + 1 + 1 + 1 + 1) + 10
                    have : mu7 18 = 5 := rfl; have : mu7 4 = 7 := rfl; have : mu7 42 = 8 := rfl; have : mu7 5 = 7 := rfl; have : mu7 56 = 7 := rfl; omega
                  · show (wt 18 + (wt 5 + (wt 4 + (wt 56 + sW r)))) + 6 * (4096 - m_at t107) + 4 * (600 - (r.length + 1 + 1 + 1 + 1)) < (wt 42 + sW r) + 6 * (4096 - m_at t0) + 4 * (600 - (r.length + 1))
                    have : wt 18 = 0 := rfl; have : wt 4 = 5 := rfl; have : wt 42 = 5 := rfl; have : wt 5 = 5 := rfl; have : wt 56 = 5 := rfl; omega
                · refine Ok_ife (Nat.lt_trans (lo_lt (C_t26.tk hT) _) (by decide)) (by decide) (fun q108 => ?_) (fun q108 => ?_)
                  · refine Kp_push C_t26 (by omega) (fun t109 C_t109 X_t109 a_t109 b_t109 d_t109 w_t109 u_t109 v_t109 j_t109 l_t109 => ?_)
                    have e_t109 := C_t109.2.2.2.1
                    rw [a_t26] at a_t109
                    rw [b_t26] at b_t109
                    rw [d_t26] at d_t109
                    rw [w_t26] at w_t109
                    rw [u_t26] at u_t109
                    rw [v_t26] at v_t109
                    clear d_t26 w_t26 u_t26 v_t26 e_t26 a_t26 b_t26
                    have I_n_t109 := I_n_t26.flat X_t109
                    have f_n_t109 := f_n_t26.ex I_n_t26 (X_t109 0)
                    have u_n_t109 := u_n_t26.ex I_n_t26 (X_t109 0)
                    have I_m_mdt4_t109 := I_m_mdt4_t26.flat X_t109
                    have f_m_mdt4_t109 := f_m_mdt4_t26.ex I_m_mdt4_t26 (X_t109 0)
                    have I_m_mdt24_t109 := I_m_mdt24_t26.flat X_t109
                    have u_m_mdt24_t109 := u_m_mdt24_t26.ex I_m_mdt24_t26 (X_t109 0)
                    have hv_m_mdt4_t109 : V56 t109 (m_md t4) (m_md t0) n := hv_m_mdt4_t26.flat j_t109
                    have x69_t109 : U69 t109 (m_md t24) := U69_flat j_t109 x69_t26
                    have la_n_t109 : m_la t109 n = (m_md t4) + 1 := by rw [j_t109.2.2.1]; exact la_n_t26
                    have wl_n_t109 : m_wh t109 ((m_md t4)) = 56 := by rw [j_t109.1]; exact wl_n_t26
                    clear la_n_t26 wl_n_t26
                    have la_m_mdt4_t109 : m_la t109 (m_md t4) = (m_md t24) + 1 := by rw [j_t109.2.2.1]; exact la_m_mdt4_t26
                    have wl_m_mdt4_t109 : m_wh t109 ((m_md t24)) = 13 := by rw [j_t109.1]; exact wl_m_mdt4_t26
                    clear la_m_mdt4_t26 wl_m_mdt4_t26
                    refine Kp_push C_t109 (by omega) (fun t110 C_t110 X_t110 a_t110 b_t110 d_t110 w_t110 u_t110 v_t110 j_t110 l_t110 => ?_)
                    have e_t110 := C_t110.2.2.2.1
                    rw [a_t109] at a_t110
                    rw [b_t109] at b_t110
                    rw [d_t109] at d_t110
                    rw [w_t109] at w_t110
                    rw [u_t109] at u_t110
                    rw [v_t109] at v_t110
                    clear d_t109 w_t109 u_t109 v_t109 e_t109 a_t109 b_t109
                    have I_n_t110 := I_n_t109.flat X_t110
                    have f_n_t110 := f_n_t109.ex I_n_t109 (X_t110 0)
                    have u_n_t110 := u_n_t109.ex I_n_t109 (X_t110 0)
                    have I_m_mdt4_t110 := I_m_mdt4_t109.flat X_t110
                    have f_m_mdt4_t110 := f_m_mdt4_t109.ex I_m_mdt4_t109 (X_t110 0)
                    have I_m_mdt24_t110 := I_m_mdt24_t109.flat X_t110
                    have u_m_mdt24_t110 := u_m_mdt24_t109.ex I_m_mdt24_t109 (X_t110 0)
                    have hv_m_mdt4_t110 : V56 t110 (m_md t4) (m_md t0) n := hv_m_mdt4_t109.flat j_t110
                    have x69_t110 : U69 t110 (m_md t24) := U69_flat j_t110 x69_t109
                    have la_n_t110 : m_la t110 n = (m_md t4) + 1 := by rw [j_t110.2.2.1]; exact la_n_t109
                    have wl_n_t110 : m_wh t110 ((m_md t4)) = 56 := by rw [j_t110.1]; exact wl_n_t109
                    clear la_n_t109 wl_n_t109
                    have la_m_mdt4_t110 : m_la t110 (m_md t4) = (m_md t24) + 1 := by rw [j_t110.2.2.1]; exact la_m_mdt4_t109
                    have wl_m_mdt4_t110 : m_wh t110 ((m_md t24)) = 13 := by rw [j_t110.1]; exact wl_m_mdt4_t109
                    clear la_m_mdt4_t109 wl_m_mdt4_t109
                    refine Ok_ret (show Ok _ _ _ from ?_)
                    refine Ok_ret (show Ok _ _ _ from ?_)
                    have h56 : N56 t110 (m_md t4) [(4, m_md t24, 3), (5, m_md t24, 3), (18, m_md t24, 1)] := N56_mk hv_m_mdt4_t110 la_m_mdt4_t110 (by omega) (by omega) (by omega) (by omega) (fun y hy => by cases hy; show m_md t24 ≤ m_md t24; omega) I_n_t110 I_m_mdt24_t110 u_m_mdt24_t110 x69_t110 (Or.inr ⟨(18, m_md t24, 1), (List.mem_cons_of_mem _ (List.mem_cons_of_mem _ List.mem_cons_self)), rfl, Or.inr (Or.inl rfl)⟩)
                    refine Hv_mk (Kv_c (x := (18, m_md t24, 1)) rfl (Kv_c (x := (5, m_md t24, 3)) rfl (Kv_c (x := (4, m_md t24, 3)) rfl (Kv_c (x := (56, m_md t4, 2)) rfl hK)))) (C_t110.1.2.2.2.2.2.2 hTt) C_t110 hT (by omega) (by omega) (by omega) ?_ ?_ ?_ (by omega) ?_ ?_ ?_
                    · exact ⟨(Io_n (by decide) (by decide) I_m_mdt24_t110.1 I_m_mdt24_t110.2.1 I_m_mdt24_t110.2.2.1 (fun q => absurd q (by decide)) (fun q => absurd q (by decide)) I_m_mdt24_t110.2.2.2), (Nd_0 (by decide) Mo_nil), ⟨(Io_n (by decide) (by decide) I_m_mdt24_t110.1 I_m_mdt24_t110.2.1 I_m_mdt24_t110.2.2.1 (fun q => absurd q (by decide)) (fun q => absurd q (by decide)) I_m_mdt24_t110.2.2.2), (Nd_5 (Mo_cons (fun q => show m_md t24 ≤ m_md t24 from by omega) Mo_nil) (Or.inl ⟨1, rfl⟩)), ⟨(Io_n (by decide) (by decide) I_m_mdt24_t110.1 I_m_mdt24_t110.2.1 I_m_mdt24_t110.2.2.1 (fun q => absurd q (by decide)) (fun q => absurd q (by decide)) I_m_mdt24_t110.2.2.2), (Nd_A (by decide) (Mo_cons (fun q => show m_md t24 ≤ m_md t24 from by omega) (Mo_cons (fun q => show m_md t24 ≤ m_md t24 from by omega) Mo_nil)) (Or.inr ⟨(18, m_md t24, 1), (List.mem_cons_of_mem _ List.mem_cons_self), rfl, Or.inr (Or.inl rfl)⟩)), ⟨(Io_n (by decide) (by decide) I_m_mdt4_t110.1 I_m_mdt4_t110.2.1 I_m_mdt4_t110.2.2.1 (fun q => absurd q (by decide)) (fun q => absurd q (by decide)) I_m_mdt4_t110.2.2.2), (Nd_56 (Mo_cons (fun q => show m_md t4 ≤ m_md t24 from by omega) (Mo_cons (fun q => show m_md t4 ≤ m_md t24 from by omega) (Mo_cons (fun q => show m_md t4 ≤ m_md t24 from by omega) Mo_nil))) (fun _ => h56)), Stk_step (N := n) (pop := (42, n, t)) (new := [(56, m_md t4, 2), (4, m_md t24, 3), (5, m_md t24, 3), (18, m_md t24, 1)]) F0 C_t110.1.to2 (fun (h : nk 42 = false) => absurd h (by decide)) (fun q _ h => h (42, n, t) rfl) (fun _ => rfl) (fun y hy hk => ⟨rfl, (Mo_cons (fun q => show n ≤ m_md t4 from by omega) (Mo_cons (fun q => show n ≤ m_md t24 from by omega) (Mo_cons (fun q => show n ≤ m_md t24 from by omega) (Mo_cons (fun q => show n ≤ m_md t24 from by omega) Mo_nil)))) y hy hk⟩) (fun (h : 42 = 3 ∨ 42 = 18 ∨ 42 = 41) => absurd h (by decide)) (fun (h : 42 = 18) => absurd h (by decide)) (fun _ h16 => (Or.inr ⟨f_n_t110, (Ab_some (y := (56, m_md t4, 2)) rfl (show n < m_md t4 from by omega)), H50_no la_n_t110 wl_n_t110 (by decide)⟩)) r [] (fun y hy => absurd hy List.not_mem_nil) hS⟩⟩⟩⟩
                    · exact (Aj_up (x := (18, m_md t24, 1)) (Aj_up (x := (5, m_md t24, 3)) (Aj_up (x := (4, m_md t24, 3)) (Aj_sub (y := (56, m_md t4, 2)) hJ (Nat.le_of_ble_eq_true rfl)) (Or.inr (Nat.le_of_ble_eq_true rfl))) (Or.inr (Nat.le_of_ble_eq_true rfl))) (Or.inr (Nat.le_of_ble_eq_true rfl)))
                    · show m_dp t110 = (dlt 18 + (dlt 5 + (dlt 4 + (dlt 56 + sD r))))
                      have : dlt 18 = 0 := rfl; have : dlt 4 = 0 := rfl; have : dlt 42 = 0 := rfl; have : dlt 5 = 0 := rfl; have : dlt 56 = 0 := rfl; omega
                    · show m_rw t110 = (rho 18 + (rho 5 + (rho 4 + (rho 56 + sR r))))
                      have : rho 18 = 0 := rfl; have : rho 4 = 0 := rfl; have : rho 42 = 0 := rfl; have : rho 5 = 0 := rfl; have : rho 56 = 0 := rfl; omega
                    · show m_md t110 + (mu7 18 + (mu7 5 + (mu7 4 + (mu7 56 + sM r)))) ≤ 3 * m_at t110 + 7 * (r.length + 1 + 1 + 1 + 1) + 10
                      have : mu7 18 = 5 := rfl; have : mu7 4 = 7 := rfl; have : mu7 42 = 8 := rfl; have : mu7 5 = 7 := rfl; have : mu7 56 = 7 := rfl; omega
                    · show (wt 18 + (wt 5 + (wt 4 + (wt 56 + sW r)))) + 6 * (4096 - m_at t110) + 4 * (600 - (r.length + 1 + 1 + 1 + 1)) < (wt 42 + sW r) + 6 * (4096 - m_at t0) + 4 * (600 - (r.length + 1))
                      have : wt 18 = 0 := rfl; have : wt 4 = 5 := rfl; have : wt 42 = 5 := rfl; have : wt 5 = 5 := rfl; have : wt 56 = 5 := rfl; omega
                  · refine Ok_ife (Nat.lt_trans (lo_lt (C_t26.tk hT) _) (by decide)) (by decide) (fun q111 => ?_) (fun q111 => ?_)
                    · refine Kp_push C_t26 (by omega) (fun t112 C_t112 X_t112 a_t112 b_t112 d_t112 w_t112 u_t112 v_t112 j_t112 l_t112 => ?_)
                      have e_t112 := C_t112.2.2.2.1
                      rw [a_t26] at a_t112
                      rw [b_t26] at b_t112
                      rw [d_t26] at d_t112
                      rw [w_t26] at w_t112
                      rw [u_t26] at u_t112
                      rw [v_t26] at v_t112
                      clear d_t26 w_t26 u_t26 v_t26 e_t26 a_t26 b_t26
                      have I_n_t112 := I_n_t26.flat X_t112
                      have f_n_t112 := f_n_t26.ex I_n_t26 (X_t112 0)
                      have u_n_t112 := u_n_t26.ex I_n_t26 (X_t112 0)
                      have I_m_mdt4_t112 := I_m_mdt4_t26.flat X_t112
                      have f_m_mdt4_t112 := f_m_mdt4_t26.ex I_m_mdt4_t26 (X_t112 0)
                      have I_m_mdt24_t112 := I_m_mdt24_t26.flat X_t112
                      have u_m_mdt24_t112 := u_m_mdt24_t26.ex I_m_mdt24_t26 (X_t112 0)
                      have hv_m_mdt4_t112 : V56 t112 (m_md t4) (m_md t0) n := hv_m_mdt4_t26.flat j_t112
                      have x69_t112 : U69 t112 (m_md t24) := U69_flat j_t112 x69_t26
                      have la_n_t112 : m_la t112 n = (m_md t4) + 1 := by rw [j_t112.2.2.1]; exact la_n_t26
                      have wl_n_t112 : m_wh t112 ((m_md t4)) = 56 := by rw [j_t112.1]; exact wl_n_t26
                      clear la_n_t26 wl_n_t26
                      have la_m_mdt4_t112 : m_la t112 (m_md t4) = (m_md t24) + 1 := by rw [j_t112.2.2.1]; exact la_m_mdt4_t26
                      have wl_m_mdt4_t112 : m_wh t112 ((m_md t24)) = 13 := by rw [j_t112.1]; exact wl_m_mdt4_t26
                      clear la_m_mdt4_t26 wl_m_mdt4_t26
                      refine Kp_push C_t112 (by omega) (fun t113 C_t113 X_t113 a_t113 b_t113 d_t113 w_t113 u_t113 v_t113 j_t113 l_t113 => ?_)
                      have e_t113 := C_t113.2.2.2.1
                      rw [a_t112] at a_t113
                      rw [b_t112] at b_t113
                      rw [d_t112] at d_t113
                      rw [w_t112] at w_t113
                      rw [u_t112] at u_t113
                      rw [v_t112] at v_t113
                      clear d_t112 w_t112 u_t112 v_t112 e_t112 a_t112 b_t112
                      have I_n_t113 := I_n_t112.flat X_t113
                      have f_n_t113 := f_n_t112.ex I_n_t112 (X_t113 0)
                      have u_n_t113 := u_n_t112.ex I_n_t112 (X_t113 0)
                      have I_m_mdt4_t113 := I_m_mdt4_t112.flat X_t113
                      have f_m_mdt4_t113 := f_m_mdt4_t112.ex I_m_mdt4_t112 (X_t113 0)
                      have I_m_mdt24_t113 := I_m_mdt24_t112.flat X_t113
                      have u_m_mdt24_t113 := u_m_mdt24_t112.ex I_m_mdt24_t112 (X_t113 0)
                      have hv_m_mdt4_t113 : V56 t113 (m_md t4) (m_md t0) n := hv_m_mdt4_t112.flat j_t113
                      have x69_t113 : U69 t113 (m_md t24) := U69_flat j_t113 x69_t112
                      have la_n_t113 : m_la t113 n = (m_md t4) + 1 := by rw [j_t113.2.2.1]; exact la_n_t112
                      have wl_n_t113 : m_wh t113 ((m_md t4)) = 56 := by rw [j_t113.1]; exact wl_n_t112
                      clear la_n_t112 wl_n_t112
                      have la_m_mdt4_t113 : m_la t113 (m_md t4) = (m_md t24) + 1 := by rw [j_t113.2.2.1]; exact la_m_mdt4_t112
                      have wl_m_mdt4_t113 : m_wh t113 ((m_md t24)) = 13 := by rw [j_t113.1]; exact wl_m_mdt4_t112
                      clear la_m_mdt4_t112 wl_m_mdt4_t112
                      refine Ok_ret (show Ok _ _ _ from ?_)
                      refine Ok_ret (show Ok _ _ _ from ?_)
                      have h56 : N56 t113 (m_md t4) [(4, m_md t24, 3), (5, m_md t24, 3), (18, m_md t24, 1)] := N56_mk hv_m_mdt4_t113 la_m_mdt4_t113 (by omega) (by omega) (by omega) (by omega) (fun y hy => by cases hy; show m_md t24 ≤ m_md t24; omega) I_n_t113 I_m_mdt24_t113 u_m_mdt24_t113 x69_t113 (Or.inr ⟨(18, m_md t24, 1), (List.mem_cons_of_mem _ (List.mem_cons_of_mem _ List.mem_cons_self)), rfl, Or.inr (Or.inl rfl)⟩)
                      refine Hv_mk (Kv_c (x := (18, m_md t24, 1)) rfl (Kv_c (x := (5, m_md t24, 3)) rfl (Kv_c (x := (4, m_md t24, 3)) rfl (Kv_c (x := (56, m_md t4, 2)) rfl hK)))) (C_t113.1.2.2.2.2.2.2 hTt) C_t113 hT (by omega) (by omega) (by omega) ?_ ?_ ?_ (by omega) ?_ ?_ ?_
                      · exact ⟨(Io_n (by decide) (by decide) I_m_mdt24_t113.1 I_m_mdt24_t113.2.1 I_m_mdt24_t113.2.2.1 (fun q => absurd q (by decide)) (fun q => absurd q (by decide)) I_m_mdt24_t113.2.2.2), (Nd_0 (by decide) Mo_nil), ⟨(Io_n (by decide) (by decide) I_m_mdt24_t113.1 I_m_mdt24_t113.2.1 I_m_mdt24_t113.2.2.1 (fun q => absurd q (by decide)) (fun q => absurd q (by decide)) I_m_mdt24_t113.2.2.2), (Nd_5 (Mo_cons (fun q => show m_md t24 ≤ m_md t24 from by omega) Mo_nil) (Or.inl ⟨1, rfl⟩)), ⟨(Io_n (by decide) (by decide) I_m_mdt24_t113.1 I_m_mdt24_t113.2.1 I_m_mdt24_t113.2.2.1 (fun q => absurd q (by decide)) (fun q => absurd q (by decide)) I_m_mdt24_t113.2.2.2), (Nd_A (by decide) (Mo_cons (fun q => show m_md t24 ≤ m_md t24 from by omega) (Mo_cons (fun q => show m_md t24 ≤ m_md t24 from by omega) Mo_nil)) (Or.inr ⟨(18, m_md t24, 1), (List.mem_cons_of_mem _ List.mem_cons_self), rfl, Or.inr (Or.inl rfl)⟩)), ⟨(Io_n (by decide) (by decide) I_m_mdt4_t113.1 I_m_mdt4_t113.2.1 I_m_mdt4_t113.2.2.1 (fun q => absurd q (by decide)) (fun q => absurd q (by decide)) I_m_mdt4_t113.2.2.2), (Nd_56 (Mo_cons (fun q => show m_md t4 ≤ m_md t24 from by omega) (Mo_cons (fun q => show m_md t4 ≤ m_md t24 from by omega) (Mo_cons (fun q => show m_md t4 ≤ m_md t24 from by omega) Mo_nil))) (fun _ => h56)), Stk_step (N := n) (pop := (42, n, t)) (new := [(56, m_md t4, 2), (4, m_md t24, 3), (5, m_md t24, 3), (18, m_md t24, 1)]) F0 C_t113.1.to2 (fun (h : nk 42 = false) => absurd h (by decide)) (fun q _ h => h (42, n, t) rfl) (fun _ => rfl) (fun y hy hk => ⟨rfl, (Mo_cons (fun q => show n ≤ m_md t4 from by omega) (Mo_cons (fun q => show n ≤ m_md t24 from by omega) (Mo_cons (fun q => show n ≤ m_md t24 from by omega) (Mo_cons (fun q => show n ≤ m_md t24 from by omega) Mo_nil)))) y hy hk⟩) (fun (h : 42 = 3 ∨ 42 = 18 ∨ 42 = 41) => absurd h (by decide)) (fun (h : 42 = 18) => absurd h (by decide)) (fun _ h16 => (Or.inr ⟨f_n_t113, (Ab_some (y := (56, m_md t4, 2)) rfl (show n < m_md t4 from by omega)), H50_no la_n_t113 wl_n_t113 (by decide)⟩)) r [] (fun y hy => absurd hy List.not_mem_nil) hS⟩⟩⟩⟩
                      · exact (Aj_up (x := (18, m_md t24, 1)) (Aj_up (x := (5, m_md t24, 3)) (Aj_up (x := (4, m_md t24, 3)) (Aj_sub (y := (56, m_md t4, 2)) hJ (Nat.le_of_ble_eq_true rfl)) (Or.inr (Nat.le_of_ble_eq_true rfl))) (Or.inr (Nat.le_of_ble_eq_true rfl))) (Or.inr (Nat.le_of_ble_eq_true rfl)))
                      · show m_dp t113 = (dlt 18 + (dlt 5 + (dlt 4 + (dlt 56 + sD r))))
                        have : dlt 18 = 0 := rfl; have : dlt 4 = 0 := rfl; have : dlt 42 = 0 := rfl; have : dlt 5 = 0 := rfl; have : dlt 56 = 0 := rfl; omega
                      · show m_rw t113 = (rho 18 + (rho 5 + (rho 4 + (rho 56 + sR r))))
                        have : rho 18 = 0 := rfl; have : rho 4 = 0 := rfl; have : rho 42 = 0 := rfl; have : rho 5 = 0 := rfl; have : rho 56 = 0 := rfl; omega
                      · show m_md t113 + (mu7 18 + (mu7 5 + (mu7 4 + (mu7 56 + sM r)))) ≤ 3 * m_at t113 + 7 * (r.length + 1 + 1 + 1 + 1) + 10
                        have : mu7 18 = 5 := rfl; have : mu7 4 = 7 := rfl; have : mu7 42 = 8 := rfl; have : mu7 5 = 7 := rfl; have : mu7 56 = 7 := rfl; omega
                      · show (wt 18 + (wt 5 + (wt 4 + (wt 56 + sW r)))) + 6 * (4096 - m_at t113) + 4 * (600 - (r.length + 1 + 1 + 1 + 1)) < (wt 42 + sW r) + 6 * (4096 - m_at t0) + 4 * (600 - (r.length + 1))
                        have : wt 18 = 0 := rfl; have : wt 4 = 5 := rfl; have : wt 42 = 5 := rfl; have : wt 5 = 5 := rfl; have : wt 56 = 5 := rfl; omega
                    · refine Ok_ife (Nat.lt_trans (lo_lt (C_t26.tk hT) _) (by decide)) (by decide) (fun q114 => ?_) (fun q114 => ?_)
                      · refine Kp_push C_t26 (by omega) (fun t115 C_t115 X_t115 a_t115 b_t115 d_t115 w_t115 u_t115 v_t115 j_t115 l_t115 => ?_)
                        have e_t115 := C_t115.2.2.2.1
                        rw [a_t26] at a_t115
                        rw [b_t26] at b_t115
                        rw [d_t26] at d_t115
                        rw [w_t26] at w_t115
                        rw [u_t26] at u_t115
                        rw [v_t26] at v_t115
                        clear d_t26 w_t26 u_t26 v_t26 e_t26 a_t26 b_t26
                        have I_n_t115 := I_n_t26.flat X_t115
                        have f_n_t115 := f_n_t26.ex I_n_t26 (X_t115 0)
                        have u_n_t115 := u_n_t26.ex I_n_t26 (X_t115 0)
                        have I_m_mdt4_t115 := I_m_mdt4_t26.flat X_t115
                        have f_m_mdt4_t115 := f_m_mdt4_t26.ex I_m_mdt4_t26 (X_t115 0)
                        have I_m_mdt24_t115 := I_m_mdt24_t26.flat X_t115
                        have u_m_mdt24_t115 := u_m_mdt24_t26.ex I_m_mdt24_t26 (X_t115 0)
                        have hv_m_mdt4_t115 : V56 t115 (m_md t4) (m_md t0) n := hv_m_mdt4_t26.flat j_t115
                        have x69_t115 : U69 t115 (m_md t24) := U69_flat j_t115 x69_t26
                        have la_n_t115 : m_la t115 n = (m_md t4) + 1 := by rw [j_t115.2.2.1]; exact la_n_t26
                        have wl_n_t115 : m_wh t115 ((m_md t4)) = 56 := by rw [j_t115.1]; exact wl_n_t26
                        clear la_n_t26 wl_n_t26
                        have la_m_mdt4_t115 : m_la t115 (m_md t4) = (m_md t24) + 1 := by rw [j_t115.2.2.1]; exact la_m_mdt4_t26
                        have wl_m_mdt4_t115 : m_wh t115 ((m_md t24)) = 13 := by rw [j_t115.1]; exact wl_m_mdt4_t26
                        clear la_m_mdt4_t26 wl_m_mdt4_t26
                        refine Kp_push C_t115 (by omega) (fun t116 C_t116 X_t116 a_t116 b_t116 d_t116 w_t116 u_t116 v_t116 j_t116 l_t116 => ?_)
                        have e_t116 := C_t116.2.2.2.1
                        rw [a_t115] at a_t116
                        rw [b_t115] at b_t116
                        rw [d_t115] at d_t116
                        rw [w_t115] at w_t116
                        rw [u_t115] at u_t116
                        rw [v_t115] at v_t116
                        clear d_t115 w_t115 u_t115 v_t115 e_t115 a_t115 b_t115
                        have I_n_t116 := I_n_t115.flat X_t116
                        have f_n_t116 := f_n_t115.ex I_n_t115 (X_t116 0)
                        have u_n_t116 := u_n_t115.ex I_n_t115 (X_t116 0)
                        have I_m_mdt4_t116 := I_m_mdt4_t115.flat X_t116
                        have f_m_mdt4_t116 := f_m_mdt4_t115.ex I_m_mdt4_t115 (X_t116 0)
                        have I_m_mdt24_t116 := I_m_mdt24_t115.flat X_t116
                        have u_m_mdt24_t116 := u_m_mdt24_t115.ex I_m_mdt24_t115 (X_t116 0)
                        have hv_m_mdt4_t116 : V56 t116 (m_md t4) (m_md t0) n := hv_m_mdt4_t115.flat j_t116
                        have x69_t116 : U69 t116 (m_md t24) := U69_flat j_t116 x69_t115
                        have la_n_t116 : m_la t116 n = (m_md t4) + 1 := by rw [j_t116.2.2.1]; exact la_n_t115
                        have wl_n_t116 : m_wh t116 ((m_md t4)) = 56 := by rw [j_t116.1]; exact wl_n_t115
                        clear la_n_t115 wl_n_t115
                        have la_m_mdt4_t116 : m_la t116 (m_md t4) = (m_md t24) + 1 := by rw [j_t116.2.2.1]; exact la_m_mdt4_t115
                        have wl_m_mdt4_t116 : m_wh t116 ((m_md t24)) = 13 := by rw [j_t116.1]; exact wl_m_mdt4_t115
                        clear la_m_mdt4_t115 wl_m_mdt4_t115
                        refine Ok_ret (show Ok _ _ _ from ?_)
                        refine Ok_ret (show Ok _ _ _ from ?_)
                        have h56 : N56 t116 (m_md t4) [(4, m_md t24, 3), (5, m_md t24, 3), (18, m_md t24, 1)] := N56_mk hv_m_mdt4_t116 la_m_mdt4_t116 (by omega) (by omega) (by omega) (by omega) (fun y hy => by cases hy; show m_md t24 ≤ m_md t24; omega) I_n_t116 I_m_mdt24_t116 u_m_mdt24_t116 x69_t116 (Or.inr ⟨(18, m_md t24, 1), (List.mem_cons_of_mem _ (List.mem_cons_of_mem _ List.mem_cons_self)), rfl, Or.inr (Or.inl rfl)⟩)
                        refine Hv_mk (Kv_c (x := (18, m_md t24, 1)) rfl (Kv_c (x := (5, m_md t24, 3)) rfl (Kv_c (x := (4, m_md t24, 3)) rfl (Kv_c (x := (56, m_md t4, 2)) rfl hK)))) (C_t116.1.2.2.2.2.2.2 hTt) C_t116 hT (by omega) (by omega) (by omega) ?_ ?_ ?_ (by omega) ?_ ?_ ?_
                        · exact ⟨(Io_n (by decide) (by decide) I_m_mdt24_t116.1 I_m_mdt24_t116.2.1 I_m_mdt24_t116.2.2.1 (fun q => absurd q (by decide)) (fun q => absurd q (by decide)) I_m_mdt24_t116.2.2.2), (Nd_0 (by decide) Mo_nil), ⟨(Io_n (by decide) (by decide) I_m_mdt24_t116.1 I_m_mdt24_t116.2.1 I_m_mdt24_t116.2.2.1 (fun q => absurd q (by decide)) (fun q => absurd q (by decide)) I_m_mdt24_t116.2.2.2), (Nd_5 (Mo_cons (fun q => show m_md t24 ≤ m_md t24 from by omega) Mo_nil) (Or.inl ⟨1, rfl⟩)), ⟨(Io_n (by decide) (by decide) I_m_mdt24_t116.1 I_m_mdt24_t116.2.1 I_m_mdt24_t116.2.2.1 (fun q => absurd q (by decide)) (fun q => absurd q (by decide)) I_m_mdt24_t116.2.2.2), (Nd_A (by decide) (Mo_cons (fun q => show m_md t24 ≤ m_md t24 from by omega) (Mo_cons (fun q => show m_md t24 ≤ m_md t24 from by omega) Mo_nil)) (Or.inr ⟨(18, m_md t24, 1), (List.mem_cons_of_mem _ List.mem_cons_self), rfl, Or.inr (Or.inl rfl)⟩)), ⟨(Io_n (by decide) (by decide) I_m_mdt4_t116.1 I_m_mdt4_t116.2.1 I_m_mdt4_t116.2.2.1 (fun q => absurd q (by decide)) (fun q => absurd q (by decide)) I_m_mdt4_t116.2.2.2), (Nd_56 (Mo_cons (fun q => show m_md t4 ≤ m_md t24 from by omega) (Mo_cons (fun q => show m_md t4 ≤ m_md t24 from by omega) (Mo_cons (fun q => show m_md t4 ≤ m_md t24 from by omega) Mo_nil))) (fun _ => h56)), Stk_step (N := n) (pop := (42, n, t)) (new := [(56, m_md t4, 2), (4, m_md t24, 3), (5, m_md t24, 3), (18, m_md t24, 1)]) F0 C_t116.1.to2 (fun (h : nk 42 = false) => absurd h (by decide)) (fun q _ h => h (42, n, t) rfl) (fun _ => rfl) (fun y hy hk => ⟨rfl, (Mo_cons (fun q => show n ≤ m_md t4 from by omega) (Mo_cons (fun q => show n ≤ m_md t24 from by omega) (Mo_cons (fun q => show n ≤ m_md t24 from by omega) (Mo_cons (fun q => show n ≤ m_md t24 from by omega) Mo_nil)))) y hy hk⟩) (fun (h : 42 = 3 ∨ 42 = 18 ∨ 42 = 41) => absurd h (by decide)) (fun (h : 42 = 18) => absurd h (by decide)) (fun _ h16 => (Or.inr ⟨f_n_t116, (Ab_some (y := (56, m_md t4, 2)) rfl (show n < m_md t4 from by omega)), H50_no la_n_t116 wl_n_t116 (by decide)⟩)) r [] (fun y hy => absurd hy List.not_mem_nil) hS⟩⟩⟩⟩
                        · exact (Aj_up (x := (18, m_md t24, 1)) (Aj_up (x := (5, m_md t24, 3)) (Aj_up (x := (4, m_md t24, 3)) (Aj_sub (y := (56, m_md t4, 2)) hJ (Nat.le_of_ble_eq_true rfl)) (Or.inr (Nat.le_of_ble_eq_true rfl))) (Or.inr (Nat.le_of_ble_eq_true rfl))) (Or.inr (Nat.le_of_ble_eq_true rfl)))
                        · show m_dp t116 = (dlt 18 + (dlt 5 + (dlt 4 + (dlt 56 + sD r))))
                          have : dlt 18 = 0 := rfl; have : dlt 4 = 0 := rfl; have : dlt 42 = 0 := rfl; have : dlt 5 = 0 := rfl; have : dlt 56 = 0 := rfl; omega
                        · show m_rw t116 = (rho 18 + (rho 5 + (rho 4 + (rho 56 + sR r))))
                          have : rho 18 = 0 := rfl; have : rho 4 = 0 := rfl; have : rho 42 = 0 := rfl; have : rho 5 = 0 := rfl; have : rho 56 = 0 := rfl; omega
                        · show m_md t116 + (mu7 18 + (mu7 5 + (mu7 4 + (mu7 56 + sM r)))) ≤ 3 * m_at t116 + 7 * (r.length + 1 + 1 + 1 + 1) + 10
                          have : mu7 18 = 5 := rfl; have : mu7 4 = 7 := rfl; have : mu7 42 = 8 := rfl; have : mu7 5 = 7 := rfl; have : mu7 56 = 7 := rfl; omega
                        · show (wt 18 + (wt 5 + (wt 4 + (wt 56 + sW r)))) + 6 * (4096 - m_at t116) + 4 * (600 - (r.length + 1 + 1 + 1 + 1)) < (wt 42 + sW r) + 6 * (4096 - m_at t0) + 4 * (600 - (r.length + 1))
                          have : wt 18 = 0 := rfl; have : wt 4 = 5 := rfl; have : wt 42 = 5 := rfl; have : wt 5 = 5 := rfl; have : wt 56 = 5 := rfl; omega
                      · refine Ok_ife (Nat.lt_trans (lo_lt (C_t26.tk hT) _) (by decide)) (by decide) (fun q117 => ?_) (fun q117 => ?_)
                        · refine Kp_push C_t26 (by omega) (fun t118 C_t118 X_t118 a_t118 b_t118 d_t118 w_t118 u_t118 v_t118 j_t118 l_t118 => ?_)
                          have e_t118 := C_t118.2.2.2.1
                          rw [a_t26] at a_t118
                          rw [b_t26] at b_t118
                          rw [d_t26] at d_t118
                          rw [w_t26] at w_t118
                          rw [u_t26] at u_t118
                          rw [v_t26] at v_t118
                          clear d_t26 w_t26 u_t26 v_t26 e_t26 a_t26 b_t26
                          have I_n_t118 := I_n_t26.flat X_t118
                          have f_n_t118 := f_n_t26.ex I_n_t26 (X_t118 0)
                          have u_n_t118 := u_n_t26.ex I_n_t26 (X_t118 0)
                          have I_m_mdt4_t118 := I_m_mdt4_t26.flat X_t118
                          have f_m_mdt4_t118 := f_m_mdt4_t26.ex I_m_mdt4_t26 (X_t118 0)
                          have I_m_mdt24_t118 := I_m_mdt24_t26.flat X_t118
                          have u_m_mdt24_t118 := u_m_mdt24_t26.ex I_m_mdt24_t26 (X_t118 0)
                          have hv_m_mdt4_t118 : V56 t118 (m_md t4) (m_md t0) n := hv_m_mdt4_t26.flat j_t118
                          have x69_t118 : U69 t118 (m_md t24) := U69_flat j_t118 x69_t26
                          have la_n_t118 : m_la t118 n = (m_md t4) + 1 := by rw [j_t118.2.2.1]; exact la_n_t26
                          have wl_n_t118 : m_wh t118 ((m_md t4)) = 56 := by rw [j_t118.1]; exact wl_n_t26
                          clear la_n_t26 wl_n_t26
                          have la_m_mdt4_t118 : m_la t118 (m_md t4) = (m_md t24) + 1 := by rw [j_t118.2.2.1]; exact la_m_mdt4_t26
                          have wl_m_mdt4_t118 : m_wh t118 ((m_md t24)) = 13 := by rw [j_t118.1]; exact wl_m_mdt4_t26
                          clear la_m_mdt4_t26 wl_m_mdt4_t26
                          refine Kp_push C_t118 (by omega) (fun t119 C_t119 X_t119 a_t119 b_t119 d_t119 w_t119 u_t119 v_t119 j_t119 l_t119 => ?_)
                          have e_t119 := C_t119.2.2.2.1
                          rw [a_t118] at a_t119
                          rw [b_t118] at b_t119
                          rw [d_t118] at d_t119
                          rw [w_t118] at w_t119
                          rw [u_t118] at u_t119
                          rw [v_t118] at v_t119
                          clear d_t118 w_t118 u_t118 v_t118 e_t118 a_t118 b_t118
                          have I_n_t119 := I_n_t118.flat X_t119
                          have f_n_t119 := f_n_t118.ex I_n_t118 (X_t119 0)
                          have u_n_t119 := u_n_t118.ex I_n_t118 (X_t119 0)
                          have I_m_mdt4_t119 := I_m_mdt4_t118.flat X_t119
                          have f_m_mdt4_t119 := f_m_mdt4_t118.ex I_m_mdt4_t118 (X_t119 0)
                          have I_m_mdt24_t119 := I_m_mdt24_t118.flat X_t119
                          have u_m_mdt24_t119 := u_m_mdt24_t118.ex I_m_mdt24_t118 (X_t119 0)
                          have hv_m_mdt4_t119 : V56 t119 (m_md t4) (m_md t0) n := hv_m_mdt4_t118.flat j_t119
                          have x69_t119 : U69 t119 (m_md t24) := U69_flat j_t119 x69_t118
                          have la_n_t119 : m_la t119 n = (m_md t4) + 1 := by rw [j_t119.2.2.1]; exact la_n_t118
                          have wl_n_t119 : m_wh t119 ((m_md t4)) = 56 := by rw [j_t119.1]; exact wl_n_t118
                          clear la_n_t118 wl_n_t118
                          have la_m_mdt4_t119 : m_la t119 (m_md t4) = (m_md t24) + 1 := by rw [j_t119.2.2.1]; exact la_m_mdt4_t118
                          have wl_m_mdt4_t119 : m_wh t119 ((m_md t24)) = 13 := by rw [j_t119.1]; exact wl_m_mdt4_t118
                          clear la_m_mdt4_t118 wl_m_mdt4_t118
                          refine Ok_ret (show Ok _ _ _ from ?_)
                          refine Ok_ret (show Ok _ _ _ from ?_)
                          have h56 : N56 t119 (m_md t4) [(4, m_md t24, 3), (5, m_md t24, 3), (18, m_md t24, 1)] := N56_mk hv_m_mdt4_t119 la_m_mdt4_t119 (by omega) (by omega) (by omega) (by omega) (fun y hy => by cases hy; show m_md t24 ≤ m_md t24; omega) I_n_t119 I_m_mdt24_t119 u_m_mdt24_t119 x69_t119 (Or.inr ⟨(18, m_md t24, 1), (List.mem_cons_of_mem _ (List.mem_cons_of_mem _ List.mem_cons_self)), rfl, Or.inr (Or.inl rfl)⟩)
                          refine Hv_mk (Kv_c (x := (18, m_md t24, 1)) rfl (Kv_c (x := (5, m_md t24, 3)) rfl (Kv_c (x := (4, m_md t24, 3)) rfl (Kv_c (x := (56, m_md t4, 2)) rfl hK)))) (C_t119.1.2.2.2.2.2.2 hTt) C_t119 hT (by omega) (by omega) (by omega) ?_ ?_ ?_ (by omega) ?_ ?_ ?_
                          · exact ⟨(Io_n (by decide) (by decide) I_m_mdt24_t119.1 I_m_mdt24_t119.2.1 I_m_mdt24_t119.2.2.1 (fun q => absurd q (by decide)) (fun q => absurd q (by decide)) I_m_mdt24_t119.2.2.2), (Nd_0 (by decide) Mo_nil), ⟨(Io_n (by decide) (by decide) I_m_mdt24_t119.1 I_m_mdt24_t119.2.1 I_m_mdt24_t119.2.2.1 (fun q => absurd q (by decide)) (fun q => absurd q (by decide)) I_m_mdt24_t119.2.2.2), (Nd_5 (Mo_cons (fun q => show m_md t24 ≤ m_md t24 from by omega) Mo_nil) (Or.inl ⟨1, rfl⟩)), ⟨(Io_n (by decide) (by decide) I_m_mdt24_t119.1 I_m_mdt24_t119.2.1 I_m_mdt24_t119.2.2.1 (fun q => absurd q (by decide)) (fun q => absurd q (by decide)) I_m_mdt24_t119.2.2.2), (Nd_A (by decide) (Mo_cons (fun q => show m_md t24 ≤ m_md t24 from by omega) (Mo_cons (fun q => show m_md t24 ≤ m_md t24 from by omega) Mo_nil)) (Or.inr ⟨(18, m_md t24, 1), (List.mem_cons_of_mem _ List.mem_cons_self), rfl, Or.inr (Or.inl rfl)⟩)), ⟨(Io_n (by decide) (by decide) I_m_mdt4_t119.1 I_m_mdt4_t119.2.1 I_m_mdt4_t119.2.2.1 (fun q => absurd q (by decide)) (fun q => absurd q (by decide)) I_m_mdt4_t119.2.2.2), (Nd_56 (Mo_cons (fun q => show m_md t4 ≤ m_md t24 from by omega) (Mo_cons (fun q => show m_md t4 ≤ m_md t24 from by omega) (Mo_cons (fun q => show m_md t4 ≤ m_md t24 from by omega) Mo_nil))) (fun _ => h56)), Stk_step (N := n) (pop := (42, n, t)) (new := [(56, m_md t4, 2), (4, m_md t24, 3), (5, m_md t24, 3), (18, m_md t24, 1)]) F0 C_t119.1.to2 (fun (h : nk 42 = false) => absurd h (by decide)) (fun q _ h => h (42, n, t) rfl) (fun _ => rfl) (fun y hy hk => ⟨rfl, (Mo_cons (fun q => show n ≤ m_md t4 from by omega) (Mo_cons (fun q => show n ≤ m_md t24 from by omega) (Mo_cons (fun q => show n ≤ m_md t24 from by omega) (Mo_cons (fun q => show n ≤ m_md t24 from by omega) Mo_nil)))) y hy hk⟩) (fun (h : 42 = 3 ∨ 42 = 18 ∨ 42 = 41) => absurd h (by decide)) (fun (h : 42 = 18) => absurd h (by decide)) (fun _ h16 => (Or.inr ⟨f_n_t119, (Ab_some (y := (56, m_md t4, 2)) rfl (show n < m_md t4 from by omega)), H50_no la_n_t119 wl_n_t119 (by decide)⟩)) r [] (fun y hy => absurd hy List.not_mem_nil) hS⟩⟩⟩⟩
                          · exact (Aj_up (x := (18, m_md t24, 1)) (Aj_up (x := (5, m_md t24, 3)) (Aj_up (x := (4, m_md t24, 3)) (Aj_sub (y := (56, m_md t4, 2)) hJ (Nat.le_of_ble_eq_true rfl)) (Or.inr (Nat.le_of_ble_eq_true rfl))) (Or.inr (Nat.le_of_ble_eq_true rfl))) (Or.inr (Nat.le_of_ble_eq_true rfl)))
                          · show m_dp t119 = (dlt 18 + (dlt 5 + (dlt 4 + (dlt 56 + sD r))))
                            have : dlt 18 = 0 := rfl; have : dlt 4 = 0 := rfl; have : dlt 42 = 0 := rfl; have : dlt 5 = 0 := rfl; have : dlt 56 = 0 := rfl; omega
                          · show m_rw t119 = (rho 18 + (rho 5 + (rho 4 + (rho 56 + sR r))))
                            have : rho 18 = 0 := rfl; have : rho 4 = 0 := rfl; have : rho 42 = 0 := rfl; have : rho 5 = 0 := rfl; have : rho 56 = 0 := rfl; omega
                          · show m_md t119 + (mu7 18 + (mu7 5 + (mu7 4 + (mu7 56 + sM r)))) ≤ 3 * m_at t119 + 7 * (r.length + 1 + 1 + 1 + 1) + 10
                            have : mu7 18 = 5 := rfl; have : mu7 4 = 7 := rfl; have : mu7 42 = 8 := rfl; have : mu7 5 = 7 := rfl; have : mu7 56 = 7 := rfl; omega
                          · show (wt 18 + (wt 5 + (wt 4 + (wt 56 + sW r)))) + 6 * (4096 - m_at t119) + 4 * (600 - (r.length + 1 + 1 + 1 + 1)) < (wt 42 + sW r) + 6 * (4096 - m_at t0) + 4 * (600 - (r.length + 1))
                            have : wt 18 = 0 := rfl; have : wt 4 = 5 := rfl; have : wt 42 = 5 := rfl; have : wt 5 = 5 := rfl; have : wt 56 = 5 := rfl; omega
                        · refine Ok_ife (Nat.lt_trans (lo_lt (C_t26.tk hT) _) (by decide)) (by decide) (fun q120 => ?_) (fun q120 => ?_)
                          · refine Kp_push C_t26 (by omega) (fun t121 C_t121 X_t121 a_t121 b_t121 d_t121 w_t121 u_t121 v_t121 j_t121 l_t121 => ?_)
                            have e_t121 := C_t121.2.2.2.1
                            rw [a_t26] at a_t121
                            rw [b_t26] at b_t121
                            rw [d_t26] at d_t121
                            rw [w_t26] at w_t121
                            rw [u_t26] at u_t121
                            rw [v_t26] at v_t121
                            clear d_t26 w_t26 u_t26 v_t26 e_t26 a_t26 b_t26
                            have I_n_t121 := I_n_t26.flat X_t121
                            have f_n_t121 := f_n_t26.ex I_n_t26 (X_t121 0)
                            have u_n_t121 := u_n_t26.ex I_n_t26 (X_t121 0)
                            have I_m_mdt4_t121 := I_m_mdt4_t26.flat X_t121
                            have f_m_mdt4_t121 := f_m_mdt4_t26.ex I_m_mdt4_t26 (X_t121 0)
                            have I_m_mdt24_t121 := I_m_mdt24_t26.flat X_t121
                            have u_m_mdt24_t121 := u_m_mdt24_t26.ex I_m_mdt24_t26 (X_t121 0)
                            have hv_m_mdt4_t121 : V56 t121 (m_md t4) (m_md t0) n := hv_m_mdt4_t26.flat j_t121
                            have x69_t121 : U69 t121 (m_md t24) := U69_flat j_t121 x69_t26
                            have la_n_t121 : m_la t121 n = (m_md t4) + 1 := by rw [j_t121.2.2.1]; exact la_n_t26
                            have wl_n_t121 : m_wh t121 ((m_md t4)) = 56 := by rw [j_t121.1]; exact wl_n_t26
                            clear la_n_t26 wl_n_t26
                            have la_m_mdt4_t121 : m_la t121 (m_md t4) = (m_md t24) + 1 := by rw [j_t121.2.2.1]; exact la_m_mdt4_t26
                            have wl_m_mdt4_t121 : m_wh t121 ((m_md t24)) = 13 := by rw [j_t121.1]; exact wl_m_mdt4_t26
                            clear la_m_mdt4_t26 wl_m_mdt4_t26
                            refine Kp_push C_t121 (by omega) (fun t122 C_t122 X_t122 a_t122 b_t122 d_t122 w_t122 u_t122 v_t122 j_t122 l_t122 => ?_)
                            have e_t122 := C_t122.2.2.2.1
                            rw [a_t121] at a_t122
                            rw [b_t121] at b_t122
                            rw [d_t121] at d_t122
                            rw [w_t121] at w_t122
                            rw [u_t121] at u_t122
                            rw [v_t121] at v_t122
                            clear d_t121 w_t121 u_t121 v_t121 e_t121 a_t121 b_t121
                            have I_n_t122 := I_n_t121.flat X_t122
                            have f_n_t122 := f_n_t121.ex I_n_t121 (X_t122 0)
                            have u_n_t122 := u_n_t121.ex I_n_t121 (X_t122 0)
                            have I_m_mdt4_t122 := I_m_mdt4_t121.flat X_t122
                            have f_m_mdt4_t122 := f_m_mdt4_t121.ex I_m_mdt4_t121 (X_t122 0)
                            have I_m_mdt24_t122 := I_m_mdt24_t121.flat X_t122
                            have u_m_mdt24_t122 := u_m_mdt24_t121.ex I_m_mdt24_t121 (X_t122 0)
                            have hv_m_mdt4_t122 : V56 t122 (m_md t4) (m_md t0) n := hv_m_mdt4_t121.flat j_t122
                            have x69_t122 : U69 t122 (m_md t24) := U69_flat j_t122 x69_t121
                            have la_n_t122 : m_la t122 n = (m_md t4) + 1 := by rw [j_t122.2.2.1]; exact la_n_t121
                            have wl_n_t122 : m_wh t122 ((m_md t4)) = 56 := by rw [j_t122.1]; exact wl_n_t121
                            clear la_n_t121 wl_n_t121
                            have la_m_mdt4_t122 : m_la t122 (m_md t4) = (m_md t24) + 1 := by rw [j_t122.2.2.1]; exact la_m_mdt4_t121
                            have wl_m_mdt4_t122 : m_wh t122 ((m_md t24)) = 13 := by rw [j_t122.1]; exact wl_m_mdt4_t121
                            clear la_m_mdt4_t121 wl_m_mdt4_t121
                            refine Ok_ret (show Ok _ _ _ from ?_)
                            refine Ok_ret (show Ok _ _ _ from ?_)
                            have h56 : N56 t122 (m_md t4) [(4, m_md t24, 3), (5, m_md t24, 3), (18, m_md t24, 1)] := N56_mk hv_m_mdt4_t122 la_m_mdt4_t122 (by omega) (by omega) (by omega) (by omega) (fun y hy => by cases hy; show m_md t24 ≤ m_md t24; omega) I_n_t122 I_m_mdt24_t122 u_m_mdt24_t122 x69_t122 (Or.inr ⟨(18, m_md t24, 1), (List.mem_cons_of_mem _ (List.mem_cons_of_mem _ List.mem_cons_self)), rfl, Or.inr (Or.inl rfl)⟩)
                            refine Hv_mk (Kv_c (x := (18, m_md t24, 1)) rfl (Kv_c (x := (5, m_md t24, 3)) rfl (Kv_c (x := (4, m_md t24, 3)) rfl (Kv_c (x := (56, m_md t4, 2)) rfl hK)))) (C_t122.1.2.2.2.2.2.2 hTt) C_t122 hT (by omega) (by omega) (by omega) ?_ ?_ ?_ (by omega) ?_ ?_ ?_
                            · exact ⟨(Io_n (by decide) (by decide) I_m_mdt24_t122.1 I_m_mdt24_t122.2.1 I_m_mdt24_t122.2.2.1 (fun q => absurd q (by decide)) (fun q => absurd q (by decide)) I_m_mdt24_t122.2.2.2), (Nd_0 (by decide) Mo_nil), ⟨(Io_n (by decide) (by decide) I_m_mdt24_t122.1 I_m_mdt24_t122.2.1 I_m_mdt24_t122.2.2.1 (fun q => absurd q (by decide)) (fun q => absurd q (by decide)) I_m_mdt24_t122.2.2.2), (Nd_5 (Mo_cons (fun q => show m_md t24 ≤ m_md t24 from by omega) Mo_nil) (Or.inl ⟨1, rfl⟩)), ⟨(Io_n (by decide) (by decide) I_m_mdt24_t122.1 I_m_mdt24_t122.2.1 I_m_mdt24_t122.2.2.1 (fun q => absurd q (by decide)) (fun q => absurd q (by decide)) I_m_mdt24_t122.2.2.2), (Nd_A (by decide) (Mo_cons (fun q => show m_md t24 ≤ m_md t24 from by omega) (Mo_cons (fun q => show m_md t24 ≤ m_md t24 from by omega) Mo_nil)) (Or.inr ⟨(18, m_md t24, 1), (List.mem_cons_of_mem _ List.mem_cons_self), rfl, Or.inr (Or.inl rfl)⟩)), ⟨(Io_n (by decide) (by decide) I_m_mdt4_t122.1 I_m_mdt4_t122.2.1 I_m_mdt4_t122.2.2.1 (fun q => absurd q (by decide)) (fun q => absurd q (by decide)) I_m_mdt4_t122.2.2.2), (Nd_56 (Mo_cons (fun q => show m_md t4 ≤ m_md t24 from by omega) (Mo_cons (fun q => show m_md t4 ≤ m_md t24 from by omega) (Mo_cons (fun q => show m_md t4 ≤ m_md t24 from by omega) Mo_nil))) (fun _ => h56)), Stk_step (N := n) (pop := (42, n, t)) (new := [(56, m_md t4, 2), (4, m_md t24, 3), (5, m_md t24, 3), (18, m_md t24, 1)]) F0 C_t122.1.to2 (fun (h : nk 42 = false) => absurd h (by decide)) (fun q _ h => h (42, n, t) rfl) (fun _ => rfl) (fun y hy hk => ⟨rfl, (Mo_cons (fun q => show n ≤ m_md t4 from by omega) (Mo_cons (fun q => show n ≤ m_md t24 from by omega) (Mo_cons (fun q => show n ≤ m_md t24 from by omega) (Mo_cons (fun q => show n ≤ m_md t24 from by omega) Mo_nil)))) y hy hk⟩) (fun (h : 42 = 3 ∨ 42 = 18 ∨ 42 = 41) => absurd h (by decide)) (fun (h : 42 = 18) => absurd h (by decide)) (fun _ h16 => (Or.inr ⟨f_n_t122, (Ab_some (y := (56, m_md t4, 2)) rfl (show n < m_md t4 from by omega)), H50_no la_n_t122 wl_n_t122 (by decide)⟩)) r [] (fun y hy => absurd hy List.not_mem_nil) hS⟩⟩⟩⟩
                            · exact (Aj_up (x := (18, m_md t24, 1)) (Aj_up (x := (5, m_md t24, 3)) (Aj_up (x := (4, m_md t24, 3)) (Aj_sub (y := (56, m_md t4, 2)) hJ (Nat.le_of_ble_eq_true rfl)) (Or.inr (Nat.le_of_ble_eq_true rfl))) (Or.inr (Nat.le_of_ble_eq_true rfl))) (Or.inr (Nat.le_of_ble_eq_true rfl)))
                            · show m_dp t122 = (dlt 18 + (dlt 5 + (dlt 4 + (dlt 56 + sD r))))
                              have : dlt 18 = 0 := rfl; have : dlt 4 = 0 := rfl; have : dlt 42 = 0 := rfl; have : dlt 5 = 0 := rfl; have : dlt 56 = 0 := rfl; omega
                            · show m_rw t122 = (rho 18 + (rho 5 + (rho 4 + (rho 56 + sR r))))
                              have : rho 18 = 0 := rfl; have : rho 4 = 0 := rfl; have : rho 42 = 0 := rfl; have : rho 5 = 0 := rfl; have : rho 56 = 0 := rfl; omega
                            · show m_md t122 + (mu7 18 + (mu7 5 + (mu7 4 + (mu7 56 + sM r)))) ≤ 3 * m_at t122 + 7 * (r.length + 1 + 1 + 1 + 1) + 10
                              have : mu7 18 = 5 := rfl; have : mu7 4 = 7 := rfl; have : mu7 42 = 8 := rfl; have : mu7 5 = 7 := rfl; have : mu7 56 = 7 := rfl; omega
                            · show (wt 18 + (wt 5 + (wt 4 + (wt 56 + sW r)))) + 6 * (4096 - m_at t122) + 4 * (600 - (r.length + 1 + 1 + 1 + 1)) < (wt 42 + sW r) + 6 * (4096 - m_at t0) + 4 * (600 - (r.length + 1))
                              have : wt 18 = 0 := rfl; have : wt 4 = 5 := rfl; have : wt 42 = 5 := rfl; have : wt 5 = 5 := rfl; have : wt 56 = 5 := rfl; omega
                          · refine Kp_error C_t26 (by omega) (fun t123 C_t123 X_t123 a_t123 b_t123 d_t123 w_t123 u_t123 v_t123 j_t123 l_t123 => ?_)
                            have wb_t123 := w_t123.2
                            have w_t123 := Nat.pos_of_ne_zero w_t123.1
                            have e_t123 := C_t123.2.2.2.1
                            have I_n_t123 := I_n_t26.flat X_t123
                            have f_n_t123 := f_n_t26.ex I_n_t26 (X_t123 0)
                            have u_n_t123 := u_n_t26.ex I_n_t26 (X_t123 0)
                            have I_m_mdt4_t123 := I_m_mdt4_t26.flat X_t123
                            have f_m_mdt4_t123 := f_m_mdt4_t26.ex I_m_mdt4_t26 (X_t123 0)
                            have I_m_mdt24_t123 := I_m_mdt24_t26.flat X_t123
                            have u_m_mdt24_t123 := u_m_mdt24_t26.ex I_m_mdt24_t26 (X_t123 0)
                            have hv_m_mdt4_t123 : V56 t123 (m_md t4) (m_md t0) n := hv_m_mdt4_t26.flat j_t123
                            have x69_t123 : U69 t123 (m_md t24) := U69_flat j_t123 x69_t26
                            have la_n_t123 : m_la t123 n = (m_md t4) + 1 := by rw [j_t123.2.2.1]; exact la_n_t26
                            have wl_n_t123 : m_wh t123 ((m_md t4)) = 56 := by rw [j_t123.1]; exact wl_n_t26
                            clear la_n_t26 wl_n_t26
                            have la_m_mdt4_t123 : m_la t123 (m_md t4) = (m_md t24) + 1 := by rw [j_t123.2.2.1]; exact la_m_mdt4_t26
                            have wl_m_mdt4_t123 : m_wh t123 ((m_md t24)) = 13 := by rw [j_t123.1]; exact wl_m_mdt4_t26
                            clear la_m_mdt4_t26 wl_m_mdt4_t26
                            refine Ok_ret (show Ok _ _ _ from ?_)
                            refine Ok_ret (show Ok _ _ _ from ?_)
                            exact Or.inl ⟨Nat.ne_of_gt (show 0 < m_wr t123 from by omega), by omega, by omega, C_t123.2.2.2.2.2, by omega⟩
    · try unfold lp_X6_simpleRest_348
      refine Kp_wrap C_t0 I_n_t0.1 I_n_t0.2.1 f_n_t0 I_n_t0.2.2.1 (by omega) (by omega) (by decide) (fun t124 C_t124 X_t124 a_t124 b_t124 d_t124 w_t124 u_t124 v_t124 j_t124 l_t124 => ?_)
      have e_t124 := C_t124.2.2.2.1
      have I_n_t124 := I_n_t0.le X_t124 (by omega)
      have f_n_t124 := f_n_t0.ex I_n_t0 (X_t124 0 (Nat.zero_le _))
      have u_n_t124 := u_n_t0.ex I_n_t0 (X_t124 0 (Nat.zero_le _))
      have hH : H50 t124 n := H50_mk F0 C_t124.2.1 I_n_t0 I_n_t124 f_n_t0 u_n_t0 j_t124 (by omega) hTt h69
      refine Hv_mk hK (C_t124.1.2.2.2.2.2.2 hTt) C_t124 hT (by omega) (by omega) (by omega) ?_ ?_ ?_ (by omega) ?_ ?_ ?_
      · exact Stk_step (N := n) (pop := (42, n, t)) (new := []) F0 C_t124.1.to2 (fun (h : nk 42 = false) => absurd h (by decide)) (fun q _ h => h (42, n, t) rfl) (fun _ => rfl) (fun y hy hk => ⟨rfl, Mo_nil (n := n) y hy hk⟩) (fun (h : 42 = 3 ∨ 42 = 18 ∨ 42 = 41) => absurd h (by decide)) (fun (h : 42 = 18) => absurd h (by decide)) (fun _ h16 => (Or.inr ⟨f_n_t124, (Ab_none rfl), hH⟩)) r [] (fun y hy => absurd hy List.not_mem_nil) hS
      · exact Aj_tl hJ
      · show m_dp t124 = sD r
        have : dlt 42 = 0 := rfl; omega
      · show m_rw t124 = sR r
        have : rho 42 = 0 := rfl; omega
      · show m_md t124 + sM r ≤ 3 * m_at t124 + 7 * (r.length) + 10
        have : mu7 42 = 8 := rfl; omega
      · show sW r + 6 * (4096 - m_at t124) + 4 * (600 - (r.length)) < (wt 42 + sW r) + 6 * (4096 - m_at t0) + 4 * (600 - (r.length + 1))
        have : wt 42 = 5 := rfl; omega

