/-! The steps of the reference, one by one. -/
theorem Q_simpleRest_135 {t0 : Mm} {n t : Nat} {r : List It} (H : Hp t0 (42, n, t) r) {E : Mm → Prop}  (h0 : 0 < lo t0 (m_at t0)) : Ok (Qh (mz t0 ((42, n, t) :: r))) E (lp_X6_simpleRest_135 n (t &&& 255) (lo t0 (m_at t0)) t0) := by
  obtain ⟨hK, hT, hc, hw0, ha, hC, hS, hJ, hdp, hdl, hrw, hmd, htd, hln, hm16, hI, hD, hTt⟩ := Hp_out H
  have C_t0 := hC n
  have F0 := C_t0.2.1
  have I_n_t0 : Nq t0 n := ⟨(hI.2.1 rfl).1, (hI.2.1 rfl).2.1, (hI.2.1 rfl).2.2, hI.2.2.2 rfl⟩
  have m_n_t0 := I_n_t0.1
  have ht : t < 2097152 := hI.1.2.2.1 rfl
  have h255 : t &&& 255 ≤ 255 := Nat.and_le_right
  have hand2 : t &&& 255 &&& 1 ≤ 1 := Nat.and_le_right
  have hdp : m_dp t0 = dlt 42 + sD r := hdp
  have hrw : m_rw t0 = rho 42 + sR r := hrw
  have hmd : m_md t0 + mu7 42 + sM r ≤ 3 * m_at t0 + 7 * r.length + 17 := hmd
  have hand : t &&& 1 ≤ 1 := Nat.and_le_right
  have h01 : (0 &&& 1 : Nat) = 0 := rfl
  have hor0 : (t &&& 255 &&& 1) ||| 0 ≤ 1 := by rw [Nat.or_zero]; exact hand2
  have hor2 : (t &&& 255 &&& 1) ||| 2 < 4 := Nat.or_lt_two_pow (n := 2) (by omega) (by decide)
  have h02 : (1 : Nat) * 256 = 256 := rfl
  have hq1 : dlt 42 = 0 := rfl
  have hq2 : rho 42 = 0 := rfl
  have hq3 : mu7 42 = 8 := rfl
  have f_n_t0 : Fz t0 n := (hD.2.1 (show 42 = 2 ∨ 42 = 4 ∨ 42 = 42 ∨ 42 = 50 by decide)).resolve_right (fun ⟨y, hy, _⟩ => absurd hy List.not_mem_nil)
  obtain ⟨hla0, hla2, -, -⟩ := Fo_lp F0 I_n_t0 f_n_t0
  have hla1 : m_la t0 n - 1 < m_md t0 := by omega
  have u_n_t0 : Up t0 n := hI.2.2.1 rfl
  unfold lp_X6_simpleRest_135
  refine Ok_ife (Nat.lt_trans (lo_lt (C_t0.tk hT) _) (by decide)) (by decide) (fun q1 => ?_) (fun q1 => ?_)
  · refine Kp_wrap C_t0 I_n_t0.1 I_n_t0.2.1 f_n_t0 I_n_t0.2.2.1 (by omega) (by omega) (by decide) (fun t2 C_t2 X_t2 a_t2 b_t2 d_t2 w_t2 u_t2 v_t2 j_t2 l_t2 => ?_)
    have e_t2 := C_t2.2.2.2.1
    have I_n_t2 := I_n_t0.le X_t2 (by omega)
    have f_n_t2 := f_n_t0.ex I_n_t0 (X_t2 0 (Nat.zero_le _))
    have u_n_t2 := u_n_t0.ex I_n_t0 (X_t2 0 (Nat.zero_le _))
    have I_m_mdt0_t2 : Nq t2 (m_md t0) := Nq.wrn j_t2 (by omega) I_n_t0 (by decide)
    have f_m_mdt0_t2 : Fz t2 (m_md t0) := by unfold Fz; rw [j_t2.2.1]; exact j_t2.2.2.1
    have la_n_t2 : m_la t2 n = (m_md t0) + 1 := j_t2.2.2.2.2.2.2.2.1
    have wl_n_t2 : m_wh t2 (m_md t0) = 51 := j_t2.1
    have z_t3 : m_at t2 < m_ct t2 := lo_ne (Nat.ne_of_gt (show 0 < lo t2 (m_at t2) from by omega))
    refine Kp_at C_t2 (fun t3 C_t3 X_t3 a_t3 b_t3 d_t3 w_t3 u_t3 v_t3 j_t3 l_t3 => ?_)
    have e_t3 := C_t3.2.2.2.1
    rw [a_t2] at a_t3
    rw [b_t2] at b_t3
    rw [d_t2] at d_t3
    rw [w_t2] at w_t3
    rw [u_t2] at u_t3
    rw [v_t2] at v_t3
    rw [a_t2, e_t2] at z_t3
    clear d_t2 w_t2 u_t2 v_t2 e_t2 a_t2 b_t2
    have I_n_t3 := I_n_t2.flat X_t3
    have f_n_t3 := f_n_t2.ex I_n_t2 (X_t3 0)
    have u_n_t3 := u_n_t2.ex I_n_t2 (X_t3 0)
    have I_m_mdt0_t3 := I_m_mdt0_t2.flat X_t3
    have f_m_mdt0_t3 := f_m_mdt0_t2.ex I_m_mdt0_t2 (X_t3 0)
    have la_n_t3 : m_la t3 n = (m_md t0) + 1 := by rw [j_t3.2.2.1]; exact la_n_t2
    have wl_n_t3 : m_wh t3 ((m_md t0)) = 51 := by rw [j_t3.1]; exact wl_n_t2
    clear la_n_t2 wl_n_t2
    refine Ok_ife (Nat.lt_trans (lo_lt (C_t0.tk hT) _) (by decide)) (by decide) (fun q => absurd (q1.symm.trans q) (by decide)) (fun _ => ?_)
    refine Ok_ife (Nat.lt_trans (lo_lt (C_t0.tk hT) _) (by decide)) (by decide) (fun q => absurd (q1.symm.trans q) (by decide)) (fun _ => ?_)
    refine Ok_bnc ?_
    try unfold b_X6_expression
    refine Kp_push C_t3 (by omega) (fun t5 C_t5 X_t5 a_t5 b_t5 d_t5 w_t5 u_t5 v_t5 j_t5 l_t5 => ?_)
    have e_t5 := C_t5.2.2.2.1
    rw [a_t3] at a_t5
    rw [b_t3] at b_t5
    rw [d_t3] at d_t5
    rw [w_t3] at w_t5
    rw [u_t3] at u_t5
    rw [v_t3] at v_t5
    clear d_t3 w_t3 u_t3 v_t3 e_t3 a_t3 b_t3
    have I_n_t5 := I_n_t3.flat X_t5
    have f_n_t5 := f_n_t3.ex I_n_t3 (X_t5 0)
    have u_n_t5 := u_n_t3.ex I_n_t3 (X_t5 0)
    have I_m_mdt0_t5 := I_m_mdt0_t3.flat X_t5
    have f_m_mdt0_t5 := f_m_mdt0_t3.ex I_m_mdt0_t3 (X_t5 0)
    have la_n_t5 : m_la t5 n = (m_md t0) + 1 := by rw [j_t5.2.2.1]; exact la_n_t3
    have wl_n_t5 : m_wh t5 ((m_md t0)) = 51 := by rw [j_t5.1]; exact wl_n_t3
    clear la_n_t3 wl_n_t3
    refine Kp_push C_t5 (by omega) (fun t6 C_t6 X_t6 a_t6 b_t6 d_t6 w_t6 u_t6 v_t6 j_t6 l_t6 => ?_)
    have e_t6 := C_t6.2.2.2.1
    rw [a_t5] at a_t6
    rw [b_t5] at b_t6
    rw [d_t5] at d_t6
    rw [w_t5] at w_t6
    rw [u_t5] at u_t6
    rw [v_t5] at v_t6
    clear d_t5 w_t5 u_t5 v_t5 e_t5 a_t5 b_t5
    have I_n_t6 := I_n_t5.flat X_t6
    have f_n_t6 := f_n_t5.ex I_n_t5 (X_t6 0)
    have u_n_t6 := u_n_t5.ex I_n_t5 (X_t6 0)
    have I_m_mdt0_t6 := I_m_mdt0_t5.flat X_t6
    have f_m_mdt0_t6 := f_m_mdt0_t5.ex I_m_mdt0_t5 (X_t6 0)
    have la_n_t6 : m_la t6 n = (m_md t0) + 1 := by rw [j_t6.2.2.1]; exact la_n_t5
    have wl_n_t6 : m_wh t6 ((m_md t0)) = 51 := by rw [j_t6.1]; exact wl_n_t5
    clear la_n_t5 wl_n_t5
    refine Ok_ret (show Ok _ _ _ from ?_)
    try unfold lp_X6_simpleRest_218
    refine Hv_mk (Kv_c (x := (3, m_md t0, (t &&& 255) &&& 1)) rfl (Kv_c (x := (2, m_md t0, ((t &&& 255) &&& 1) ||| (1 * 256))) rfl hK)) (C_t6.1.2.2.2.2.2.2 hTt) C_t6 hT (by omega) (by omega) (by omega) ?_ ?_ ?_ (by omega) ?_ ?_ ?_
    · exact ⟨(Io_n (by decide) (show (t &&& 255) &&& 1 < 4096 from by omega) I_m_mdt0_t6.1 I_m_mdt0_t6.2.1 I_m_mdt0_t6.2.2.1 (fun q => absurd q (by decide)) (fun q => absurd q (by decide)) I_m_mdt0_t6.2.2.2), (Nd_0 (by decide) Mo_nil), ⟨(Io_2 (by have := or_256 (b := 1) (show ((t &&& 255) &&& 1) < 256 from by omega); omega) (by have := or_256 (b := 1) (show ((t &&& 255) &&& 1) < 256 from by omega); omega) (by have := or_256 (b := 1) (show ((t &&& 255) &&& 1) < 256 from by omega); omega) I_m_mdt0_t6.1 I_m_mdt0_t6.2.1 I_m_mdt0_t6.2.2.1 I_m_mdt0_t6.2.2.2), (Nd_A (by decide) (Mo_cons (fun q => show m_md t0 ≤ m_md t0 from by omega) Mo_nil) (Or.inr ⟨(3, m_md t0, (t &&& 255) &&& 1), List.mem_cons_self, rfl, Or.inl rfl⟩)), Stk_step (N := n) (pop := (42, n, t)) (new := [(2, m_md t0, ((t &&& 255) &&& 1) ||| (1 * 256)), (3, m_md t0, (t &&& 255) &&& 1)]) F0 C_t6.1.to2 (fun (h : nk 42 = false) => absurd h (by decide)) (fun q _ h => h (42, n, t) rfl) (fun _ => rfl) (fun y hy hk => ⟨rfl, (Mo_cons (fun q => show n ≤ m_md t0 from by omega) (Mo_cons (fun q => show n ≤ m_md t0 from by omega) Mo_nil)) y hy hk⟩) (fun (h : 42 = 3 ∨ 42 = 18 ∨ 42 = 41) => absurd h (by decide)) (fun (h : 42 = 18) => absurd h (by decide)) (fun _ h16 => (Or.inr ⟨f_n_t6, (Ab_some (y := (2, m_md t0, ((t &&& 255) &&& 1) ||| (1 * 256))) rfl (show n < m_md t0 from by omega)), H50_no la_n_t6 wl_n_t6 (by decide)⟩)) r [] (fun y hy => absurd hy List.not_mem_nil) hS⟩⟩
    · exact (Aj_up (x := (3, m_md t0, (t &&& 255) &&& 1)) (Aj_sub (y := (2, m_md t0, ((t &&& 255) &&& 1) ||| (1 * 256))) hJ (show 9 - (((t &&& 255) &&& 1) ||| (1 * 256)) / 256 ≤ 10 from by have := or_256 (b := 1) (show ((t &&& 255) &&& 1) < 256 from by omega); omega)) (Or.inr (show 2 < 9 - (((t &&& 255) &&& 1) ||| (1 * 256)) / 256 from by have := or_256 (b := 1) (show ((t &&& 255) &&& 1) < 256 from by omega); omega)))
    · show m_dp t6 = (dlt 3 + (dlt 2 + sD r))
      have : dlt 2 = 0 := rfl; have : dlt 3 = 0 := rfl; have : dlt 42 = 0 := rfl; omega
    · show m_rw t6 = (rho 3 + (rho 2 + sR r))
      have : rho 2 = 0 := rfl; have : rho 3 = 0 := rfl; have : rho 42 = 0 := rfl; omega
    · show m_md t6 + (mu7 3 + (mu7 2 + sM r)) ≤ 3 * m_at t6 + 7 * (r.length + 1 + 1) + 10
      have : mu7 2 = 7 := rfl; have : mu7 3 = 5 := rfl; have : mu7 42 = 8 := rfl; omega
    · show (wt 3 + (wt 2 + sW r)) + 6 * (4096 - m_at t6) + 4 * (600 - (r.length + 1 + 1)) < (wt 42 + sW r) + 6 * (4096 - m_at t0) + 4 * (600 - (r.length + 1))
      have : wt 2 = 5 := rfl; have : wt 3 = 3 := rfl; have : wt 42 = 5 := rfl; omega
  · refine Ok_ife (Nat.lt_trans (lo_lt (C_t0.tk hT) _) (by decide)) (by decide) (fun q7 => ?_) (fun q7 => ?_)
    · refine Kp_wrap C_t0 I_n_t0.1 I_n_t0.2.1 f_n_t0 I_n_t0.2.2.1 (by omega) (by omega) (by decide) (fun t8 C_t8 X_t8 a_t8 b_t8 d_t8 w_t8 u_t8 v_t8 j_t8 l_t8 => ?_)
      have e_t8 := C_t8.2.2.2.1
      have I_n_t8 := I_n_t0.le X_t8 (by omega)
      have f_n_t8 := f_n_t0.ex I_n_t0 (X_t8 0 (Nat.zero_le _))
      have u_n_t8 := u_n_t0.ex I_n_t0 (X_t8 0 (Nat.zero_le _))
      have I_m_mdt0_t8 : Nq t8 (m_md t0) := Nq.wrn j_t8 (by omega) I_n_t0 (by decide)
      have f_m_mdt0_t8 : Fz t8 (m_md t0) := by unfold Fz; rw [j_t8.2.1]; exact j_t8.2.2.1
      have la_n_t8 : m_la t8 n = (m_md t0) + 1 := j_t8.2.2.2.2.2.2.2.1
      have wl_n_t8 : m_wh t8 (m_md t0) = 52 := j_t8.1
      have z_t9 : m_at t8 < m_ct t8 := lo_ne (Nat.ne_of_gt (show 0 < lo t8 (m_at t8) from by omega))
      refine Kp_at C_t8 (fun t9 C_t9 X_t9 a_t9 b_t9 d_t9 w_t9 u_t9 v_t9 j_t9 l_t9 => ?_)
      have e_t9 := C_t9.2.2.2.1
      rw [a_t8] at a_t9
      rw [b_t8] at b_t9
      rw [d_t8] at d_t9
      rw [w_t8] at w_t9
      rw [u_t8] at u_t9
      rw [v_t8] at v_t9
      rw [a_t8, e_t8] at z_t9
      clear d_t8 w_t8 u_t8 v_t8 e_t8 a_t8 b_t8
      have I_n_t9 := I_n_t8.flat X_t9
      have f_n_t9 := f_n_t8.ex I_n_t8 (X_t9 0)
      have u_n_t9 := u_n_t8.ex I_n_t8 (X_t9 0)
      have I_m_mdt0_t9 := I_m_mdt0_t8.flat X_t9
      have f_m_mdt0_t9 := f_m_mdt0_t8.ex I_m_mdt0_t8 (X_t9 0)
      have la_n_t9 : m_la t9 n = (m_md t0) + 1 := by rw [j_t9.2.2.1]; exact la_n_t8
      have wl_n_t9 : m_wh t9 ((m_md t0)) = 52 := by rw [j_t9.1]; exact wl_n_t8
      clear la_n_t8 wl_n_t8
      refine Ok_ife (Nat.lt_trans (lo_lt (C_t0.tk hT) _) (by decide)) (by decide) (fun q => ?_) (fun q => absurd q7 q)
      try unfold lp_X6_simpleRest_218
      refine Hv_mk hK (C_t9.1.2.2.2.2.2.2 hTt) C_t9 hT (by omega) (by omega) (by omega) ?_ ?_ ?_ (by omega) ?_ ?_ ?_
      · exact Stk_step (N := n) (pop := (42, n, t)) (new := []) F0 C_t9.1.to2 (fun (h : nk 42 = false) => absurd h (by decide)) (fun q _ h => h (42, n, t) rfl) (fun _ => rfl) (fun y hy hk => ⟨rfl, Mo_nil (n := n) y hy hk⟩) (fun (h : 42 = 3 ∨ 42 = 18 ∨ 42 = 41) => absurd h (by decide)) (fun (h : 42 = 18) => absurd h (by decide)) (fun _ h16 => (Or.inr ⟨f_n_t9, (Ab_none rfl), H50_no la_n_t9 wl_n_t9 (by decide)⟩)) r [] (fun y hy => absurd hy List.not_mem_nil) hS
      · exact Aj_tl hJ
      · show m_dp t9 = sD r
        have : dlt 42 = 0 := rfl; omega
      · show m_rw t9 = sR r
        have : rho 42 = 0 := rfl; omega
      · show m_md t9 + sM r ≤ 3 * m_at t9 + 7 * (r.length) + 10
        have : mu7 42 = 8 := rfl; omega
      · show sW r + 6 * (4096 - m_at t9) + 4 * (600 - (r.length)) < (wt 42 + sW r) + 6 * (4096 - m_at t0) + 4 * (600 - (r.length + 1))
        have : wt 42 = 5 := rfl; omega
    · refine Ok_ife (Nat.lt_trans (lo_lt (C_t0.tk hT) _) (by decide)) (by decide) (fun q10 => ?_) (fun q10 => ?_)
      · refine Kp_wrap C_t0 I_n_t0.1 I_n_t0.2.1 f_n_t0 I_n_t0.2.2.1 (by omega) (by omega) (by decide) (fun t11 C_t11 X_t11 a_t11 b_t11 d_t11 w_t11 u_t11 v_t11 j_t11 l_t11 => ?_)
        have e_t11 := C_t11.2.2.2.1
        have I_n_t11 := I_n_t0.le X_t11 (by omega)
        have f_n_t11 := f_n_t0.ex I_n_t0 (X_t11 0 (Nat.zero_le _))
        have u_n_t11 := u_n_t0.ex I_n_t0 (X_t11 0 (Nat.zero_le _))
        have I_m_mdt0_t11 : Nq t11 (m_md t0) := Nq.wrn j_t11 (by omega) I_n_t0 (by decide)
        have f_m_mdt0_t11 : Fz t11 (m_md t0) := by unfold Fz; rw [j_t11.2.1]; exact j_t11.2.2.1
        have la_n_t11 : m_la t11 n = (m_md t0) + 1 := j_t11.2.2.2.2.2.2.2.1
        have wl_n_t11 : m_wh t11 (m_md t0) = 53 := j_t11.1
        have z_t12 : m_at t11 < m_ct t11 := lo_ne (Nat.ne_of_gt (show 0 < lo t11 (m_at t11) from by omega))
        refine Kp_at C_t11 (fun t12 C_t12 X_t12 a_t12 b_t12 d_t12 w_t12 u_t12 v_t12 j_t12 l_t12 => ?_)
        have e_t12 := C_t12.2.2.2.1
        rw [a_t11] at a_t12
        rw [b_t11] at b_t12
        rw [d_t11] at d_t12
        rw [w_t11] at w_t12
        rw [u_t11] at u_t12
        rw [v_t11] at v_t12
        rw [a_t11, e_t11] at z_t12
        clear d_t11 w_t11 u_t11 v_t11 e_t11 a_t11 b_t11
        have I_n_t12 := I_n_t11.flat X_t12
        have f_n_t12 := f_n_t11.ex I_n_t11 (X_t12 0)
        have u_n_t12 := u_n_t11.ex I_n_t11 (X_t12 0)
        have I_m_mdt0_t12 := I_m_mdt0_t11.flat X_t12
        have f_m_mdt0_t12 := f_m_mdt0_t11.ex I_m_mdt0_t11 (X_t12 0)
        have la_n_t12 : m_la t12 n = (m_md t0) + 1 := by rw [j_t12.2.2.1]; exact la_n_t11
        have wl_n_t12 : m_wh t12 ((m_md t0)) = 53 := by rw [j_t12.1]; exact wl_n_t11
        clear la_n_t11 wl_n_t11
        refine Ok_ife (Nat.lt_trans (lo_lt (C_t0.tk hT) _) (by decide)) (by decide) (fun q => absurd q q7) (fun q => ?_)
        refine Ok_ife (Nat.lt_trans (lo_lt (C_t0.tk hT) _) (by decide)) (by decide) (fun q => ?_) (fun q => absurd q10 q)
        try unfold lp_X6_simpleRest_218
        refine Hv_mk hK (C_t12.1.2.2.2.2.2.2 hTt) C_t12 hT (by omega) (by omega) (by omega) ?_ ?_ ?_ (by omega) ?_ ?_ ?_
        · exact Stk_step (N := n) (pop := (42, n, t)) (new := []) F0 C_t12.1.to2 (fun (h : nk 42 = false) => absurd h (by decide)) (fun q _ h => h (42, n, t) rfl) (fun _ => rfl) (fun y hy hk => ⟨rfl, Mo_nil (n := n) y hy hk⟩) (fun (h : 42 = 3 ∨ 42 = 18 ∨ 42 = 41) => absurd h (by decide)) (fun (h : 42 = 18) => absurd h (by decide)) (fun _ h16 => (Or.inr ⟨f_n_t12, (Ab_none rfl), H50_no la_n_t12 wl_n_t12 (by decide)⟩)) r [] (fun y hy => absurd hy List.not_mem_nil) hS
        · exact Aj_tl hJ
        · show m_dp t12 = sD r
          have : dlt 42 = 0 := rfl; omega
        · show m_rw t12 = sR r
          have : rho 42 = 0 := rfl; omega
        · show m_md t12 + sM r ≤ 3 * m_at t12 + 7 * (r.length) + 10
          have : mu7 42 = 8 := rfl; omega
        · show sW r + 6 * (4096 - m_at t12) + 4 * (600 - (r.length)) < (wt 42 + sW r) + 6 * (4096 - m_at t0) + 4 * (600 - (r.length + 1))
          have : wt 42 = 5 := rfl; omega
      · refine Kp_wrap C_t0 I_n_t0.1 I_n_t0.2.1 f_n_t0 I_n_t0.2.2.1 (by omega) (by omega) (by decide) (fun t13 C_t13 X_t13 a_t13 b_t13 d_t13 w_t13 u_t13 v_t13 j_t13 l_t13 => ?_)
        have e_t13 := C_t13.2.2.2.1
        have I_n_t13 := I_n_t0.le X_t13 (by omega)
        have f_n_t13 := f_n_t0.ex I_n_t0 (X_t13 0 (Nat.zero_le _))
        have u_n_t13 := u_n_t0.ex I_n_t0 (X_t13 0 (Nat.zero_le _))
        have I_m_mdt0_t13 : Nq t13 (m_md t0) := Nq.wrn j_t13 (by omega) I_n_t0 (by decide)
        have f_m_mdt0_t13 : Fz t13 (m_md t0) := by unfold Fz; rw [j_t13.2.1]; exact j_t13.2.2.1
        have la_n_t13 : m_la t13 n = (m_md t0) + 1 := j_t13.2.2.2.2.2.2.2.1
        have wl_n_t13 : m_wh t13 (m_md t0) = 55 := j_t13.1
        have z_t14 : m_at t13 < m_ct t13 := lo_ne (Nat.ne_of_gt (show 0 < lo t13 (m_at t13) from by omega))
        refine Kp_at C_t13 (fun t14 C_t14 X_t14 a_t14 b_t14 d_t14 w_t14 u_t14 v_t14 j_t14 l_t14 => ?_)
        have e_t14 := C_t14.2.2.2.1
        rw [a_t13] at a_t14
        rw [b_t13] at b_t14
        rw [d_t13] at d_t14
        rw [w_t13] at w_t14
        rw [u_t13] at u_t14
        rw [v_t13] at v_t14
        rw [a_t13, e_t13] at z_t14
        clear d_t13 w_t13 u_t13 v_t13 e_t13 a_t13 b_t13
        have I_n_t14 := I_n_t13.flat X_t14
        have f_n_t14 := f_n_t13.ex I_n_t13 (X_t14 0)
        have u_n_t14 := u_n_t13.ex I_n_t13 (X_t14 0)
        have I_m_mdt0_t14 := I_m_mdt0_t13.flat X_t14
        have f_m_mdt0_t14 := f_m_mdt0_t13.ex I_m_mdt0_t13 (X_t14 0)
        have la_n_t14 : m_la t14 n = (m_md t0) + 1 := by rw [j_t14.2.2.1]; exact la_n_t13
        have wl_n_t14 : m_wh t14 ((m_md t0)) = 55 := by rw [j_t14.1]; exact wl_n_t13
        clear la_n_t13 wl_n_t13
        refine Ok_ife (Nat.lt_trans (lo_lt (C_t0.tk hT) _) (by decide)) (by decide) (fun q => absurd q q7) (fun q => ?_)
        refine Ok_ife (Nat.lt_trans (lo_lt (C_t0.tk hT) _) (by decide)) (by decide) (fun q => absurd q q10) (fun q => ?_)
        refine Ok_bnc ?_
        try unfold b_X6_expression
        refine Kp_push C_t14 (by omega) (fun t16 C_t16 X_t16 a_t16 b_t16 d_t16 w_t16 u_t16 v_t16 j_t16 l_t16 => ?_)
        have e_t16 := C_t16.2.2.2.1
        rw [a_t14] at a_t16
        rw [b_t14] at b_t16
        rw [d_t14] at d_t16
        rw [w_t14] at w_t16
        rw [u_t14] at u_t16
        rw [v_t14] at v_t16
        clear d_t14 w_t14 u_t14 v_t14 e_t14 a_t14 b_t14
        have I_n_t16 := I_n_t14.flat X_t16
        have f_n_t16 := f_n_t14.ex I_n_t14 (X_t16 0)
        have u_n_t16 := u_n_t14.ex I_n_t14 (X_t16 0)
        have I_m_mdt0_t16 := I_m_mdt0_t14.flat X_t16
        have f_m_mdt0_t16 := f_m_mdt0_t14.ex I_m_mdt0_t14 (X_t16 0)
        have la_n_t16 : m_la t16 n = (m_md t0) + 1 := by rw [j_t16.2.2.1]; exact la_n_t14
        have wl_n_t16 : m_wh t16 ((m_md t0)) = 55 := by rw [j_t16.1]; exact wl_n_t14
        clear la_n_t14 wl_n_t14
        refine Kp_push C_t16 (by omega) (fun t17 C_t17 X_t17 a_t17 b_t17 d_t17 w_t17 u_t17 v_t17 j_t17 l_t17 => ?_)
        have e_t17 := C_t17.2.2.2.1
        rw [a_t16] at a_t17
        rw [b_t16] at b_t17
        rw [d_t16] at d_t17
        rw [w_t16] at w_t17
        rw [u_t16] at u_t17
        rw [v_t16] at v_t17
        clear d_t16 w_t16 u_t16 v_t16 e_t16 a_t16 b_t16
        have I_n_t17 := I_n_t16.flat X_t17
        have f_n_t17 := f_n_t16.ex I_n_t16 (X_t17 0)
        have u_n_t17 := u_n_t16.ex I_n_t16 (X_t17 0)
        have I_m_mdt0_t17 := I_m_mdt0_t16.flat X_t17
        have f_m_mdt0_t17 := f_m_mdt0_t16.ex I_m_mdt0_t16 (X_t17 0)
        have la_n_t17 : m_la t17 n = (m_md t0) + 1 := by rw [j_t17.2.2.1]; exact la_n_t16
        have wl_n_t17 : m_wh t17 ((m_md t0)) = 55 := by rw [j_t17.1]; exact wl_n_t16
        clear la_n_t16 wl_n_t16
        refine Ok_ret (show Ok _ _ _ from ?_)
        try unfold lp_X6_simpleRest_218
        refine Hv_mk (Kv_c (x := (3, m_md t0, (t &&& 255) &&& 1)) rfl (Kv_c (x := (2, m_md t0, ((t &&& 255) &&& 1) ||| (1 * 256))) rfl hK)) (C_t17.1.2.2.2.2.2.2 hTt) C_t17 hT (by omega) (by omega) (by omega) ?_ ?_ ?_ (by omega) ?_ ?_ ?_
        · exact ⟨(Io_n (by decide) (show (t &&& 255) &&& 1 < 4096 from by omega) I_m_mdt0_t17.1 I_m_mdt0_t17.2.1 I_m_mdt0_t17.2.2.1 (fun q => absurd q (by decide)) (fun q => absurd q (by decide)) I_m_mdt0_t17.2.2.2), (Nd_0 (by decide) Mo_nil), ⟨(Io_2 (by have := or_256 (b := 1) (show ((t &&& 255) &&& 1) < 256 from by omega); omega) (by have := or_256 (b := 1) (show ((t &&& 255) &&& 1) < 256 from by omega); omega) (by have := or_256 (b := 1) (show ((t &&& 255) &&& 1) < 256 from by omega); omega) I_m_mdt0_t17.1 I_m_mdt0_t17.2.1 I_m_mdt0_t17.2.2.1 I_m_mdt0_t17.2.2.2), (Nd_A (by decide) (Mo_cons (fun q => show m_md t0 ≤ m_md t0 from by omega) Mo_nil) (Or.inr ⟨(3, m_md t0, (t &&& 255) &&& 1), List.mem_cons_self, rfl, Or.inl rfl⟩)), Stk_step (N := n) (pop := (42, n, t)) (new := [(2, m_md t0, ((t &&& 255) &&& 1) ||| (1 * 256)), (3, m_md t0, (t &&& 255) &&& 1)]) F0 C_t17.1.to2 (fun (h : nk 42 = false) => absurd h (by decide)) (fun q _ h => h (42, n, t) rfl) (fun _ => rfl) (fun y hy hk => ⟨rfl, (Mo_cons (fun q => show n ≤ m_md t0 from by omega) (Mo_cons (fun q => show n ≤ m_md t0 from by omega) Mo_nil)) y hy hk⟩) (fun (h : 42 = 3 ∨ 42 = 18 ∨ 42 = 41) => absurd h (by decide)) (fun (h : 42 = 18) => absurd h (by decide)) (fun _ h16 => (Or.inr ⟨f_n_t17, (Ab_some (y := (2, m_md t0, ((t &&& 255) &&& 1) ||| (1 * 256))) rfl (show n < m_md t0 from by omega)), H50_no la_n_t17 wl_n_t17 (by decide)⟩)) r [] (fun y hy => absurd hy List.not_mem_nil) hS⟩⟩
        · exact (Aj_up (x := (3, m_md t0, (t &&& 255) &&& 1)) (Aj_sub (y := (2, m_md t0, ((t &&& 255) &&& 1) ||| (1 * 256))) hJ (show 9 - (((t &&& 255) &&& 1) ||| (1 * 256)) / 256 ≤ 10 from by have := or_256 (b := 1) (show ((t &&& 255) &&& 1) < 256 from by omega); omega)) (Or.inr (show 2 < 9 - (((t &&& 255) &&& 1) ||| (1 * 256)) / 256 from by have := or_256 (b := 1) (show ((t &&& 255) &&& 1) < 256 from by omega); omega)))
        · show m_dp t17 = (dlt 3 + (dlt 2 + sD r))
          have : dlt 2 = 0 := rfl; have : dlt 3 = 0 := rfl; have : dlt 42 = 0 := rfl; omega
        · show m_rw t17 = (rho 3 + (rho 2 + sR r))
          have : rho 2 = 0 := rfl; have : rho 3 = 0 := rfl; have : rho 42 = 0 := rfl; omega
        · show m_md t17 + (mu7 3 + (mu7 2 + sM r)) ≤ 3 * m_at t17 + 7 * (r.length + 1 + 1) + 10
          have : mu7 2 = 7 := rfl; have : mu7 3 = 5 := rfl; have : mu7 42 = 8 := rfl; omega
        · show (wt 3 + (wt 2 + sW r)) + 6 * (4096 - m_at t17) + 4 * (600 - (r.length + 1 + 1)) < (wt 42 + sW r) + 6 * (4096 - m_at t0) + 4 * (600 - (r.length + 1))
          have : wt 2 = 5 := rfl; have : wt 3 = 3 := rfl; have : wt 42 = 5 := rfl; omega

theorem Q_simpleRest_221_t84 {t0 : Mm} {n t : Nat} {r : List It} (H : Hp t0 (42, n, t) r) {E : Mm → Prop} (y6 : Nat) (h6 : y6 ≤ 1) (h69 : m_wh t0 (m_la t0 n - 1) ≠ 69) (hk0 : lo t0 (m_at t0) = 84) : Ok (Qh (mz t0 ((42, n, t) :: r))) E (lp_X6_simpleRest_221 n (t &&& 255) (t / 256) (lo t0 (m_at t0)) y6 t0) := by
  obtain ⟨hK, hT, hc, hw0, ha, hC, hS, hJ, hdp, hdl, hrw, hmd, htd, hln, hm16, hI, hD, hTt⟩ := Hp_out H
  have C_t0 := hC n
  have F0 := C_t0.2.1
  have I_n_t0 : Nq t0 n := ⟨(hI.2.1 rfl).1, (hI.2.1 rfl).2.1, (hI.2.1 rfl).2.2, hI.2.2.2 rfl⟩
  have m_n_t0 := I_n_t0.1
  have ht : t < 2097152 := hI.1.2.2.1 rfl
  have h255 : t &&& 255 ≤ 255 := Nat.and_le_right
  have hand2 : t &&& 255 &&& 1 ≤ 1 := Nat.and_le_right
  have hdp : m_dp t0 = dlt 42 + sD r := hdp
  have hrw : m_rw t0 = rho 42 + sR r := hrw
  have hmd : m_md t0 + mu7 42 + sM r ≤ 3 * m_at t0 + 7 * r.length + 17 := hmd
  have hand : t &&& 1 ≤ 1 := Nat.and_le_right
  have h01 : (0 &&& 1 : Nat) = 0 := rfl
  have hor0 : (t &&& 255 &&& 1) ||| 0 ≤ 1 := by rw [Nat.or_zero]; exact hand2
  have hor2 : (t &&& 255 &&& 1) ||| 2 < 4 := Nat.or_lt_two_pow (n := 2) (by omega) (by decide)
  have h02 : (1 : Nat) * 256 = 256 := rfl
  have hq1 : dlt 42 = 0 := rfl
  have hq2 : rho 42 = 0 := rfl
  have hq3 : mu7 42 = 8 := rfl
  have f_n_t0 : Fz t0 n := (hD.2.1 (show 42 = 2 ∨ 42 = 4 ∨ 42 = 42 ∨ 42 = 50 by decide)).resolve_right (fun ⟨y, hy, _⟩ => absurd hy List.not_mem_nil)
  obtain ⟨hla0, hla2, -, -⟩ := Fo_lp F0 I_n_t0 f_n_t0
  have hla1 : m_la t0 n - 1 < m_md t0 := by omega
  have u_n_t0 : Up t0 n := hI.2.2.1 rfl
  unfold lp_X6_simpleRest_221
  refine Ok_ife (Nat.lt_trans (lo_lt (C_t0.tk hT) _) (by decide)) (by decide) (fun q => ?_) (fun q => absurd hk0 q)
  refine Kp_wrap C_t0 I_n_t0.1 I_n_t0.2.1 f_n_t0 I_n_t0.2.2.1 (by omega) (by omega) (by decide) (fun t1 C_t1 X_t1 a_t1 b_t1 d_t1 w_t1 u_t1 v_t1 j_t1 l_t1 => ?_)
  have e_t1 := C_t1.2.2.2.1
  have I_n_t1 := I_n_t0.le X_t1 (by omega)
  have f_n_t1 := f_n_t0.ex I_n_t0 (X_t1 0 (Nat.zero_le _))
  have u_n_t1 := u_n_t0.ex I_n_t0 (X_t1 0 (Nat.zero_le _))
  have I_m_mdt0_t1 : Nq t1 (m_md t0) := Nq.wrn j_t1 (by omega) I_n_t0 (by decide)
  have f_m_mdt0_t1 : Fz t1 (m_md t0) := by unfold Fz; rw [j_t1.2.1]; exact j_t1.2.2.1
  have la_n_t1 : m_la t1 n = (m_md t0) + 1 := j_t1.2.2.2.2.2.2.2.1
  have wl_n_t1 : m_wh t1 (m_md t0) = 13 := j_t1.1
  have z_t2 : m_at t1 < m_ct t1 := lo_ne (Nat.ne_of_gt (show 0 < lo t1 (m_at t1) from by omega))
  refine Kp_at C_t1 (fun t2 C_t2 X_t2 a_t2 b_t2 d_t2 w_t2 u_t2 v_t2 j_t2 l_t2 => ?_)
  have e_t2 := C_t2.2.2.2.1
  rw [a_t1] at a_t2
  rw [b_t1] at b_t2
  rw [d_t1] at d_t2
  rw [w_t1] at w_t2
  rw [u_t1] at u_t2
  rw [v_t1] at v_t2
  rw [a_t1, e_t1] at z_t2
  clear d_t1 w_t1 u_t1 v_t1 e_t1 a_t1 b_t1
  have I_n_t2 := I_n_t1.flat X_t2
  have f_n_t2 := f_n_t1.ex I_n_t1 (X_t2 0)
  have u_n_t2 := u_n_t1.ex I_n_t1 (X_t2 0)
  have I_m_mdt0_t2 := I_m_mdt0_t1.flat X_t2
  have f_m_mdt0_t2 := f_m_mdt0_t1.ex I_m_mdt0_t1 (X_t2 0)
  have la_n_t2 : m_la t2 n = (m_md t0) + 1 := by rw [j_t2.2.2.1]; exact la_n_t1
  have wl_n_t2 : m_wh t2 ((m_md t0)) = 13 := by rw [j_t2.1]; exact wl_n_t1
  clear la_n_t1 wl_n_t1
  refine Kp_push C_t2 (by omega) (fun t3 C_t3 X_t3 a_t3 b_t3 d_t3 w_t3 u_t3 v_t3 j_t3 l_t3 => ?_)
  have e_t3 := C_t3.2.2.2.1
  rw [a_t2] at a_t3
  rw [b_t2] at b_t3
  rw [d_t2] at d_t3
  rw [w_t2] at w_t3
  rw [u_t2] at u_t3
  rw [v_t2] at v_t3
  clear d_t2 w_t2 u_t2 v_t2 e_t2 a_t2 b_t2
  have I_n_t3 := I_n_t2.flat X_t3
  have f_n_t3 := f_n_t2.ex I_n_t2 (X_t3 0)
  have u_n_t3 := u_n_t2.ex I_n_t2 (X_t3 0)
  have I_m_mdt0_t3 := I_m_mdt0_t2.flat X_t3
  have f_m_mdt0_t3 := f_m_mdt0_t2.ex I_m_mdt0_t2 (X_t3 0)
  have la_n_t3 : m_la t3 n = (m_md t0) + 1 := by rw [j_t3.2.2.1]; exact la_n_t2
  have wl_n_t3 : m_wh t3 ((m_md t0)) = 13 := by rw [j_t3.1]; exact wl_n_t2
  clear la_n_t2 wl_n_t2
  refine Kp_push C_t3 (by omega) (fun t4 C_t4 X_t4 a_t4 b_t4 d_t4 w_t4 u_t4 v_t4 j_t4 l_t4 => ?_)
  have e_t4 := C_t4.2.2.2.1
  rw [a_t3] at a_t4
  rw [b_t3] at b_t4
  rw [d_t3] at d_t4
  rw [w_t3] at w_t4
  rw [u_t3] at u_t4
  rw [v_t3] at v_t4
  clear d_t3 w_t3 u_t3 v_t3 e_t3 a_t3 b_t3
  have I_n_t4 := I_n_t3.flat X_t4
  have f_n_t4 := f_n_t3.ex I_n_t3 (X_t4 0)
  have u_n_t4 := u_n_t3.ex I_n_t3 (X_t4 0)
  have I_m_mdt0_t4 := I_m_mdt0_t3.flat X_t4
  have f_m_mdt0_t4 := f_m_mdt0_t3.ex I_m_mdt0_t3 (X_t4 0)
  have la_n_t4 : m_la t4 n = (m_md t0) + 1 := by rw [j_t4.2.2.1]; exact la_n_t3
  have wl_n_t4 : m_wh t4 ((m_md t0)) = 13 := by rw [j_t4.1]; exact wl_n_t3
  clear la_n_t3 wl_n_t3
  refine Ok_bnc ?_
  try unfold b_X6_expression
  refine Kp_push C_t4 (by omega) (fun t6 C_t6 X_t6 a_t6 b_t6 d_t6 w_t6 u_t6 v_t6 j_t6 l_t6 => ?_)
  have e_t6 := C_t6.2.2.2.1
  rw [a_t4] at a_t6
  rw [b_t4] at b_t6
  rw [d_t4] at d_t6
  rw [w_t4] at w_t6
  rw [u_t4] at u_t6
  rw [v_t4] at v_t6
  clear d_t4 w_t4 u_t4 v_t4 e_t4 a_t4 b_t4
  have I_n_t6 := I_n_t4.flat X_t6
  have f_n_t6 := f_n_t4.ex I_n_t4 (X_t6 0)
  have u_n_t6 := u_n_t4.ex I_n_t4 (X_t6 0)
  have I_m_mdt0_t6 := I_m_mdt0_t4.flat X_t6
  have f_m_mdt0_t6 := f_m_mdt0_t4.ex I_m_mdt0_t4 (X_t6 0)
  have la_n_t6 : m_la t6 n = (m_md t0) + 1 := by rw [j_t6.2.2.1]; exact la_n_t4
  have wl_n_t6 : m_wh t6 ((m_md t0)) = 13 := by rw [j_t6.1]; exact wl_n_t4
  clear la_n_t4 wl_n_t4
  refine Kp_push C_t6 (by omega) (fun t7 C_t7 X_t7 a_t7 b_t7 d_t7 w_t7 u_t7 v_t7 j_t7 l_t7 => ?_)
  have e_t7 := C_t7.2.2.2.1
  rw [a_t6] at a_t7
  rw [b_t6] at b_t7
  rw [d_t6] at d_t7
  rw [w_t6] at w_t7
  rw [u_t6] at u_t7
  rw [v_t6] at v_t7
  clear d_t6 w_t6 u_t6 v_t6 e_t6 a_t6 b_t6
  have I_n_t7 := I_n_t6.flat X_t7
  have f_n_t7 := f_n_t6.ex I_n_t6 (X_t7 0)
  have u_n_t7 := u_n_t6.ex I_n_t6 (X_t7 0)
  have I_m_mdt0_t7 := I_m_mdt0_t6.flat X_t7
  have f_m_mdt0_t7 := f_m_mdt0_t6.ex I_m_mdt0_t6 (X_t7 0)
  have la_n_t7 : m_la t7 n = (m_md t0) + 1 := by rw [j_t7.2.2.1]; exact la_n_t6
  have wl_n_t7 : m_wh t7 ((m_md t0)) = 13 := by rw [j_t7.1]; exact wl_n_t6
  clear la_n_t6 wl_n_t6
  refine Ok_ret (show Ok _ _ _ from ?_)
  have h43 : m_fi t7 n ≠ 0 ∧ Ab n [(32, m_md t0, (t &&& 255) &&& 1), (2, m_md t0, ((t &&& 255) &&& 1) ||| (1 * 256)), (3, m_md t0, (t &&& 255) &&& 1)] ∧ m_la t7 n ≠ 0 ∧ GdS t7 (m_la t7 n - 1) ∧ m_wh t7 (m_la t7 n - 1) ≠ 50 := by rw [la_n_t7, Nat.add_sub_cancel]; exact ⟨f_n_t7, (Ab_some (y := (32, m_md t0, (t &&& 255) &&& 1)) rfl (show n < m_md t0 from by omega)), Nat.succ_ne_zero _, I_m_mdt0_t7.2.1, I_m_mdt0_t7.2.2.1⟩
  refine Hv_mk (Kv_c (x := (3, m_md t0, (t &&& 255) &&& 1)) rfl (Kv_c (x := (2, m_md t0, ((t &&& 255) &&& 1) ||| (1 * 256))) rfl (Kv_c (x := (32, m_md t0, (t &&& 255) &&& 1)) rfl (Kv_c (x := (43, n, t &&& 255)) rfl hK)))) (C_t7.1.2.2.2.2.2.2 hTt) C_t7 hT (by omega) (by omega) (by omega) ?_ ?_ ?_ (by omega) ?_ ?_ ?_
  · exact ⟨(Io_n (by decide) (show (t &&& 255) &&& 1 < 4096 from by omega) I_m_mdt0_t7.1 I_m_mdt0_t7.2.1 I_m_mdt0_t7.2.2.1 (fun q => absurd q (by decide)) (fun q => absurd q (by decide)) I_m_mdt0_t7.2.2.2), (Nd_0 (by decide) Mo_nil), ⟨(Io_2 (by have := or_256 (b := 1) (show ((t &&& 255) &&& 1) < 256 from by omega); omega) (by have := or_256 (b := 1) (show ((t &&& 255) &&& 1) < 256 from by omega); omega) (by have := or_256 (b := 1) (show ((t &&& 255) &&& 1) < 256 from by omega); omega) I_m_mdt0_t7.1 I_m_mdt0_t7.2.1 I_m_mdt0_t7.2.2.1 I_m_mdt0_t7.2.2.2), (Nd_A (by decide) (Mo_cons (fun q => show m_md t0 ≤ m_md t0 from by omega) Mo_nil) (Or.inr ⟨(3, m_md t0, (t &&& 255) &&& 1), List.mem_cons_self, rfl, Or.inl rfl⟩)), ⟨(Io_n (by decide) (show (t &&& 255) &&& 1 < 4096 from by omega) I_m_mdt0_t7.1 I_m_mdt0_t7.2.1 I_m_mdt0_t7.2.2.1 (fun q => absurd q (by decide)) (fun q => absurd q (by decide)) I_m_mdt0_t7.2.2.2), (Nd_0 (by decide) (Mo_cons (fun q => show m_md t0 ≤ m_md t0 from by omega) (Mo_cons (fun q => show m_md t0 ≤ m_md t0 from by omega) Mo_nil))), ⟨(Io_n (by decide) (show t &&& 255 < 4096 from by omega) I_n_t7.1 I_n_t7.2.1 I_n_t7.2.2.1 (fun _ => u_n_t7) (fun q => absurd q (by decide)) I_n_t7.2.2.2), (Nd_43 (Mo_cons (fun q => show n ≤ m_md t0 from by omega) (Mo_cons (fun q => show n ≤ m_md t0 from by omega) (Mo_cons (fun q => show n ≤ m_md t0 from by omega) Mo_nil))) h43), Stk_step (N := n) (pop := (42, n, t)) (new := [(43, n, t &&& 255), (32, m_md t0, (t &&& 255) &&& 1), (2, m_md t0, ((t &&& 255) &&& 1) ||| (1 * 256)), (3, m_md t0, (t &&& 255) &&& 1)]) F0 C_t7.1.to2 (fun (h : nk 42 = false) => absurd h (by decide)) (fun q _ h => h (42, n, t) rfl) (fun _ => rfl) (fun y hy hk => ⟨rfl, (Mo_cons (fun q => show n ≤ n from by omega) (Mo_cons (fun q => show n ≤ m_md t0 from by omega) (Mo_cons (fun q => show n ≤ m_md t0 from by omega) (Mo_cons (fun q => show n ≤ m_md t0 from by omega) Mo_nil)))) y hy hk⟩) (fun (h : 42 = 3 ∨ 42 = 18 ∨ 42 = 41) => absurd h (by decide)) (fun (h : 42 = 18) => absurd h (by decide)) (fun _ h16 => (Or.inl ⟨(43, n, t &&& 255), rfl, rfl, Or.inr (Or.inr rfl), and16_255.trans h16⟩)) r [] (fun y hy => absurd hy List.not_mem_nil) hS⟩⟩⟩⟩
  · exact (Aj_up (x := (3, m_md t0, (t &&& 255) &&& 1)) (Aj_up (x := (2, m_md t0, ((t &&& 255) &&& 1) ||| (1 * 256))) (Aj_up (x := (32, m_md t0, (t &&& 255) &&& 1)) (Aj_sub (y := (43, n, t &&& 255)) hJ (Nat.le_of_ble_eq_true rfl)) (Or.inr (Nat.le_of_ble_eq_true rfl))) (Or.inr (show 9 - (((t &&& 255) &&& 1) ||| (1 * 256)) / 256 < 9 from by have := or_256 (b := 1) (show ((t &&& 255) &&& 1) < 256 from by omega); omega))) (Or.inr (show 2 < 9 - (((t &&& 255) &&& 1) ||| (1 * 256)) / 256 from by have := or_256 (b := 1) (show ((t &&& 255) &&& 1) < 256 from by omega); omega)))
  · show m_dp t7 = (dlt 3 + (dlt 2 + (dlt 32 + (dlt 43 + sD r))))
    have : dlt 2 = 0 := rfl; have : dlt 3 = 0 := rfl; have : dlt 32 = 0 := rfl; have : dlt 42 = 0 := rfl; have : dlt 43 = 0 := rfl; omega
  · show m_rw t7 = (rho 3 + (rho 2 + (rho 32 + (rho 43 + sR r))))
    have : rho 2 = 0 := rfl; have : rho 3 = 0 := rfl; have : rho 32 = 0 := rfl; have : rho 42 = 0 := rfl; have : rho 43 = 0 := rfl; omega
  · show m_md t7 + (mu7 3 + (mu7 2 + (mu7 32 + (mu7 43 + sM r)))) ≤ 3 * m_at t7 + 7 * (r.length + 1 + 1 + 1 + 1) + 10
    have : mu7 2 = 7 := rfl; have : mu7 3 = 5 := rfl; have : mu7 32 = 7 := rfl; have : mu7 42 = 8 := rfl; have : mu7 43 = 4 := rfl; omega
  · show (wt 3 + (wt 2 + (wt 32 + (wt 43 + sW r)))) + 6 * (4096 - m_at t7) + 4 * (600 - (r.length + 1 + 1 + 1 + 1)) < (wt 42 + sW r) + 6 * (4096 - m_at t0) + 4 * (600 - (r.length + 1))
    have : wt 2 = 5 := rfl; have : wt 3 = 3 := rfl; have : wt 32 = 5 := rfl; have : wt 42 = 5 := rfl; have : wt 43 = 0 := rfl; omega

theorem Q_simpleRest_221_t70 {t0 : Mm} {n t : Nat} {r : List It} (H : Hp t0 (42, n, t) r) {E : Mm → Prop} (y6 : Nat) (h6 : y6 ≤ 1) (h69 : m_wh t0 (m_la t0 n - 1) ≠ 69) (hk0 : lo t0 (m_at t0) = 70) : Ok (Qh (mz t0 ((42, n, t) :: r))) E (lp_X6_simpleRest_221 n (t &&& 255) (t / 256) (lo t0 (m_at t0)) y6 t0) := by
  obtain ⟨hK, hT, hc, hw0, ha, hC, hS, hJ, hdp, hdl, hrw, hmd, htd, hln, hm16, hI, hD, hTt⟩ := Hp_out H
  have C_t0 := hC n
  have F0 := C_t0.2.1
  have I_n_t0 : Nq t0 n := ⟨(hI.2.1 rfl).1, (hI.2.1 rfl).2.1, (hI.2.1 rfl).2.2, hI.2.2.2 rfl⟩
  have m_n_t0 := I_n_t0.1
  have ht : t < 2097152 := hI.1.2.2.1 rfl
  have h255 : t &&& 255 ≤ 255 := Nat.and_le_right
  have hand2 : t &&& 255 &&& 1 ≤ 1 := Nat.and_le_right
  have hdp : m_dp t0 = dlt 42 + sD r := hdp
  have hrw : m_rw t0 = rho 42 + sR r := hrw
  have hmd : m_md t0 + mu7 42 + sM r ≤ 3 * m_at t0 + 7 * r.length + 17 := hmd
  have hand : t &&& 1 ≤ 1 := Nat.and_le_right
  have h01 : (0 &&& 1 : Nat) = 0 := rfl
  have hor0 : (t &&& 255 &&& 1) ||| 0 ≤ 1 := by rw [Nat.or_zero]; exact hand2
  have hor2 : (t &&& 255 &&& 1) ||| 2 < 4 := Nat.or_lt_two_pow (n := 2) (by omega) (by decide)
  have h02 : (1 : Nat) * 256 = 256 := rfl
  have hq1 : dlt 42 = 0 := rfl
  have hq2 : rho 42 = 0 := rfl
  have hq3 : mu7 42 = 8 := rfl
  have f_n_t0 : Fz t0 n := (hD.2.1 (show 42 = 2 ∨ 42 = 4 ∨ 42 = 42 ∨ 42 = 50 by decide)).resolve_right (fun ⟨y, hy, _⟩ => absurd hy List.not_mem_nil)
  obtain ⟨hla0, hla2, -, -⟩ := Fo_lp F0 I_n_t0 f_n_t0
  have hla1 : m_la t0 n - 1 < m_md t0 := by omega
  have u_n_t0 : Up t0 n := hI.2.2.1 rfl
  unfold lp_X6_simpleRest_221
  refine Ok_ife (Nat.lt_trans (lo_lt (C_t0.tk hT) _) (by decide)) (by decide) (fun q => absurd (hk0.symm.trans q) (by decide)) (fun _ => ?_)
  refine Ok_ife (Nat.lt_trans (lo_lt (C_t0.tk hT) _) (by decide)) (by decide) (fun q => ?_) (fun q => absurd hk0 q)
  refine Kp_wrap C_t0 I_n_t0.1 I_n_t0.2.1 f_n_t0 I_n_t0.2.2.1 (by omega) (by omega) (by decide) (fun t1 C_t1 X_t1 a_t1 b_t1 d_t1 w_t1 u_t1 v_t1 j_t1 l_t1 => ?_)
  have e_t1 := C_t1.2.2.2.1
  have I_n_t1 := I_n_t0.le X_t1 (by omega)
  have f_n_t1 := f_n_t0.ex I_n_t0 (X_t1 0 (Nat.zero_le _))
  have u_n_t1 := u_n_t0.ex I_n_t0 (X_t1 0 (Nat.zero_le _))
  have I_m_mdt0_t1 : Nq t1 (m_md t0) := Nq.wrn j_t1 (by omega) I_n_t0 (by decide)
  have f_m_mdt0_t1 : Fz t1 (m_md t0) := by unfold Fz; rw [j_t1.2.1]; exact j_t1.2.2.1
  have la_n_t1 : m_la t1 n = (m_md t0) + 1 := j_t1.2.2.2.2.2.2.2.1
  have wl_n_t1 : m_wh t1 (m_md t0) = 13 := j_t1.1
  refine Ok_bnc ?_
  try unfold b_X6_assign
  refine Ok_bnc ?_
  try unfold b_X6_ranges
  refine Ok_ck (show t &&& 255 < 2147483648 from by omega) ?_
  refine Ok_ifz (f6_has _ _) (fun q4 => ?_) (fun q4 => ?_)
  · refine Ok_ret (show Ok _ _ _ from ?_)
    refine Ok_ifz0 ?_
    refine Kp_wrap C_t1 I_n_t1.1 I_n_t1.2.1 f_n_t1 I_n_t1.2.2.1 (by omega) (by omega) (by decide) (fun t5 C_t5 X_t5 a_t5 b_t5 d_t5 w_t5 u_t5 v_t5 j_t5 l_t5 => ?_)
    have e_t5 := C_t5.2.2.2.1
    rw [a_t1] at a_t5
    rw [b_t1] at b_t5
    rw [d_t1] at d_t5
    rw [w_t1] at w_t5
    rw [u_t1] at u_t5
    rw [v_t1] at v_t5
    clear d_t1 w_t1 u_t1 v_t1 e_t1 a_t1
    have I_n_t5 := I_n_t1.le X_t5 (by omega)
    have f_n_t5 := f_n_t1.ex I_n_t1 (X_t5 0 (Nat.zero_le _))
    have u_n_t5 := u_n_t1.ex I_n_t1 (X_t5 0 (Nat.zero_le _))
    have I_m_mdt1_t5 : Nq t5 (m_md t1) := Nq.wrn j_t5 (by omega) I_n_t1 (by decide)
    have f_m_mdt1_t5 : Fz t5 (m_md t1) := by unfold Fz; rw [j_t5.2.1]; exact j_t5.2.2.1
    have la_n_t5 : m_la t5 n = (m_md t1) + 1 := j_t5.2.2.2.2.2.2.2.1
    have wl_n_t5 : m_wh t5 (m_md t1) = 54 := j_t5.1
    have z_t6 : m_at t5 < m_ct t5 := lo_ne (Nat.ne_of_gt (show 0 < lo t5 (m_at t5) from by omega))
    refine Kp_at C_t5 (fun t6 C_t6 X_t6 a_t6 b_t6 d_t6 w_t6 u_t6 v_t6 j_t6 l_t6 => ?_)
    have e_t6 := C_t6.2.2.2.1
    rw [a_t5] at a_t6
    rw [b_t5] at b_t6
    rw [d_t5] at d_t6
    rw [w_t5] at w_t6
    rw [u_t5] at u_t6
    rw [v_t5] at v_t6
    rw [a_t5, e_t5] at z_t6
    clear d_t5 w_t5 u_t5 v_t5 e_t5 a_t5 b_t5
    have I_n_t6 := I_n_t5.flat X_t6
    have f_n_t6 := f_n_t5.ex I_n_t5 (X_t6 0)
    have u_n_t6 := u_n_t5.ex I_n_t5 (X_t6 0)
    have I_m_mdt1_t6 := I_m_mdt1_t5.flat X_t6
    have f_m_mdt1_t6 := f_m_mdt1_t5.ex I_m_mdt1_t5 (X_t6 0)
    have la_n_t6 : m_la t6 n = (m_md t1) + 1 := by rw [j_t6.2.2.1]; exact la_n_t5
    have wl_n_t6 : m_wh t6 ((m_md t1)) = 54 := by rw [j_t6.1]; exact wl_n_t5
    clear la_n_t5 wl_n_t5
    refine Ok_bnc ?_
    try unfold b_X6_right
    refine Kp_child C_t6 I_m_mdt1_t6.1 I_m_mdt1_t6.2.1 I_m_mdt1_t6.2.2.1 (by omega) (by omega) (by decide) (by decide) (fun t8 C_t8 X_t8 a_t8 b_t8 d_t8 w_t8 u_t8 v_t8 j_t8 l_t8 => ?_)
    have e_t8 := C_t8.2.2.2.1
    rw [a_t6] at a_t8
    rw [b_t6] at b_t8
    rw [d_t6] at d_t8
    rw [w_t6] at w_t8
    rw [u_t6] at u_t8
    rw [v_t6] at v_t8
    clear d_t6 w_t6 u_t6 v_t6 e_t6 a_t6
    have I_n_t8 := I_n_t6.chd X_t8 j_t8
    have f_n_t8 := f_n_t6.ex I_n_t6 (X_t8 0 (Nat.zero_le _))
    have u_n_t8 := u_n_t6.ex I_n_t6 (X_t8 0 (Nat.zero_le _))
    have I_m_mdt1_t8 := I_m_mdt1_t6.chd X_t8 j_t8
    have f_m_mdt1_t8 := f_m_mdt1_t6.ex I_m_mdt1_t6 (X_t8 0 (Nat.zero_le _))
    have la_n_t8 : m_la t8 n = (m_md t1) + 1 := by rw [(j_t8.2.2.2.2.2.2.2.1 n I_n_t6.1 (by omega)).1]; exact la_n_t6
    have wl_n_t8 : m_wh t8 ((m_md t1)) = 54 := by rw [(j_t8.2.2.2.2.2.2.1 ((m_md t1)) (by omega)).2]; exact wl_n_t6
    clear la_n_t6 wl_n_t6
    have f_m_mdt1_t8 : Fz t8 (m_md t1) := j_t8.2.2.2.2.1
    have I_m_mdt6_t8 : Nq t8 (m_md t6) := Nq.chn j_t8 (by omega) I_m_mdt1_t6 (by decide)
    have u_m_mdt6_t8 : Up t8 (m_md t6) := Or.inl j_t8.2.1
    have la_m_mdt1_t8 : m_la t8 (m_md t1) = (m_md t6) + 1 := j_t8.2.2.2.2.2.1
    have wl_m_mdt1_t8 : m_wh t8 (m_md t6) = 13 := j_t8.1
    refine Ok_ck (show t &&& 255 < 2147483648 from by omega) ?_
    refine Ok_ifz (f6_has _ _) (fun q9 => ?_) (fun q9 => ?_)
    · refine Kp_push C_t8 (by omega) (fun t10 C_t10 X_t10 a_t10 b_t10 d_t10 w_t10 u_t10 v_t10 j_t10 l_t10 => ?_)
      have e_t10 := C_t10.2.2.2.1
      rw [a_t8] at a_t10
      rw [b_t8] at b_t10
      rw [d_t8] at d_t10
      rw [w_t8] at w_t10
      rw [u_t8] at u_t10
      rw [v_t8] at v_t10
      clear d_t8 w_t8 u_t8 v_t8 e_t8 a_t8 b_t8
      have I_n_t10 := I_n_t8.flat X_t10
      have f_n_t10 := f_n_t8.ex I_n_t8 (X_t10 0)
      have u_n_t10 := u_n_t8.ex I_n_t8 (X_t10 0)
      have I_m_mdt1_t10 := I_m_mdt1_t8.flat X_t10
      have f_m_mdt1_t10 := f_m_mdt1_t8.ex I_m_mdt1_t8 (X_t10 0)
      have I_m_mdt6_t10 := I_m_mdt6_t8.flat X_t10
      have u_m_mdt6_t10 := u_m_mdt6_t8.ex I_m_mdt6_t8 (X_t10 0)
      have la_n_t10 : m_la t10 n = (m_md t1) + 1 := by rw [j_t10.2.2.1]; exact la_n_t8
      have wl_n_t10 : m_wh t10 ((m_md t1)) = 54 := by rw [j_t10.1]; exact wl_n_t8
      clear la_n_t8 wl_n_t8
      have la_m_mdt1_t10 : m_la t10 (m_md t1) = (m_md t6) + 1 := by rw [j_t10.2.2.1]; exact la_m_mdt1_t8
      have wl_m_mdt1_t10 : m_wh t10 ((m_md t6)) = 13 := by rw [j_t10.1]; exact wl_m_mdt1_t8
      clear la_m_mdt1_t8 wl_m_mdt1_t8
      refine Ok_bnc ?_
      try unfold b_X6_expression
      refine Kp_push C_t10 (by omega) (fun t12 C_t12 X_t12 a_t12 b_t12 d_t12 w_t12 u_t12 v_t12 j_t12 l_t12 => ?_)
      have e_t12 := C_t12.2.2.2.1
      rw [a_t10] at a_t12
      rw [b_t10] at b_t12
      rw [d_t10] at d_t12
      rw [w_t10] at w_t12
      rw [u_t10] at u_t12
      rw [v_t10] at v_t12
      clear d_t10 w_t10 u_t10 v_t10 e_t10 a_t10 b_t10
      have I_n_t12 := I_n_t10.flat X_t12
      have f_n_t12 := f_n_t10.ex I_n_t10 (X_t12 0)
      have u_n_t12 := u_n_t10.ex I_n_t10 (X_t12 0)
      have I_m_mdt1_t12 := I_m_mdt1_t10.flat X_t12
      have f_m_mdt1_t12 := f_m_mdt1_t10.ex I_m_mdt1_t10 (X_t12 0)
      have I_m_mdt6_t12 := I_m_mdt6_t10.flat X_t12
      have u_m_mdt6_t12 := u_m_mdt6_t10.ex I_m_mdt6_t10 (X_t12 0)
      have la_n_t12 : m_la t12 n = (m_md t1) + 1 := by rw [j_t12.2.2.1]; exact la_n_t10
      have wl_n_t12 : m_wh t12 ((m_md t1)) = 54 := by rw [j_t12.1]; exact wl_n_t10
      clear la_n_t10 wl_n_t10
      have la_m_mdt1_t12 : m_la t12 (m_md t1) = (m_md t6) + 1 := by rw [j_t12.2.2.1]; exact la_m_mdt1_t10
      have wl_m_mdt1_t12 : m_wh t12 ((m_md t6)) = 13 := by rw [j_t12.1]; exact wl_m_mdt1_t10
      clear la_m_mdt1_t10 wl_m_mdt1_t10
      refine Kp_push C_t12 (by omega) (fun t13 C_t13 X_t13 a_t13 b_t13 d_t13 w_t13 u_t13 v_t13 j_t13 l_t13 => ?_)
      have e_t13 := C_t13.2.2.2.1
      rw [a_t12] at a_t13
      rw [b_t12] at b_t13
      rw [d_t12] at d_t13
      rw [w_t12] at w_t13
      rw [u_t12] at u_t13
      rw [v_t12] at v_t13
      clear d_t12 w_t12 u_t12 v_t12 e_t12 a_t12 b_t12
      have I_n_t13 := I_n_t12.flat X_t13
      have f_n_t13 := f_n_t12.ex I_n_t12 (X_t13 0)
      have u_n_t13 := u_n_t12.ex I_n_t12 (X_t13 0)
      have I_m_mdt1_t13 := I_m_mdt1_t12.flat X_t13
      have f_m_mdt1_t13 := f_m_mdt1_t12.ex I_m_mdt1_t12 (X_t13 0)
      have I_m_mdt6_t13 := I_m_mdt6_t12.flat X_t13
      have u_m_mdt6_t13 := u_m_mdt6_t12.ex I_m_mdt6_t12 (X_t13 0)
      have la_n_t13 : m_la t13 n = (m_md t1) + 1 := by rw [j_t13.2.2.1]; exact la_n_t12
      have wl_n_t13 : m_wh t13 ((m_md t1)) = 54 := by rw [j_t13.1]; exact wl_n_t12
      clear la_n_t12 wl_n_t12
      have la_m_mdt1_t13 : m_la t13 (m_md t1) = (m_md t6) + 1 := by rw [j_t13.2.2.1]; exact la_m_mdt1_t12
      have wl_m_mdt1_t13 : m_wh t13 ((m_md t6)) = 13 := by rw [j_t13.1]; exact wl_m_mdt1_t12
      clear la_m_mdt1_t12 wl_m_mdt1_t12
      refine Ok_ret (show Ok _ _ _ from ?_)
      refine Ok_ret (show Ok _ _ _ from ?_)
      refine Ok_ret (show Ok _ _ _ from ?_)
      refine Hv_mk (Kv_c (x := (3, m_md t6, ((t &&& 255) &&& 1) ||| 0)) rfl (Kv_c (x := (2, m_md t6, (((t &&& 255) &&& 1) ||| 0) ||| (1 * 256))) rfl (Kv_c (x := (32, m_md t6, (t &&& 255) &&& 1)) rfl hK))) (C_t13.1.2.2.2.2.2.2 hTt) C_t13 hT (by omega) (by omega) (by omega) ?_ ?_ ?_ (by omega) ?_ ?_ ?_
      · exact ⟨(Io_n (by decide) (show ((t &&& 255) &&& 1) ||| 0 < 4096 from by omega) I_m_mdt6_t13.1 I_m_mdt6_t13.2.1 I_m_mdt6_t13.2.2.1 (fun q => absurd q (by decide)) (fun q => absurd q (by decide)) I_m_mdt6_t13.2.2.2), (Nd_0 (by decide) Mo_nil), ⟨(Io_2 (by have := or_256 (b := 1) (show (((t &&& 255) &&& 1) ||| 0) < 256 from by omega); omega) (by have := or_256 (b := 1) (show (((t &&& 255) &&& 1) ||| 0) < 256 from by omega); omega) (by have := or_256 (b := 1) (show (((t &&& 255) &&& 1) ||| 0) < 256 from by omega); omega) I_m_mdt6_t13.1 I_m_mdt6_t13.2.1 I_m_mdt6_t13.2.2.1 I_m_mdt6_t13.2.2.2), (Nd_A (by decide) (Mo_cons (fun q => show m_md t6 ≤ m_md t6 from by omega) Mo_nil) (Or.inr ⟨(3, m_md t6, ((t &&& 255) &&& 1) ||| 0), List.mem_cons_self, rfl, Or.inl rfl⟩)), ⟨(Io_n (by decide) (show (t &&& 255) &&& 1 < 4096 from by omega) I_m_mdt6_t13.1 I_m_mdt6_t13.2.1 I_m_mdt6_t13.2.2.1 (fun q => absurd q (by decide)) (fun q => absurd q (by decide)) I_m_mdt6_t13.2.2.2), (Nd_0 (by decide) (Mo_cons (fun q => show m_md t6 ≤ m_md t6 from by omega) (Mo_cons (fun q => show m_md t6 ≤ m_md t6 from by omega) Mo_nil))), Stk_step (N := n) (pop := (42, n, t)) (new := [(32, m_md t6, (t &&& 255) &&& 1), (2, m_md t6, (((t &&& 255) &&& 1) ||| 0) ||| (1 * 256)), (3, m_md t6, ((t &&& 255) &&& 1) ||| 0)]) F0 C_t13.1.to2 (fun (h : nk 42 = false) => absurd h (by decide)) (fun q _ h => h (42, n, t) rfl) (fun _ => rfl) (fun y hy hk => ⟨rfl, (Mo_cons (fun q => show n ≤ m_md t6 from by omega) (Mo_cons (fun q => show n ≤ m_md t6 from by omega) (Mo_cons (fun q => show n ≤ m_md t6 from by omega) Mo_nil))) y hy hk⟩) (fun (h : 42 = 3 ∨ 42 = 18 ∨ 42 = 41) => absurd h (by decide)) (fun (h : 42 = 18) => absurd h (by decide)) (fun _ h16 => (Or.inr ⟨f_n_t13, (Ab_some (y := (32, m_md t6, (t &&& 255) &&& 1)) rfl (show n < m_md t6 from by omega)), H50_no la_n_t13 wl_n_t13 (by decide)⟩)) r [] (fun y hy => absurd hy List.not_mem_nil) hS⟩⟩⟩
      · exact (Aj_up (x := (3, m_md t6, ((t &&& 255) &&& 1) ||| 0)) (Aj_up (x := (2, m_md t6, (((t &&& 255) &&& 1) ||| 0) ||| (1 * 256))) (Aj_sub (y := (32, m_md t6, (t &&& 255) &&& 1)) hJ (Nat.le_of_ble_eq_true rfl)) (Or.inr (show 9 - ((((t &&& 255) &&& 1) ||| 0) ||| (1 * 256)) / 256 < 9 from by have := or_256 (b := 1) (show (((t &&& 255) &&& 1) ||| 0) < 256 from by omega); omega))) (Or.inr (show 2 < 9 - ((((t &&& 255) &&& 1) ||| 0) ||| (1 * 256)) / 256 from by have := or_256 (b := 1) (show (((t &&& 255) &&& 1) ||| 0) < 256 from by omega); omega)))
      · show m_dp t13 = (dlt 3 + (dlt 2 + (dlt 32 + sD r)))
        have : dlt 2 = 0 := rfl; have : dlt 3 = 0 := rfl; have : dlt 32 = 0 := rfl; have : dlt 42 = 0 := rfl; omega
      · show m_rw t13 = (rho 3 + (rho 2 + (rho 32 + sR r)))
        have : rho 2 = 0 := rfl; have : rho 3 = 0 := rfl; have : rho 32 = 0 := rfl; have : rho 42 = 0 := rfl; omega
      · show m_md t13 + (mu7 3 + (mu7 2 + (mu7 32 + sM r))) ≤ 3 * m_at t13 + 7 * (r.length + 1 + 1 + 1) + 10
        have : mu7 2 = 7 := rfl; have : mu7 3 = 5 := rfl; have : mu7 32 = 7 := rfl; have : mu7 42 = 8 := rfl; omega
      · show (wt 3 + (wt 2 + (wt 32 + sW r))) + 6 * (4096 - m_at t13) + 4 * (600 - (r.length + 1 + 1 + 1)) < (wt 42 + sW r) + 6 * (4096 - m_at t0) + 4 * (600 - (r.length + 1))
        have : wt 2 = 5 := rfl; have : wt 3 = 3 := rfl; have : wt 32 = 5 := rfl; have : wt 42 = 5 := rfl; omega
    · refine Ok_bnc ?_
      try unfold b_X6_expression
      refine Kp_push C_t8 (by omega) (fun t15 C_t15 X_t15 a_t15 b_t15 d_t15 w_t15 u_t15 v_t15 j_t15 l_t15 => ?_)
      have e_t15 := C_t15.2.2.2.1
      rw [a_t8] at a_t15
      rw [b_t8] at b_t15
      rw [d_t8] at d_t15
      rw [w_t8] at w_t15
      rw [u_t8] at u_t15
      rw [v_t8] at v_t15
      clear d_t8 w_t8 u_t8 v_t8 e_t8 a_t8 b_t8
      have I_n_t15 := I_n_t8.flat X_t15
      have f_n_t15 := f_n_t8.ex I_n_t8 (X_t15 0)
      have u_n_t15 := u_n_t8.ex I_n_t8 (X_t15 0)
      have I_m_mdt1_t15 := I_m_mdt1_t8.flat X_t15
      have f_m_mdt1_t15 := f_m_mdt1_t8.ex I_m_mdt1_t8 (X_t15 0)
      have I_m_mdt6_t15 := I_m_mdt6_t8.flat X_t15
      have u_m_mdt6_t15 := u_m_mdt6_t8.ex I_m_mdt6_t8 (X_t15 0)
      have la_n_t15 : m_la t15 n = (m_md t1) + 1 := by rw [j_t15.2.2.1]; exact la_n_t8
      have wl_n_t15 : m_wh t15 ((m_md t1)) = 54 := by rw [j_t15.1]; exact wl_n_t8
      clear la_n_t8 wl_n_t8
      have la_m_mdt1_t15 : m_la t15 (m_md t1) = (m_md t6) + 1 := by rw [j_t15.2.2.1]; exact la_m_mdt1_t8
      have wl_m_mdt1_t15 : m_wh t15 ((m_md t6)) = 13 := by rw [j_t15.1]; exact wl_m_mdt1_t8
      clear la_m_mdt1_t8 wl_m_mdt1_t8
      refine Kp_push C_t15 (by omega) (fun t16 C_t16 X_t16 a_t16 b_t16 d_t16 w_t16 u_t16 v_t16 j_t16 l_t16 => ?_)
      have e_t16 := C_t16.2.2.2.1
      rw [a_t15] at a_t16
      rw [b_t15] at b_t16
      rw [d_t15] at d_t16
      rw [w_t15] at w_t16
      rw [u_t15] at u_t16
      rw [v_t15] at v_t16
      clear d_t15 w_t15 u_t15 v_t15 e_t15 a_t15 b_t15
      have I_n_t16 := I_n_t15.flat X_t16
      have f_n_t16 := f_n_t15.ex I_n_t15 (X_t16 0)
      have u_n_t16 := u_n_t15.ex I_n_t15 (X_t16 0)
      have I_m_mdt1_t16 := I_m_mdt1_t15.flat X_t16
      have f_m_mdt1_t16 := f_m_mdt1_t15.ex I_m_mdt1_t15 (X_t16 0)
      have I_m_mdt6_t16 := I_m_mdt6_t15.flat X_t16
      have u_m_mdt6_t16 := u_m_mdt6_t15.ex I_m_mdt6_t15 (X_t16 0)
      have la_n_t16 : m_la t16 n = (m_md t1) + 1 := by rw [j_t16.2.2.1]; exact la_n_t15
      have wl_n_t16 : m_wh t16 ((m_md t1)) = 54 := by rw [j_t16.1]; exact wl_n_t15
      clear la_n_t15 wl_n_t15
      have la_m_mdt1_t16 : m_la t16 (m_md t1) = (m_md t6) + 1 := by rw [j_t16.2.2.1]; exact la_m_mdt1_t15
      have wl_m_mdt1_t16 : m_wh t16 ((m_md t6)) = 13 := by rw [j_t16.1]; exact wl_m_mdt1_t15
      clear la_m_mdt1_t15 wl_m_mdt1_t15
      refine Ok_ret (show Ok _ _ _ from ?_)
      refine Ok_ret (show Ok _ _ _ from ?_)
      refine Ok_ret (show Ok _ _ _ from ?_)
      refine Hv_mk (Kv_c (x := (3, m_md t6, ((t &&& 255) &&& 1) ||| 0)) rfl (Kv_c (x := (2, m_md t6, (((t &&& 255) &&& 1) ||| 0) ||| (1 * 256))) rfl hK)) (C_t16.1.2.2.2.2.2.2 hTt) C_t16 hT (by omega) (by omega) (by omega) ?_ ?_ ?_ (by omega) ?_ ?_ ?_
      · exact ⟨(Io_n (by decide) (show ((t &&& 255) &&& 1) ||| 0 < 4096 from by omega) I_m_mdt6_t16.1 I_m_mdt6_t16.2.1 I_m_mdt6_t16.2.2.1 (fun q => absurd q (by decide)) (fun q => absurd q (by decide)) I_m_mdt6_t16.2.2.2), (Nd_0 (by decide) Mo_nil), ⟨(Io_2 (by have := or_256 (b := 1) (show (((t &&& 255) &&& 1) ||| 0) < 256 from by omega); omega) (by have := or_256 (b := 1) (show (((t &&& 255) &&& 1) ||| 0) < 256 from by omega); omega) (by have := or_256 (b := 1) (show (((t &&& 255) &&& 1) ||| 0) < 256 from by omega); omega) I_m_mdt6_t16.1 I_m_mdt6_t16.2.1 I_m_mdt6_t16.2.2.1 I_m_mdt6_t16.2.2.2), (Nd_A (by decide) (Mo_cons (fun q => show m_md t6 ≤ m_md t6 from by omega) Mo_nil) (Or.inr ⟨(3, m_md t6, ((t &&& 255) &&& 1) ||| 0), List.mem_cons_self, rfl, Or.inl rfl⟩)), Stk_step (N := n) (pop := (42, n, t)) (new := [(2, m_md t6, (((t &&& 255) &&& 1) ||| 0) ||| (1 * 256)), (3, m_md t6, ((t &&& 255) &&& 1) ||| 0)]) F0 C_t16.1.to2 (fun (h : nk 42 = false) => absurd h (by decide)) (fun q _ h => h (42, n, t) rfl) (fun _ => rfl) (fun y hy hk => ⟨rfl, (Mo_cons (fun q => show n ≤ m_md t6 from by omega) (Mo_cons (fun q => show n ≤ m_md t6 from by omega) Mo_nil)) y hy hk⟩) (fun (h : 42 = 3 ∨ 42 = 18 ∨ 42 = 41) => absurd h (by decide)) (fun (h : 42 = 18) => absurd h (by decide)) (fun _ h16 => (Or.inr ⟨f_n_t16, (Ab_some (y := (2, m_md t6, (((t &&& 255) &&& 1) ||| 0) ||| (1 * 256))) rfl (show n < m_md t6 from by omega)), H50_no la_n_t16 wl_n_t16 (by decide)⟩)) r [] (fun y hy => absurd hy List.not_mem_nil) hS⟩⟩
      · exact (Aj_up (x := (3, m_md t6, ((t &&& 255) &&& 1) ||| 0)) (Aj_sub (y := (2, m_md t6, (((t &&& 255) &&& 1) ||| 0) ||| (1 * 256))) hJ (show 9 - ((((t &&& 255) &&& 1) ||| 0) ||| (1 * 256)) / 256 ≤ 10 from by have := or_256 (b := 1) (show (((t &&& 255) &&& 1) ||| 0) < 256 from by omega); omega)) (Or.inr (show 2 < 9 - ((((t &&& 255) &&& 1) ||| 0) ||| (1 * 256)) / 256 from by have := or_256 (b := 1) (show (((t &&& 255) &&& 1) ||| 0) < 256 from by omega); omega)))
      · show m_dp t16 = (dlt 3 + (dlt 2 + sD r))
        have : dlt 2 = 0 := rfl; have : dlt 3 = 0 := rfl; have : dlt 42 = 0 := rfl; omega
      · show m_rw t16 = (rho 3 + (rho 2 + sR r))
        have : rho 2 = 0 := rfl; have : rho 3 = 0 := rfl; have : rho 42 = 0 := rfl; omega
      · show m_md t16 + (mu7 3 + (mu7 2 + sM r)) ≤ 3 * m_at t16 + 7 * (r.length + 1 + 1) + 10
        have : mu7 2 = 7 := rfl; have : mu7 3 = 5 := rfl; have : mu7 42 = 8 := rfl; omega
      · show (wt 3 + (wt 2 + sW r)) + 6 * (4096 - m_at t16) + 4 * (600 - (r.length + 1 + 1)) < (wt 42 + sW r) + 6 * (4096 - m_at t0) + 4 * (600 - (r.length + 1))
        have : wt 2 = 5 := rfl; have : wt 3 = 3 := rfl; have : wt 42 = 5 := rfl; omega
  · refine Kp_ahead C_t1 hT (by omega) ?_
    refine Ok_ife (Nat.lt_trans (lo_lt (C_t1.tk hT) _) (by decide)) (by decide) (fun q17 => ?_) (fun q17 => ?_)
    · refine Kp_look C_t1 hT (by omega) ?_
      refine Ok_ife (Nat.lt_trans (lo_lt (C_t1.tk hT) _) (by decide)) (by decide) (fun q18 => ?_) (fun q18 => ?_)
      · refine Kp_wrap C_t1 I_n_t1.1 I_n_t1.2.1 f_n_t1 I_n_t1.2.2.1 (by omega) (by omega) (by decide) (fun t19 C_t19 X_t19 a_t19 b_t19 d_t19 w_t19 u_t19 v_t19 j_t19 l_t19 => ?_)
        have e_t19 := C_t19.2.2.2.1
        rw [a_t1] at a_t19
        rw [b_t1] at b_t19
        rw [d_t1] at d_t19
        rw [w_t1] at w_t19
        rw [u_t1] at u_t19
        rw [v_t1] at v_t19
        clear d_t1 w_t1 u_t1 v_t1 e_t1
        have I_n_t19 := I_n_t1.le X_t19 (by omega)
        have f_n_t19 := f_n_t1.ex I_n_t1 (X_t19 0 (Nat.zero_le _))
        have u_n_t19 := u_n_t1.ex I_n_t1 (X_t19 0 (Nat.zero_le _))
        have I_m_mdt1_t19 : Nq t19 (m_md t1) := Nq.wrn j_t19 (by omega) I_n_t1 (by decide)
        have f_m_mdt1_t19 : Fz t19 (m_md t1) := by unfold Fz; rw [j_t19.2.1]; exact j_t19.2.2.1
        have la_n_t19 : m_la t19 n = (m_md t1) + 1 := j_t19.2.2.2.2.2.2.2.1
        have wl_n_t19 : m_wh t19 (m_md t1) = 67 := j_t19.1
        have y9_t20 : m_at t19 = m_at t1 + 1 → lo t19 (m_at t19) = lo t1 (m_at t1 + 1) := fun h => lo_2 C_t19 C_t1 h
        have z_t20 : m_at t19 < m_ct t19 := lo_ne (Nat.ne_of_gt (show 0 < lo t19 (m_at t19) from by omega))
        refine Kp_at C_t19 (fun t20 C_t20 X_t20 a_t20 b_t20 d_t20 w_t20 u_t20 v_t20 j_t20 l_t20 => ?_)
        have e_t20 := C_t20.2.2.2.1
        rw [a_t19] at a_t20
        rw [b_t19] at b_t20
        rw [d_t19] at d_t20
        rw [w_t19] at w_t20
        rw [u_t19] at u_t20
        rw [v_t19] at v_t20
        rw [a_t19, e_t19] at z_t20
        clear d_t19 w_t19 u_t19 v_t19 e_t19 a_t19 b_t19
        have I_n_t20 := I_n_t19.flat X_t20
        have f_n_t20 := f_n_t19.ex I_n_t19 (X_t20 0)
        have u_n_t20 := u_n_t19.ex I_n_t19 (X_t20 0)
        have I_m_mdt1_t20 := I_m_mdt1_t19.flat X_t20
        have f_m_mdt1_t20 := f_m_mdt1_t19.ex I_m_mdt1_t19 (X_t20 0)
        have la_n_t20 : m_la t20 n = (m_md t1) + 1 := by rw [j_t20.2.2.1]; exact la_n_t19
        have wl_n_t20 : m_wh t20 ((m_md t1)) = 67 := by rw [j_t20.1]; exact wl_n_t19
        clear la_n_t19 wl_n_t19
        refine Kp_wrap C_t20 I_n_t20.1 I_n_t20.2.1 f_n_t20 I_n_t20.2.2.1 (by omega) (by omega) (by decide) (fun t21 C_t21 X_t21 a_t21 b_t21 d_t21 w_t21 u_t21 v_t21 j_t21 l_t21 => ?_)
        have e_t21 := C_t21.2.2.2.1
        rw [a_t20] at a_t21
        rw [b_t20] at b_t21
        rw [d_t20] at d_t21
        rw [w_t20] at w_t21
        rw [u_t20] at u_t21
        rw [v_t20] at v_t21
        clear d_t20 w_t20 u_t20 v_t20 e_t20 a_t20
        have I_n_t21 := I_n_t20.le X_t21 (by omega)
        have f_n_t21 := f_n_t20.ex I_n_t20 (X_t21 0 (Nat.zero_le _))
        have u_n_t21 := u_n_t20.ex I_n_t20 (X_t21 0 (Nat.zero_le _))
        have I_m_mdt20_t21 : Nq t21 (m_md t20) := Nq.wrn j_t21 (by omega) I_n_t20 (by decide)
        have f_m_mdt20_t21 : Fz t21 (m_md t20) := by unfold Fz; rw [j_t21.2.1]; exact j_t21.2.2.1
        have la_n_t21 : m_la t21 n = (m_md t20) + 1 := j_t21.2.2.2.2.2.2.2.1
        have wl_n_t21 : m_wh t21 (m_md t20) = 66 := j_t21.1
        have y9_t22 : m_at t21 = m_at t1 + 1 → lo t21 (m_at t21) = lo t1 (m_at t1 + 1) := fun h => lo_2 C_t21 C_t1 h
        have y8_t22 : lo t21 (m_at t21) = lo t1 (m_at t1 + 1) := y9_t22 (by omega)
        have z_t22 : m_at t21 < m_ct t21 := lo_ne (Nat.ne_of_gt (show 0 < lo t21 (m_at t21) from by omega))
        refine Kp_at C_t21 (fun t22 C_t22 X_t22 a_t22 b_t22 d_t22 w_t22 u_t22 v_t22 j_t22 l_t22 => ?_)
        have e_t22 := C_t22.2.2.2.1
        rw [a_t21] at a_t22
        rw [b_t21] at b_t22
        rw [d_t21] at d_t22
        rw [w_t21] at w_t22
        rw [u_t21] at u_t22
        rw [v_t21] at v_t22
        rw [a_t21, e_t21] at z_t22
        clear z_t20
        clear d_t21 w_t21 u_t21 v_t21 e_t21 a_t21 b_t21
        have I_n_t22 := I_n_t21.flat X_t22
        have f_n_t22 := f_n_t21.ex I_n_t21 (X_t22 0)
        have u_n_t22 := u_n_t21.ex I_n_t21 (X_t22 0)
        have I_m_mdt20_t22 := I_m_mdt20_t21.flat X_t22
        have f_m_mdt20_t22 := f_m_mdt20_t21.ex I_m_mdt20_t21 (X_t22 0)
        have la_n_t22 : m_la t22 n = (m_md t20) + 1 := by rw [j_t22.2.2.1]; exact la_n_t21
        have wl_n_t22 : m_wh t22 ((m_md t20)) = 66 := by rw [j_t22.1]; exact wl_n_t21
        clear la_n_t21 wl_n_t21
        refine Ok_bnc ?_
        try unfold b_X6_expression
        refine Kp_push C_t22 (by omega) (fun t24 C_t24 X_t24 a_t24 b_t24 d_t24 w_t24 u_t24 v_t24 j_t24 l_t24 => ?_)
        have e_t24 := C_t24.2.2.2.1
        rw [a_t22] at a_t24
        rw [b_t22] at b_t24
        rw [d_t22] at d_t24
        rw [w_t22] at w_t24
        rw [u_t22] at u_t24
        rw [v_t22] at v_t24
        clear d_t22 w_t22 u_t22 v_t22 e_t22 a_t22 b_t22
        have I_n_t24 := I_n_t22.flat X_t24
        have f_n_t24 := f_n_t22.ex I_n_t22 (X_t24 0)
        have u_n_t24 := u_n_t22.ex I_n_t22 (X_t24 0)
        have I_m_mdt20_t24 := I_m_mdt20_t22.flat X_t24
        have f_m_mdt20_t24 := f_m_mdt20_t22.ex I_m_mdt20_t22 (X_t24 0)
        have la_n_t24 : m_la t24 n = (m_md t20) + 1 := by rw [j_t24.2.2.1]; exact la_n_t22
        have wl_n_t24 : m_wh t24 ((m_md t20)) = 66 := by rw [j_t24.1]; exact wl_n_t22
        clear la_n_t22 wl_n_t22
        refine Kp_push C_t24 (by omega) (fun t25 C_t25 X_t25 a_t25 b_t25 d_t25 w_t25 u_t25 v_t25 j_t25 l_t25 => ?_)
        have e_t25 := C_t25.2.2.2.1
        rw [a_t24] at a_t25
        rw [b_t24] at b_t25
        rw [d_t24] at d_t25
        rw [w_t24] at w_t25
        rw [u_t24] at u_t25
        rw [v_t24] at v_t25
        clear d_t24 w_t24 u_t24 v_t24 e_t24 a_t24 b_t24
        have I_n_t25 := I_n_t24.flat X_t25
        have f_n_t25 := f_n_t24.ex I_n_t24 (X_t25 0)
        have u_n_t25 := u_n_t24.ex I_n_t24 (X_t25 0)
        have I_m_mdt20_t25 := I_m_mdt20_t24.flat X_t25
        have f_m_mdt20_t25 := f_m_mdt20_t24.ex I_m_mdt20_t24 (X_t25 0)
        have la_n_t25 : m_la t25 n = (m_md t20) + 1 := by rw [j_t25.2.2.1]; exact la_n_t24
        have wl_n_t25 : m_wh t25 ((m_md t20)) = 66 := by rw [j_t25.1]; exact wl_n_t24
        clear la_n_t24 wl_n_t24
        refine Ok_ret (show Ok _ _ _ from ?_)
        refine Ok_ret (show Ok _ _ _ from ?_)
        refine Ok_ifz1 ?_
        refine Ok_ret (show Ok _ _ _ from ?_)
        refine Hv_mk (Kv_c (x := (3, m_md t20, 1)) rfl (Kv_c (x := (2, m_md t20, 1 ||| (1 * 256))) rfl hK)) (C_t25.1.2.2.2.2.2.2 hTt) C_t25 hT (by omega) (by omega) (by omega) ?_ ?_ ?_ (by omega) ?_ ?_ ?_
        · exact ⟨(Io_n (by decide) (by decide) I_m_mdt20_t25.1 I_m_mdt20_t25.2.1 I_m_mdt20_t25.2.2.1 (fun q => absurd q (by decide)) (fun q => absurd q (by decide)) I_m_mdt20_t25.2.2.2), (Nd_0 (by decide) Mo_nil), ⟨(Io_2 (by have := or_256 (b := 1) (show 1 < 256 from by omega); omega) (by have := or_256 (b := 1) (show 1 < 256 from by omega); omega) (by have := or_256 (b := 1) (show 1 < 256 from by omega); omega) I_m_mdt20_t25.1 I_m_mdt20_t25.2.1 I_m_mdt20_t25.2.2.1 I_m_mdt20_t25.2.2.2), (Nd_A (by decide) (Mo_cons (fun q => show m_md t20 ≤ m_md t20 from by omega) Mo_nil) (Or.inr ⟨(3, m_md t20, 1), List.mem_cons_self, rfl, Or.inl rfl⟩)), Stk_step (N := n) (pop := (42, n, t)) (new := [(2, m_md t20, 1 ||| (1 * 256)), (3, m_md t20, 1)]) F0 C_t25.1.to2 (fun (h : nk 42 = false) => absurd h (by decide)) (fun q _ h => h (42, n, t) rfl) (fun _ => rfl) (fun y hy hk => ⟨rfl, (Mo_cons (fun q => show n ≤ m_md t20 from by omega) (Mo_cons (fun q => show n ≤ m_md t20 from by omega) Mo_nil)) y hy hk⟩) (fun (h : 42 = 3 ∨ 42 = 18 ∨ 42 = 41) => absurd h (by decide)) (fun (h : 42 = 18) => absurd h (by decide)) (fun _ h16 => (Or.inr ⟨f_n_t25, (Ab_some (y := (2, m_md t20, 1 ||| (1 * 256))) rfl (show n < m_md t20 from by omega)), H50_no la_n_t25 wl_n_t25 (by decide)⟩)) r [] (fun y hy => absurd hy List.not_mem_nil) hS⟩⟩
        · exact (Aj_up (x := (3, m_md t20, 1)) (Aj_sub (y := (2, m_md t20, 1 ||| (1 * 256))) hJ (show 9 - (1 ||| (1 * 256)) / 256 ≤ 10 from by have := or_256 (b := 1) (show 1 < 256 from by omega); omega)) (Or.inr (show 2 < 9 - (1 ||| (1 * 256)) / 256 from by have := or_256 (b := 1) (show 1 < 256 from by omega); omega)))
        · show m_dp t25 = (dlt 3 + (dlt 2 + sD r))
          have : dlt 2 = 0 := rfl; have : dlt 3 = 0 := rfl; have : dlt 42 = 0 := rfl; omega
        · show m_rw t25 = (rho 3 + (rho 2 + sR r))
          have : rho 2 = 0 := rfl; have : rho 3 = 0 := rfl; have : rho 42 = 0 := rfl; omega
        · show m_md t25 + (mu7 3 + (mu7 2 + sM r)) ≤ 3 * m_at t25 + 7 * (r.length + 1 + 1) + 10
          have : mu7 2 = 7 := rfl; have : mu7 3 = 5 := rfl; have : mu7 42 = 8 := rfl; omega
        · show (wt 3 + (wt 2 + sW r)) + 6 * (4096 - m_at t25) + 4 * (600 - (r.length + 1 + 1)) < (wt 42 + sW r) + 6 * (4096 - m_at t0) + 4 * (600 - (r.length + 1))
          have : wt 2 = 5 := rfl; have : wt 3 = 3 := rfl; have : wt 42 = 5 := rfl; omega
      · have z_t26 : m_at t1 < m_ct t1 := lo_ne (Nat.ne_of_gt (show 0 < lo t1 (m_at t1) from by omega))
        refine Kp_at C_t1 (fun t26 C_t26 X_t26 a_t26 b_t26 d_t26 w_t26 u_t26 v_t26 j_t26 l_t26 => ?_)
        have e_t26 := C_t26.2.2.2.1
        rw [a_t1] at a_t26
        rw [b_t1] at b_t26
        rw [d_t1] at d_t26
        rw [w_t1] at w_t26
        rw [u_t1] at u_t26
        rw [v_t1] at v_t26
        rw [a_t1, e_t1] at z_t26
        clear d_t1 w_t1 u_t1 v_t1 e_t1 b_t1
        have I_n_t26 := I_n_t1.flat X_t26
        have f_n_t26 := f_n_t1.ex I_n_t1 (X_t26 0)
        have u_n_t26 := u_n_t1.ex I_n_t1 (X_t26 0)
        have I_m_mdt0_t26 := I_m_mdt0_t1.flat X_t26
        have f_m_mdt0_t26 := f_m_mdt0_t1.ex I_m_mdt0_t1 (X_t26 0)
        have la_n_t26 : m_la t26 n = (m_md t0) + 1 := by rw [j_t26.2.2.1]; exact la_n_t1
        have wl_n_t26 : m_wh t26 ((m_md t0)) = 13 := by rw [j_t26.1]; exact wl_n_t1
        clear la_n_t1 wl_n_t1
        refine Kp_wrap C_t26 I_n_t26.1 I_n_t26.2.1 f_n_t26 I_n_t26.2.2.1 (by omega) (by omega) (by decide) (fun t27 C_t27 X_t27 a_t27 b_t27 d_t27 w_t27 u_t27 v_t27 j_t27 l_t27 => ?_)
        have e_t27 := C_t27.2.2.2.1
        rw [a_t26] at a_t27
        rw [b_t26] at b_t27
        rw [d_t26] at d_t27
        rw [w_t26] at w_t27
        rw [u_t26] at u_t27
        rw [v_t26] at v_t27
        clear d_t26 w_t26 u_t26 v_t26 e_t26 a_t26
        have I_n_t27 := I_n_t26.le X_t27 (by omega)
        have f_n_t27 := f_n_t26.ex I_n_t26 (X_t27 0 (Nat.zero_le _))
        have u_n_t27 := u_n_t26.ex I_n_t26 (X_t27 0 (Nat.zero_le _))
        have I_m_mdt26_t27 : Nq t27 (m_md t26) := Nq.wrn j_t27 (by omega) I_n_t26 (by decide)
        have f_m_mdt26_t27 : Fz t27 (m_md t26) := by unfold Fz; rw [j_t27.2.1]; exact j_t27.2.2.1
        have la_n_t27 : m_la t27 n = (m_md t26) + 1 := j_t27.2.2.2.2.2.2.2.1
        have wl_n_t27 : m_wh t27 (m_md t26) = 66 := j_t27.1
        have y9_t28 : m_at t27 = m_at t1 + 1 → lo t27 (m_at t27) = lo t1 (m_at t1 + 1) := fun h => lo_2 C_t27 C_t1 h
        have y8_t28 : lo t27 (m_at t27) = lo t1 (m_at t1 + 1) := y9_t28 (by omega)
        have z_t28 : m_at t27 < m_ct t27 := lo_ne (Nat.ne_of_gt (show 0 < lo t27 (m_at t27) from by omega))
        refine Kp_at C_t27 (fun t28 C_t28 X_t28 a_t28 b_t28 d_t28 w_t28 u_t28 v_t28 j_t28 l_t28 => ?_)
        have e_t28 := C_t28.2.2.2.1
        rw [a_t27] at a_t28
        rw [b_t27] at b_t28
        rw [d_t27] at d_t28
        rw [w_t27] at w_t28
        rw [u_t27] at u_t28
        rw [v_t27] at v_t28
        rw [a_t27, e_t27] at z_t28
        clear z_t26
        clear d_t27 w_t27 u_t27 v_t27 e_t27 a_t27 b_t27
        have I_n_t28 := I_n_t27.flat X_t28
        have f_n_t28 := f_n_t27.ex I_n_t27 (X_t28 0)
        have u_n_t28 := u_n_t27.ex I_n_t27 (X_t28 0)
        have I_m_mdt26_t28 := I_m_mdt26_t27.flat X_t28
        have f_m_mdt26_t28 := f_m_mdt26_t27.ex I_m_mdt26_t27 (X_t28 0)
        have la_n_t28 : m_la t28 n = (m_md t26) + 1 := by rw [j_t28.2.2.1]; exact la_n_t27
        have wl_n_t28 : m_wh t28 ((m_md t26)) = 66 := by rw [j_t28.1]; exact wl_n_t27
        clear la_n_t27 wl_n_t27
        refine Ok_bnc ?_
        try unfold b_X6_expression
        refine Kp_push C_t28 (by omega) (fun t30 C_t30 X_t30 a_t30 b_t30 d_t30 w_t30 u_t30 v_t30 j_t30 l_t30 => ?_)
        have e_t30 := C_t30.2.2.2.1
        rw [a_t28] at a_t30
        rw [b_t28] at b_t30
        rw [d_t28] at d_t30
        rw [w_t28] at w_t30
        rw [u_t28] at u_t30
        rw [v_t28] at v_t30
        clear d_t28 w_t28 u_t28 v_t28 e_t28 a_t28 b_t28
        have I_n_t30 := I_n_t28.flat X_t30
        have f_n_t30 := f_n_t28.ex I_n_t28 (X_t30 0)
        have u_n_t30 := u_n_t28.ex I_n_t28 (X_t30 0)
        have I_m_mdt26_t30 := I_m_mdt26_t28.flat X_t30
        have f_m_mdt26_t30 := f_m_mdt26_t28.ex I_m_mdt26_t28 (X_t30 0)
        have la_n_t30 : m_la t30 n = (m_md t26) + 1 := by rw [j_t30.2.2.1]; exact la_n_t28
        have wl_n_t30 : m_wh t30 ((m_md t26)) = 66 := by rw [j_t30.1]; exact wl_n_t28
        clear la_n_t28 wl_n_t28
        refine Kp_push C_t30 (by omega) (fun t31 C_t31 X_t31 a_t31 b_t31 d_t31 w_t31 u_t31 v_t31 j_t31 l_t31 => ?_)
        have e_t31 := C_t31.2.2.2.1
        rw [a_t30] at a_t31
        rw [b_t30] at b_t31
        rw [d_t30] at d_t31
        rw [w_t30] at w_t31
        rw [u_t30] at u_t31
        rw [v_t30] at v_t31
        clear d_t30 w_t30 u_t30 v_t30 e_t30 a_t30 b_t30
        have I_n_t31 := I_n_t30.flat X_t31
        have f_n_t31 := f_n_t30.ex I_n_t30 (X_t31 0)
        have u_n_t31 := u_n_t30.ex I_n_t30 (X_t31 0)
        have I_m_mdt26_t31 := I_m_mdt26_t30.flat X_t31
        have f_m_mdt26_t31 := f_m_mdt26_t30.ex I_m_mdt26_t30 (X_t31 0)
        have la_n_t31 : m_la t31 n = (m_md t26) + 1 := by rw [j_t31.2.2.1]; exact la_n_t30
        have wl_n_t31 : m_wh t31 ((m_md t26)) = 66 := by rw [j_t31.1]; exact wl_n_t30
        clear la_n_t30 wl_n_t30
        refine Ok_ret (show Ok _ _ _ from ?_)
        refine Ok_ret (show Ok _ _ _ from ?_)
        refine Ok_ifz1 ?_
        refine Ok_ret (show Ok _ _ _ from ?_)
        refine Hv_mk (Kv_c (x := (3, m_md t26, 1)) rfl (Kv_c (x := (2, m_md t26, 1 ||| (1 * 256))) rfl hK)) (C_t31.1.2.2.2.2.2.2 hTt) C_t31 hT (by omega) (by omega) (by omega) ?_ ?_ ?_ (by omega) ?_ ?_ ?_
        · exact ⟨(Io_n (by decide) (by decide) I_m_mdt26_t31.1 I_m_mdt26_t31.2.1 I_m_mdt26_t31.2.2.1 (fun q => absurd q (by decide)) (fun q => absurd q (by decide)) I_m_mdt26_t31.2.2.2), (Nd_0 (by decide) Mo_nil), ⟨(Io_2 (by have := or_256 (b := 1) (show 1 < 256 from by omega); omega) (by have := or_256 (b := 1) (show 1 < 256 from by omega); omega) (by have := or_256 (b := 1) (show 1 < 256 from by omega); omega) I_m_mdt26_t31.1 I_m_mdt26_t31.2.1 I_m_mdt26_t31.2.2.1 I_m_mdt26_t31.2.2.2), (Nd_A (by decide) (Mo_cons (fun q => show m_md t26 ≤ m_md t26 from by omega) Mo_nil) (Or.inr ⟨(3, m_md t26, 1), List.mem_cons_self, rfl, Or.inl rfl⟩)), Stk_step (N := n) (pop := (42, n, t)) (new := [(2, m_md t26, 1 ||| (1 * 256)), (3, m_md t26, 1)]) F0 C_t31.1.to2 (fun (h : nk 42 = false) => absurd h (by decide)) (fun q _ h => h (42, n, t) rfl) (fun _ => rfl) (fun y hy hk => ⟨rfl, (Mo_cons (fun q => show n ≤ m_md t26 from by omega) (Mo_cons (fun q => show n ≤ m_md t26 from by omega) Mo_nil)) y hy hk⟩) (fun (h : 42 = 3 ∨ 42 = 18 ∨ 42 = 41) => absurd h (by decide)) (fun (h : 42 = 18) => absurd h (by decide)) (fun _ h16 => (Or.inr ⟨f_n_t31, (Ab_some (y := (2, m_md t26, 1 ||| (1 * 256))) rfl (show n < m_md t26 from by omega)), H50_no la_n_t31 wl_n_t31 (by decide)⟩)) r [] (fun y hy => absurd hy List.not_mem_nil) hS⟩⟩
        · exact (Aj_up (x := (3, m_md t26, 1)) (Aj_sub (y := (2, m_md t26, 1 ||| (1 * 256))) hJ (show 9 - (1 ||| (1 * 256)) / 256 ≤ 10 from by have := or_256 (b := 1) (show 1 < 256 from by omega); omega)) (Or.inr (show 2 < 9 - (1 ||| (1 * 256)) / 256 from by have := or_256 (b := 1) (show 1 < 256 from by omega); omega)))
        · show m_dp t31 = (dlt 3 + (dlt 2 + sD r))
          have : dlt 2 = 0 := rfl; have : dlt 3 = 0 := rfl; have : dlt 42 = 0 := rfl; omega
        · show m_rw t31 = (rho 3 + (rho 2 + sR r))
          have : rho 2 = 0 := rfl; have : rho 3 = 0 := rfl; have : rho 42 = 0 := rfl; omega
        · show m_md t31 + (mu7 3 + (mu7 2 + sM r)) ≤ 3 * m_at t31 + 7 * (r.length + 1 + 1) + 10
          have : mu7 2 = 7 := rfl; have : mu7 3 = 5 := rfl; have : mu7 42 = 8 := rfl; omega
        · show (wt 3 + (wt 2 + sW r)) + 6 * (4096 - m_at t31) + 4 * (600 - (r.length + 1 + 1)) < (wt 42 + sW r) + 6 * (4096 - m_at t0) + 4 * (600 - (r.length + 1))
          have : wt 2 = 5 := rfl; have : wt 3 = 3 := rfl; have : wt 42 = 5 := rfl; omega
    · refine Ok_ret (show Ok _ _ _ from ?_)
      refine Ok_ifz0 ?_
      refine Kp_wrap C_t1 I_n_t1.1 I_n_t1.2.1 f_n_t1 I_n_t1.2.2.1 (by omega) (by omega) (by decide) (fun t32 C_t32 X_t32 a_t32 b_t32 d_t32 w_t32 u_t32 v_t32 j_t32 l_t32 => ?_)
      have e_t32 := C_t32.2.2.2.1
      rw [a_t1] at a_t32
      rw [b_t1] at b_t32
      rw [d_t1] at d_t32
      rw [w_t1] at w_t32
      rw [u_t1] at u_t32
      rw [v_t1] at v_t32
      clear d_t1 w_t1 u_t1 v_t1 e_t1
      have I_n_t32 := I_n_t1.le X_t32 (by omega)
      have f_n_t32 := f_n_t1.ex I_n_t1 (X_t32 0 (Nat.zero_le _))
      have u_n_t32 := u_n_t1.ex I_n_t1 (X_t32 0 (Nat.zero_le _))
      have I_m_mdt1_t32 : Nq t32 (m_md t1) := Nq.wrn j_t32 (by omega) I_n_t1 (by decide)
      have f_m_mdt1_t32 : Fz t32 (m_md t1) := by unfold Fz; rw [j_t32.2.1]; exact j_t32.2.2.1
      have la_n_t32 : m_la t32 n = (m_md t1) + 1 := j_t32.2.2.2.2.2.2.2.1
      have wl_n_t32 : m_wh t32 (m_md t1) = 54 := j_t32.1
      have z_t33 : m_at t32 < m_ct t32 := lo_ne (Nat.ne_of_gt (show 0 < lo t32 (m_at t32) from by omega))
      refine Kp_at C_t32 (fun t33 C_t33 X_t33 a_t33 b_t33 d_t33 w_t33 u_t33 v_t33 j_t33 l_t33 => ?_)
      have e_t33 := C_t33.2.2.2.1
      rw [a_t32] at a_t33
      rw [b_t32] at b_t33
      rw [d_t32] at d_t33
      rw [w_t32] at w_t33
      rw [u_t32] at u_t33
      rw [v_t32] at v_t33
      rw [a_t32, e_t32] at z_t33
      clear d_t32 w_t32 u_t32 v_t32 e_t32 a_t32 b_t32
      have I_n_t33 := I_n_t32.flat X_t33
      have f_n_t33 := f_n_t32.ex I_n_t32 (X_t33 0)
      have u_n_t33 := u_n_t32.ex I_n_t32 (X_t33 0)
      have I_m_mdt1_t33 := I_m_mdt1_t32.flat X_t33
      have f_m_mdt1_t33 := f_m_mdt1_t32.ex I_m_mdt1_t32 (X_t33 0)
      have la_n_t33 : m_la t33 n = (m_md t1) + 1 := by rw [j_t33.2.2.1]; exact la_n_t32
      have wl_n_t33 : m_wh t33 ((m_md t1)) = 54 := by rw [j_t33.1]; exact wl_n_t32
      clear la_n_t32 wl_n_t32
      refine Ok_bnc ?_
      try unfold b_X6_right
      refine Kp_child C_t33 I_m_mdt1_t33.1 I_m_mdt1_t33.2.1 I_m_mdt1_t33.2.2.1 (by omega) (by omega) (by decide) (by decide) (fun t35 C_t35 X_t35 a_t35 b_t35 d_t35 w_t35 u_t35 v_t35 j_t35 l_t35 => ?_)
      have e_t35 := C_t35.2.2.2.1
      rw [a_t33] at a_t35
      rw [b_t33] at b_t35
      rw [d_t33] at d_t35
      rw [w_t33] at w_t35
      rw [u_t33] at u_t35
      rw [v_t33] at v_t35
      clear d_t33 w_t33 u_t33 v_t33 e_t33 a_t33
      have I_n_t35 := I_n_t33.chd X_t35 j_t35
      have f_n_t35 := f_n_t33.ex I_n_t33 (X_t35 0 (Nat.zero_le _))
      have u_n_t35 := u_n_t33.ex I_n_t33 (X_t35 0 (Nat.zero_le _))
      have I_m_mdt1_t35 := I_m_mdt1_t33.chd X_t35 j_t35
      have f_m_mdt1_t35 := f_m_mdt1_t33.ex I_m_mdt1_t33 (X_t35 0 (Nat.zero_le _))
      have la_n_t35 : m_la t35 n = (m_md t1) + 1 := by rw [(j_t35.2.2.2.2.2.2.2.1 n I_n_t33.1 (by omega)).1]; exact la_n_t33
      have wl_n_t35 : m_wh t35 ((m_md t1)) = 54 := by rw [(j_t35.2.2.2.2.2.2.1 ((m_md t1)) (by omega)).2]; exact wl_n_t33
      clear la_n_t33 wl_n_t33
      have f_m_mdt1_t35 : Fz t35 (m_md t1) := j_t35.2.2.2.2.1
      have I_m_mdt33_t35 : Nq t35 (m_md t33) := Nq.chn j_t35 (by omega) I_m_mdt1_t33 (by decide)
      have u_m_mdt33_t35 : Up t35 (m_md t33) := Or.inl j_t35.2.1
      have la_m_mdt1_t35 : m_la t35 (m_md t1) = (m_md t33) + 1 := j_t35.2.2.2.2.2.1
      have wl_m_mdt1_t35 : m_wh t35 (m_md t33) = 13 := j_t35.1
      refine Ok_ck (show t &&& 255 < 2147483648 from by omega) ?_
      refine Ok_ifz (f6_has _ _) (fun q36 => ?_) (fun q36 => ?_)
      · refine Kp_push C_t35 (by omega) (fun t37 C_t37 X_t37 a_t37 b_t37 d_t37 w_t37 u_t37 v_t37 j_t37 l_t37 => ?_)
        have e_t37 := C_t37.2.2.2.1
        rw [a_t35] at a_t37
        rw [b_t35] at b_t37
        rw [d_t35] at d_t37
        rw [w_t35] at w_t37
        rw [u_t35] at u_t37
        rw [v_t35] at v_t37
        clear d_t35 w_t35 u_t35 v_t35 e_t35 a_t35 b_t35
        have I_n_t37 := I_n_t35.flat X_t37
        have f_n_t37 := f_n_t35.ex I_n_t35 (X_t37 0)
        have u_n_t37 := u_n_t35.ex I_n_t35 (X_t37 0)
        have I_m_mdt1_t37 := I_m_mdt1_t35.flat X_t37
        have f_m_mdt1_t37 := f_m_mdt1_t35.ex I_m_mdt1_t35 (X_t37 0)
        have I_m_mdt33_t37 := I_m_mdt33_t35.flat X_t37
        have u_m_mdt33_t37 := u_m_mdt33_t35.ex I_m_mdt33_t35 (X_t37 0)
        have la_n_t37 : m_la t37 n = (m_md t1) + 1 := by rw [j_t37.2.2.1]; exact la_n_t35
        have wl_n_t37 : m_wh t37 ((m_md t1)) = 54 := by rw [j_t37.1]; exact wl_n_t35
        clear la_n_t35 wl_n_t35
        have la_m_mdt1_t37 : m_la t37 (m_md t1) = (m_md t33) + 1 := by rw [j_t37.2.2.1]; exact la_m_mdt1_t35
        have wl_m_mdt1_t37 : m_wh t37 ((m_md t33)) = 13 := by rw [j_t37.1]; exact wl_m_mdt1_t35
        clear la_m_mdt1_t35 wl_m_mdt1_t35
        refine Ok_bnc ?_
        try unfold b_X6_expression
        refine Kp_push C_t37 (by omega) (fun t39 C_t39 X_t39 a_t39 b_t39 d_t39 w_t39 u_t39 v_t39 j_t39 l_t39 => ?_)
        have e_t39 := C_t39.2.2.2.1
        rw [a_t37] at a_t39
        rw [b_t37] at b_t39
        rw [d_t37] at d_t39
        rw [w_t37] at w_t39
        rw [u_t37] at u_t39
        rw [v_t37] at v_t39
        clear d_t37 w_t37 u_t37 v_t37 e_t37 a_t37 b_t37
        have I_n_t39 := I_n_t37.flat X_t39
        have f_n_t39 := f_n_t37.ex I_n_t37 (X_t39 0)
        have u_n_t39 := u_n_t37.ex I_n_t37 (X_t39 0)
        have I_m_mdt1_t39 := I_m_mdt1_t37.flat X_t39
        have f_m_mdt1_t39 := f_m_mdt1_t37.ex I_m_mdt1_t37 (X_t39 0)
        have I_m_mdt33_t39 := I_m_mdt33_t37.flat X_t39
        have u_m_mdt33_t39 := u_m_mdt33_t37.ex I_m_mdt33_t37 (X_t39 0)
        have la_n_t39 : m_la t39 n = (m_md t1) + 1 := by rw [j_t39.2.2.1]; exact la_n_t37
        have wl_n_t39 : m_wh t39 ((m_md t1)) = 54 := by rw [j_t39.1]; exact wl_n_t37
        clear la_n_t37 wl_n_t37
        have la_m_mdt1_t39 : m_la t39 (m_md t1) = (m_md t33) + 1 := by rw [j_t39.2.2.1]; exact la_m_mdt1_t37
        have wl_m_mdt1_t39 : m_wh t39 ((m_md t33)) = 13 := by rw [j_t39.1]; exact wl_m_mdt1_t37
        clear la_m_mdt1_t37 wl_m_mdt1_t37
        refine Kp_push C_t39 (by omega) (fun t40 C_t40 X_t40 a_t40 b_t40 d_t40 w_t40 u_t40 v_t40 j_t40 l_t40 => ?_)
        have e_t40 := C_t40.2.2.2.1
        rw [a_t39] at a_t40
        rw [b_t39] at b_t40
        rw [d_t39] at d_t40
        rw [w_t39] at w_t40
        rw [u_t39] at u_t40
        rw [v_t39] at v_t40
        clear d_t39 w_t39 u_t39 v_t39 e_t39 a_t39 b_t39
        have I_n_t40 := I_n_t39.flat X_t40
        have f_n_t40 := f_n_t39.ex I_n_t39 (X_t40 0)
        have u_n_t40 := u_n_t39.ex I_n_t39 (X_t40 0)
        have I_m_mdt1_t40 := I_m_mdt1_t39.flat X_t40
        have f_m_mdt1_t40 := f_m_mdt1_t39.ex I_m_mdt1_t39 (X_t40 0)
        have I_m_mdt33_t40 := I_m_mdt33_t39.flat X_t40
        have u_m_mdt33_t40 := u_m_mdt33_t39.ex I_m_mdt33_t39 (X_t40 0)
        have la_n_t40 : m_la t40 n = (m_md t1) + 1 := by rw [j_t40.2.2.1]; exact la_n_t39
        have wl_n_t40 : m_wh t40 ((m_md t1)) = 54 := by rw [j_t40.1]; exact wl_n_t39
        clear la_n_t39 wl_n_t39
        have la_m_mdt1_t40 : m_la t40 (m_md t1) = (m_md t33) + 1 := by rw [j_t40.2.2.1]; exact la_m_mdt1_t39
        have wl_m_mdt1_t40 : m_wh t40 ((m_md t33)) = 13 := by rw [j_t40.1]; exact wl_m_mdt1_t39
        clear la_m_mdt1_t39 wl_m_mdt1_t39
        refine Ok_ret (show Ok _ _ _ from ?_)
        refine Ok_ret (show Ok _ _ _ from ?_)
        refine Ok_ret (show Ok _ _ _ from ?_)
        refine Hv_mk (Kv_c (x := (3, m_md t33, ((t &&& 255) &&& 1) ||| 0)) rfl (Kv_c (x := (2, m_md t33, (((t &&& 255) &&& 1) ||| 0) ||| (1 * 256))) rfl (Kv_c (x := (32, m_md t33, (t &&& 255) &&& 1)) rfl hK))) (C_t40.1.2.2.2.2.2.2 hTt) C_t40 hT (by omega) (by omega) (by omega) ?_ ?_ ?_ (by omega) ?_ ?_ ?_
        · exact ⟨(Io_n (by decide) (show ((t &&& 255) &&& 1) ||| 0 < 4096 from by omega) I_m_mdt33_t40.1 I_m_mdt33_t40.2.1 I_m_mdt33_t40.2.2.1 (fun q => absurd q (by decide)) (fun q => absurd q (by decide)) I_m_mdt33_t40.2.2.2), (Nd_0 (by decide) Mo_nil), ⟨(Io_2 (by have := or_256 (b := 1) (show (((t &&& 255) &&& 1) ||| 0) < 256 from by omega); omega) (by have := or_256 (b := 1) (show (((t &&& 255) &&& 1) ||| 0) < 256 from by omega); omega) (by have := or_256 (b := 1) (show (((t &&& 255) &&& 1) ||| 0) < 256 from by omega); omega) I_m_mdt33_t40.1 I_m_mdt33_t40.2.1 I_m_mdt33_t40.2.2.1 I_m_mdt33_t40.2.2.2), (Nd_A (by decide) (Mo_cons (fun q => show m_md t33 ≤ m_md t33 from by omega) Mo_nil) (Or.inr ⟨(3, m_md t33, ((t &&& 255) &&& 1) ||| 0), List.mem_cons_self, rfl, Or.inl rfl⟩)), ⟨(Io_n (by decide) (show (t &&& 255) &&& 1 < 4096 from by omega) I_m_mdt33_t40.1 I_m_mdt33_t40.2.1 I_m_mdt33_t40.2.2.1 (fun q => absurd q (by decide)) (fun q => absurd q (by decide)) I_m_mdt33_t40.2.2.2), (Nd_0 (by decide) (Mo_cons (fun q => show m_md t33 ≤ m_md t33 from by omega) (Mo_cons (fun q => show m_md t33 ≤ m_md t33 from by omega) Mo_nil))), Stk_step (N := n) (pop := (42, n, t)) (new := [(32, m_md t33, (t &&& 255) &&& 1), (2, m_md t33, (((t &&& 255) &&& 1) ||| 0) ||| (1 * 256)), (3, m_md t33, ((t &&& 255) &&& 1) ||| 0)]) F0 C_t40.1.to2 (fun (h : nk 42 = false) => absurd h (by decide)) (fun q _ h => h (42, n, t) rfl) (fun _ => rfl) (fun y hy hk => ⟨rfl, (Mo_cons (fun q => show n ≤ m_md t33 from by omega) (Mo_cons (fun q => show n ≤ m_md t33 from by omega) (Mo_cons (fun q => show n ≤ m_md t33 from by omega) Mo_nil))) y hy hk⟩) (fun (h : 42 = 3 ∨ 42 = 18 ∨ 42 = 41) => absurd h (by decide)) (fun (h : 42 = 18) => absurd h (by decide)) (fun _ h16 => (Or.inr ⟨f_n_t40, (Ab_some (y := (32, m_md t33, (t &&& 255) &&& 1)) rfl (show n < m_md t33 from by omega)), H50_no la_n_t40 wl_n_t40 (by decide)⟩)) r [] (fun y hy => absurd hy List.not_mem_nil) hS⟩⟩⟩
        · exact (Aj_up (x := (3, m_md t33, ((t &&& 255) &&& 1) ||| 0)) (Aj_up (x := (2, m_md t33, (((t &&& 255) &&& 1) ||| 0) ||| (1 * 256))) (Aj_sub (y := (32, m_md t33, (t &&& 255) &&& 1)) hJ (Nat.le_of_ble_eq_true rfl)) (Or.inr (show 9 - ((((t &&& 255) &&& 1) ||| 0) ||| (1 * 256)) / 256 < 9 from by have := or_256 (b := 1) (show (((t &&& 255) &&& 1) ||| 0) < 256 from by omega); omega))) (Or.inr (show 2 < 9 - ((((t &&& 255) &&& 1) ||| 0) ||| (1 * 256)) / 256 from by have := or_256 (b := 1) (show (((t &&& 255) &&& 1) ||| 0) < 256 from by omega); omega)))
        · show m_dp t40 = (dlt 3 + (dlt 2 + (dlt 32 + sD r)))
          have : dlt 2 = 0 := rfl; have : dlt 3 = 0 := rfl; have : dlt 32 = 0 := rfl; have : dlt 42 = 0 := rfl; omega
        · show m_rw t40 = (rho 3 + (rho 2 + (rho 32 + sR r)))
          have : rho 2 = 0 := rfl; have : rho 3 = 0 := rfl; have : rho 32 = 0 := rfl; have : rho 42 = 0 := rfl; omega
        · show m_md t40 + (mu7 3 + (mu7 2 + (mu7 32 + sM r))) ≤ 3 * m_at t40 + 7 * (r.length + 1 + 1 + 1) + 10
          have : mu7 2 = 7 := rfl; have : mu7 3 = 5 := rfl; have : mu7 32 = 7 := rfl; have : mu7 42 = 8 := rfl; omega
        · show (wt 3 + (wt 2 + (wt 32 + sW r))) + 6 * (4096 - m_at t40) + 4 * (600 - (r.length + 1 + 1 + 1)) < (wt 42 + sW r) + 6 * (4096 - m_at t0) + 4 * (600 - (r.length + 1))
          have : wt 2 = 5 := rfl; have : wt 3 = 3 := rfl; have : wt 32 = 5 := rfl; have : wt 42 = 5 := rfl; omega
      · refine Ok_bnc ?_
        try unfold b_X6_expression
        refine Kp_push C_t35 (by omega) (fun t42 C_t42 X_t42 a_t42 b_t42 d_t42 w_t42 u_t42 v_t42 j_t42 l_t42 => ?_)
        have e_t42 := C_t42.2.2.2.1
        rw [a_t35] at a_t42
        rw [b_t35] at b_t42
        rw [d_t35] at d_t42
        rw [w_t35] at w_t42
        rw [u_t35] at u_t42
        rw [v_t35] at v_t42
        clear d_t35 w_t35 u_t35 v_t35 e_t35 a_t35 b_t35
        have I_n_t42 := I_n_t35.flat X_t42
        have f_n_t42 := f_n_t35.ex I_n_t35 (X_t42 0)
        have u_n_t42 := u_n_t35.ex I_n_t35 (X_t42 0)
        have I_m_mdt1_t42 := I_m_mdt1_t35.flat X_t42
        have f_m_mdt1_t42 := f_m_mdt1_t35.ex I_m_mdt1_t35 (X_t42 0)
        have I_m_mdt33_t42 := I_m_mdt33_t35.flat X_t42
        have u_m_mdt33_t42 := u_m_mdt33_t35.ex I_m_mdt33_t35 (X_t42 0)
        have la_n_t42 : m_la t42 n = (m_md t1) + 1 := by rw [j_t42.2.2.1]; exact la_n_t35
        have wl_n_t42 : m_wh t42 ((m_md t1)) = 54 := by rw [j_t42.1]; exact wl_n_t35
        clear la_n_t35 wl_n_t35
        have la_m_mdt1_t42 : m_la t42 (m_md t1) = (m_md t33) + 1 := by rw [j_t42.2.2.1]; exact la_m_mdt1_t35
        have wl_m_mdt1_t42 : m_wh t42 ((m_md t33)) = 13 := by rw [j_t42.1]; exact wl_m_mdt1_t35
        clear la_m_mdt1_t35 wl_m_mdt1_t35
        refine Kp_push C_t42 (by omega) (fun t43 C_t43 X_t43 a_t43 b_t43 d_t43 w_t43 u_t43 v_t43 j_t43 l_t43 => ?_)
        have e_t43 := C_t43.2.2.2.1
        rw [a_t42] at a_t43
        rw [b_t42] at b_t43
        rw [d_t42] at d_t43
        rw [w_t42] at w_t43
        rw [u_t42] at u_t43
        rw [v_t42] at v_t43
        clear d_t42 w_t42 u_t42 v_t42 e_t42 a_t42 b_t42
        have I_n_t43 := I_n_t42.flat X_t43
        have f_n_t43 := f_n_t42.ex I_n_t42 (X_t43 0)
        have u_n_t43 := u_n_t42.ex I_n_t42 (X_t43 0)
        have I_m_mdt1_t43 := I_m_mdt1_t42.flat X_t43
        have f_m_mdt1_t43 := f_m_mdt1_t42.ex I_m_mdt1_t42 (X_t43 0)
        have I_m_mdt33_t43 := I_m_mdt33_t42.flat X_t43
        have u_m_mdt33_t43 := u_m_mdt33_t42.ex I_m_mdt33_t42 (X_t43 0)
        have la_n_t43 : m_la t43 n = (m_md t1) + 1 := by rw [j_t43.2.2.1]; exact la_n_t42
        have wl_n_t43 : m_wh t43 ((m_md t1)) = 54 := by rw [j_t43.1]; exact wl_n_t42
        clear la_n_t42 wl_n_t42
        have la_m_mdt1_t43 : m_la t43 (m_md t1) = (m_md t33) + 1 := by rw [j_t43.2.2.1]; exact la_m_mdt1_t42
        have wl_m_mdt1_t43 : m_wh t43 ((m_md t33)) = 13 := by rw [j_t43.1]; exact wl_m_mdt1_t42
        clear la_m_mdt1_t42 wl_m_mdt1_t42
        refine Ok_ret (show Ok _ _ _ from ?_)
        refine Ok_ret (show Ok _ _ _ from ?_)
        refine Ok_ret (show Ok _ _ _ from ?_)
        refine Hv_mk (Kv_c (x := (3, m_md t33, ((t &&& 255) &&& 1) ||| 0)) rfl (Kv_c (x := (2, m_md t33, (((t &&& 255) &&& 1) ||| 0) ||| (1 * 256))) rfl hK)) (C_t43.1.2.2.2.2.2.2 hTt) C_t43 hT (by omega) (by omega) (by omega) ?_ ?_ ?_ (by omega) ?_ ?_ ?_
        · exact ⟨(Io_n (by decide) (show ((t &&& 255) &&& 1) ||| 0 < 4096 from by omega) I_m_mdt33_t43.1 I_m_mdt33_t43.2.1 I_m_mdt33_t43.2.2.1 (fun q => absurd q (by decide)) (fun q => absurd q (by decide)) I_m_mdt33_t43.2.2.2), (Nd_0 (by decide) Mo_nil), ⟨(Io_2 (by have := or_256 (b := 1) (show (((t &&& 255) &&& 1) ||| 0) < 256 from by omega); omega) (by have := or_256 (b := 1) (show (((t &&& 255) &&& 1) ||| 0) < 256 from by omega); omega) (by have := or_256 (b := 1) (show (((t &&& 255) &&& 1) ||| 0) < 256 from by omega); omega) I_m_mdt33_t43.1 I_m_mdt33_t43.2.1 I_m_mdt33_t43.2.2.1 I_m_mdt33_t43.2.2.2), (Nd_A (by decide) (Mo_cons (fun q => show m_md t33 ≤ m_md t33 from by omega) Mo_nil) (Or.inr ⟨(3, m_md t33, ((t &&& 255) &&& 1) ||| 0), List.mem_cons_self, rfl, Or.inl rfl⟩)), Stk_step (N := n) (pop := (42, n, t)) (new := [(2, m_md t33, (((t &&& 255) &&& 1) ||| 0) ||| (1 * 256)), (3, m_md t33, ((t &&& 255) &&& 1) ||| 0)]) F0 C_t43.1.to2 (fun (h : nk 42 = false) => absurd h (by decide)) (fun q _ h => h (42, n, t) rfl) (fun _ => rfl) (fun y hy hk => ⟨rfl, (Mo_cons (fun q => show n ≤ m_md t33 from by omega) (Mo_cons (fun q => show n ≤ m_md t33 from by omega) Mo_nil)) y hy hk⟩) (fun (h : 42 = 3 ∨ 42 = 18 ∨ 42 = 41) => absurd h (by decide)) (fun (h : 42 = 18) => absurd h (by decide)) (fun _ h16 => (Or.inr ⟨f_n_t43, (Ab_some (y := (2, m_md t33, (((t &&& 255) &&& 1) ||| 0) ||| (1 * 256))) rfl (show n < m_md t33 from by omega)), H50_no la_n_t43 wl_n_t43 (by decide)⟩)) r [] (fun y hy => absurd hy List.not_mem_nil) hS⟩⟩
        · exact (Aj_up (x := (3, m_md t33, ((t &&& 255) &&& 1) ||| 0)) (Aj_sub (y := (2, m_md t33, (((t &&& 255) &&& 1) ||| 0) ||| (1 * 256))) hJ (show 9 - ((((t &&& 255) &&& 1) ||| 0) ||| (1 * 256)) / 256 ≤ 10 from by have := or_256 (b := 1) (show (((t &&& 255) &&& 1) ||| 0) < 256 from by omega); omega)) (Or.inr (show 2 < 9 - ((((t &&& 255) &&& 1) ||| 0) ||| (1 * 256)) / 256 from by have := or_256 (b := 1) (show (((t &&& 255) &&& 1) ||| 0) < 256 from by omega); omega)))
        · show m_dp t43 = (dlt 3 + (dlt 2 + sD r))
          have : dlt 2 = 0 := rfl; have : dlt 3 = 0 := rfl; have : dlt 42 = 0 := rfl; omega
        · show m_rw t43 = (rho 3 + (rho 2 + sR r))
          have : rho 2 = 0 := rfl; have : rho 3 = 0 := rfl; have : rho 42 = 0 := rfl; omega
        · show m_md t43 + (mu7 3 + (mu7 2 + sM r)) ≤ 3 * m_at t43 + 7 * (r.length + 1 + 1) + 10
          have : mu7 2 = 7 := rfl; have : mu7 3 = 5 := rfl; have : mu7 42 = 8 := rfl; omega
        · show (wt 3 + (wt 2 + sW r)) + 6 * (4096 - m_at t43) + 4 * (600 - (r.length + 1 + 1)) < (wt 42 + sW r) + 6 * (4096 - m_at t0) + 4 * (600 - (r.length + 1))
          have : wt 2 = 5 := rfl; have : wt 3 = 3 := rfl; have : wt 42 = 5 := rfl; omega

