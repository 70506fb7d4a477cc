/-! The steps of the reference, one by one. -/
theorem S_18_t64 {t0 : Mm} {n t : Nat} {r : List It} (H : Hp t0 (18, n, t) r) {E : Mm → Prop} (hk0 : lo t0 (m_at t0) = 64) : Ok (Qh (mz t0 ((18, n, t) :: r))) E (b_X6_step 18 n t t0) := by
  obtain ⟨hK, hT, hc, hw0, ha, hC, hS, hJ, hdp, hdl, hrw, hmd, htd, hln, hm16, hI, hD, hTt⟩ := Hp_out H
  have C_t0 := hC n
  have F0 := C_t0.2.1
  have I_n_t0 : Nq t0 n := ⟨(hI.2.1 rfl).1, (hI.2.1 rfl).2.1, (hI.2.1 rfl).2.2, hI.2.2.2 rfl⟩
  have m_n_t0 := I_n_t0.1
  have ht : t < 4096 := hI.1.1 (show 18 ≠ 42 by decide) (show 18 ≠ 48 by decide)
  have hdp : m_dp t0 = dlt 18 + sD r := hdp
  have hrw : m_rw t0 = rho 18 + sR r := hrw
  have hmd : m_md t0 + mu7 18 + sM r ≤ 3 * m_at t0 + 7 * r.length + 17 := hmd
  have hand : t &&& 1 ≤ 1 := Nat.and_le_right
  have h01 : (0 &&& 1 : Nat) = 0 := rfl
  have h02 : (1 : Nat) * 256 = 256 := rfl
  have hq1 : dlt 18 = 0 := rfl
  have hq2 : rho 18 = 0 := rfl
  have hq3 : mu7 18 = 5 := rfl
  unfold b_X6_step
  refine Ok_ifl (by decide) (by decide) (fun _ => ?_) (fun q => absurd (by decide) q)
  refine Ok_ifl (by decide) (by decide) (fun q => absurd q (by decide)) (fun _ => ?_)
  refine Ok_ifl (by decide) (by decide) (fun _ => ?_) (fun q => absurd (by decide) q)
  refine Ok_bnc ?_
  try unfold b_X6_typing
  refine Ok_ck (by decide) ?_
  refine Ok_ife (by decide) (by decide) (fun _ => ?_) (fun q => absurd (by decide) q)
  refine Ok_bnc ?_
  try unfold b_X6_type
  refine Kp_look C_t0 hT (by omega) ?_
  refine Ok_ife (Nat.lt_trans (lo_lt (C_t0.tk hT) _) (by decide)) (by decide) (fun q => absurd (hk0.symm.trans q) (by decide)) (fun _ => ?_)
  refine Ok_ck (Nat.lt_trans (lo_lt (C_t0.tk hT) _) (by decide)) ?_
  refine Ok_ifz (f6_beginsType _) (fun q => absurd q (by rw [hk0]; decide)) (fun q => ?_)
  refine Kp_more C_t0 (by omega) (by omega) (fun t3 C_t3 X_t3 a_t3 b_t3 d_t3 w_t3 u_t3 v_t3 j_t3 l_t3 => ?_)
  have e_t3 := C_t3.2.2.2.1
  rcases w_t3 with ⟨w_t3, y_t3⟩ | ⟨w_t3, wb_t3⟩
  · rw [d_t3] at y_t3
    have I_n_t3 := I_n_t0.flat X_t3
    refine Kp_push C_t3 (by omega) (fun t4 C_t4 X_t4 a_t4 b_t4 d_t4 w_t4 u_t4 v_t4 j_t4 l_t4 => ?_)
    have e_t4 := C_t4.2.2.2.1
    rw [a_t3] at a_t4
    rw [b_t3] at b_t4
    rw [d_t3] at d_t4
    rw [w_t3] at w_t4
    rw [u_t3] at u_t4
    rw [v_t3] at v_t4
    clear d_t3 w_t3 u_t3 v_t3 e_t3 a_t3 b_t3
    have I_n_t4 := I_n_t3.flat X_t4
    refine Ok_ife (Nat.lt_trans (lo_lt (C_t0.tk hT) _) (by decide)) (by decide) (fun q => absurd (hk0.symm.trans q) (by decide)) (fun _ => ?_)
    refine Ok_ife (Nat.lt_trans (lo_lt (C_t0.tk hT) _) (by decide)) (by decide) (fun q => absurd (hk0.symm.trans q) (by decide)) (fun _ => ?_)
    refine Ok_ife (Nat.lt_trans (lo_lt (C_t0.tk hT) _) (by decide)) (by decide) (fun q => absurd (hk0.symm.trans q) (by decide)) (fun _ => ?_)
    refine Ok_ife (Nat.lt_trans (lo_lt (C_t0.tk hT) _) (by decide)) (by decide) (fun q => absurd (hk0.symm.trans q) (by decide)) (fun _ => ?_)
    refine Ok_ife (Nat.lt_trans (lo_lt (C_t0.tk hT) _) (by decide)) (by decide) (fun q => ?_) (fun q => absurd hk0 q)
    refine Ok_ife (Nat.lt_trans (lo_lt (C_t0.tk hT) _) (by decide)) (by decide) (fun q => absurd (hk0.symm.trans q) (by decide)) (fun _ => ?_)
    refine Kp_child C_t4 I_n_t4.1 I_n_t4.2.1 I_n_t4.2.2.1 (by omega) (by omega) (by decide) (by decide) (fun t5 C_t5 X_t5 a_t5 b_t5 d_t5 w_t5 u_t5 v_t5 j_t5 l_t5 => ?_)
    have e_t5 := C_t5.2.2.2.1
    rw [a_t4] at a_t5
    rw [b_t4] at b_t5
    rw [d_t4] at d_t5
    rw [w_t4] at w_t5
    rw [u_t4] at u_t5
    rw [v_t4] at v_t5
    clear d_t4 w_t4 u_t4 v_t4 e_t4 a_t4
    have I_n_t5 := I_n_t4.chd X_t5 j_t5
    have f_n_t5 : Fz t5 n := j_t5.2.2.2.2.1
    have I_m_mdt4_t5 : Nq t5 (m_md t4) := Nq.chn j_t5 (by omega) I_n_t4 (by decide)
    have u_m_mdt4_t5 : Up t5 (m_md t4) := Or.inl j_t5.2.1
    have la_n_t5 : m_la t5 n = (m_md t4) + 1 := j_t5.2.2.2.2.2.1
    have wl_n_t5 : m_wh t5 (m_md t4) = 25 := j_t5.1
    have z_t6 : m_at t5 < m_ct t5 := lo_ne (Nat.ne_of_gt (show 0 < lo t5 (m_at t5) from by omega))
    refine Kp_at C_t5 (fun t6 C_t6 X_t6 a_t6 b_t6 d_t6 w_t6 u_t6 v_t6 j_t6 l_t6 => ?_)
    have e_t6 := C_t6.2.2.2.1
    rw [a_t5] at a_t6
    rw [b_t5] at b_t6
    rw [d_t5] at d_t6
    rw [w_t5] at w_t6
    rw [u_t5] at u_t6
    rw [v_t5] at v_t6
    rw [a_t5, e_t5] at z_t6
    clear d_t5 w_t5 u_t5 v_t5 e_t5 a_t5 b_t5
    have I_n_t6 := I_n_t5.flat X_t6
    have f_n_t6 := f_n_t5.ex I_n_t5 (X_t6 0)
    have I_m_mdt4_t6 := I_m_mdt4_t5.flat X_t6
    have u_m_mdt4_t6 := u_m_mdt4_t5.ex I_m_mdt4_t5 (X_t6 0)
    have la_n_t6 : m_la t6 n = (m_md t4) + 1 := by rw [j_t6.2.2.1]; exact la_n_t5
    have wl_n_t6 : m_wh t6 ((m_md t4)) = 25 := by rw [j_t6.1]; exact wl_n_t5
    clear la_n_t5 wl_n_t5
    refine Ok_ife (Nat.lt_trans (lo_lt (C_t0.tk hT) _) (by decide)) (by decide) (fun q => ?_) (fun q => absurd hk0 q)
    refine Kp_pass C_t6 hT (by omega) (by decide) (by omega) (fun t7 C_t7 X_t7 a_t7 b_t7 d_t7 w_t7 u_t7 v_t7 j_t7 l_t7 => ?_)
    have e_t7 := C_t7.2.2.2.1
    rcases w_t7 with ⟨w_t7, y_t7⟩ | ⟨w_t7, wb_t7⟩
    · have z_t7 : m_at t6 < m_ct t6 := lo_ne (Nat.ne_of_gt (show 0 < lo t6 (m_at t6) from by omega))
      rw [a_t6] at a_t7
      rw [b_t6] at b_t7
      rw [d_t6] at d_t7
      rw [w_t6] at w_t7
      rw [u_t6] at u_t7
      rw [v_t6] at v_t7
      rw [a_t6, e_t6] at z_t7
      clear z_t6
      clear d_t6 w_t6 u_t6 v_t6 e_t6 a_t6 b_t6
      have I_n_t7 := I_n_t6.flat X_t7
      have f_n_t7 := f_n_t6.ex I_n_t6 (X_t7 0)
      have I_m_mdt4_t7 := I_m_mdt4_t6.flat X_t7
      have u_m_mdt4_t7 := u_m_mdt4_t6.ex I_m_mdt4_t6 (X_t7 0)
      have la_n_t7 : m_la t7 n = (m_md t4) + 1 := by rw [j_t7.2.2.1]; exact la_n_t6
      have wl_n_t7 : m_wh t7 ((m_md t4)) = 25 := by rw [j_t7.1]; exact wl_n_t6
      clear la_n_t6 wl_n_t6
      refine Kp_push C_t7 (by omega) (fun t8 C_t8 X_t8 a_t8 b_t8 d_t8 w_t8 u_t8 v_t8 j_t8 l_t8 => ?_)
      have e_t8 := C_t8.2.2.2.1
      rw [a_t7] at a_t8
      rw [b_t7] at b_t8
      rw [d_t7] at d_t8
      rw [w_t7] at w_t8
      rw [u_t7] at u_t8
      rw [v_t7] at v_t8
      clear d_t7 w_t7 u_t7 v_t7 e_t7 a_t7 b_t7
      have I_n_t8 := I_n_t7.flat X_t8
      have f_n_t8 := f_n_t7.ex I_n_t7 (X_t8 0)
      have I_m_mdt4_t8 := I_m_mdt4_t7.flat X_t8
      have u_m_mdt4_t8 := u_m_mdt4_t7.ex I_m_mdt4_t7 (X_t8 0)
      have la_n_t8 : m_la t8 n = (m_md t4) + 1 := by rw [j_t8.2.2.1]; exact la_n_t7
      have wl_n_t8 : m_wh t8 ((m_md t4)) = 25 := by rw [j_t8.1]; exact wl_n_t7
      clear la_n_t7 wl_n_t7
      refine Ok_ret (show Ok _ _ _ from ?_)
      refine Ok_ret (show Ok _ _ _ from ?_)
      refine Hv_mk (Kv_c (x := (18, m_md t4, 0)) rfl (Kv_c (x := (6, n, 0)) rfl hK)) (C_t8.1.2.2.2.2.2.2 hTt) C_t8 hT (by omega) (by omega) (by omega) ?_ ?_ ?_ (by omega) ?_ ?_ ?_
      · exact ⟨(Io_n (by decide) (by decide) I_m_mdt4_t8.1 I_m_mdt4_t8.2.1 I_m_mdt4_t8.2.2.1 (fun q => absurd q (by decide)) (fun q => absurd q (by decide)) I_m_mdt4_t8.2.2.2), (Nd_0 (by decide) Mo_nil), ⟨(Io_6 (by decide)), (Nd_x (by decide)), Stk_step (N := n) (pop := (18, n, t)) (new := [(6, n, 0), (18, m_md t4, 0)]) F0 C_t8.1.to2 (fun (h : nk 18 = false) => absurd h (by decide)) (fun q _ h => h (18, n, t) rfl) (fun _ => rfl) (fun y hy hk => ⟨rfl, (Mo_cons (fun q => absurd (show nk 6 = true from q) (by decide)) (Mo_cons (fun q => show n ≤ m_md t4 from by omega) Mo_nil)) y hy hk⟩) (fun _ => Or.inl f_n_t8) (fun _ => (Or.inr (N5_mk f_n_t8 (Ab_some (y := (18, m_md t4, 0)) rfl (show n < m_md t4 from by omega)) la_n_t8 wl_n_t8 (Or.inl (by decide))))) (fun (h : 18 = 41 ∨ 18 = 42 ∨ 18 = 43) => absurd h (by decide)) r [] (fun y hy => absurd hy List.not_mem_nil) hS⟩⟩
      · exact (Aj_up (x := (18, m_md t4, 0)) (Aj_sub (y := (6, n, 0)) hJ (Nat.zero_le _)) (Or.inl (Nat.le_of_ble_eq_true rfl)))
      · show m_dp t8 = (dlt 18 + (dlt 6 + sD r))
        have : dlt 18 = 0 := rfl; have : dlt 6 = 1 := rfl; omega
      · show m_rw t8 = (rho 18 + (rho 6 + sR r))
        have : rho 18 = 0 := rfl; have : rho 6 = 0 := rfl; omega
      · show m_md t8 + (mu7 18 + (mu7 6 + sM r)) ≤ 3 * m_at t8 + 7 * (r.length + 1 + 1) + 10
        have : mu7 18 = 5 := rfl; have : mu7 6 = 7 := rfl; omega
      · show (wt 18 + (wt 6 + sW r)) + 6 * (4096 - m_at t8) + 4 * (600 - (r.length + 1 + 1)) < (wt 18 + sW r) + 6 * (4096 - m_at t0) + 4 * (600 - (r.length + 1))
        have : wt 18 = 0 := rfl; have : wt 6 = 5 := rfl; omega
    · have w_t7 := Nat.pos_of_ne_zero w_t7
      have I_n_t7 := I_n_t6.flat X_t7
      have f_n_t7 := f_n_t6.ex I_n_t6 (X_t7 0)
      have I_m_mdt4_t7 := I_m_mdt4_t6.flat X_t7
      have u_m_mdt4_t7 := u_m_mdt4_t6.ex I_m_mdt4_t6 (X_t7 0)
      have la_n_t7 : m_la t7 n = (m_md t4) + 1 := by rw [j_t7.2.2.1]; exact la_n_t6
      have wl_n_t7 : m_wh t7 ((m_md t4)) = 25 := by rw [j_t7.1]; exact wl_n_t6
      clear la_n_t6 wl_n_t6
      refine Kp_push C_t7 (by omega) (fun t9 C_t9 X_t9 a_t9 b_t9 d_t9 w_t9 u_t9 v_t9 j_t9 l_t9 => ?_)
      have e_t9 := C_t9.2.2.2.1
      have I_n_t9 := I_n_t7.flat X_t9
      have f_n_t9 := f_n_t7.ex I_n_t7 (X_t9 0)
      have I_m_mdt4_t9 := I_m_mdt4_t7.flat X_t9
      have u_m_mdt4_t9 := u_m_mdt4_t7.ex I_m_mdt4_t7 (X_t9 0)
      have la_n_t9 : m_la t9 n = (m_md t4) + 1 := by rw [j_t9.2.2.1]; exact la_n_t7
      have wl_n_t9 : m_wh t9 ((m_md t4)) = 25 := by rw [j_t9.1]; exact wl_n_t7
      clear la_n_t7 wl_n_t7
      refine Ok_ret (show Ok _ _ _ from ?_)
      refine Ok_ret (show Ok _ _ _ from ?_)
      exact Or.inl ⟨Nat.ne_of_gt (show 0 < m_wr t9 from by omega), by omega, by omega, C_t9.2.2.2.2.2, by omega⟩
  · have w_t3 := Nat.pos_of_ne_zero w_t3
    have I_n_t3 := I_n_t0.flat X_t3
    refine Kp_push C_t3 (by omega) (fun t10 C_t10 X_t10 a_t10 b_t10 d_t10 w_t10 u_t10 v_t10 j_t10 l_t10 => ?_)
    have e_t10 := C_t10.2.2.2.1
    have I_n_t10 := I_n_t3.flat X_t10
    refine Ok_ife (Nat.lt_trans (lo_lt (C_t0.tk hT) _) (by decide)) (by decide) (fun q => absurd (hk0.symm.trans q) (by decide)) (fun _ => ?_)
    refine Ok_ife (Nat.lt_trans (lo_lt (C_t0.tk hT) _) (by decide)) (by decide) (fun q => absurd (hk0.symm.trans q) (by decide)) (fun _ => ?_)
    refine Ok_ife (Nat.lt_trans (lo_lt (C_t0.tk hT) _) (by decide)) (by decide) (fun q => absurd (hk0.symm.trans q) (by decide)) (fun _ => ?_)
    refine Ok_ife (Nat.lt_trans (lo_lt (C_t0.tk hT) _) (by decide)) (by decide) (fun q => absurd (hk0.symm.trans q) (by decide)) (fun _ => ?_)
    refine Ok_ife (Nat.lt_trans (lo_lt (C_t0.tk hT) _) (by decide)) (by decide) (fun q => ?_) (fun q => absurd hk0 q)
    refine Ok_ife (Nat.lt_trans (lo_lt (C_t0.tk hT) _) (by decide)) (by decide) (fun q => absurd (hk0.symm.trans q) (by decide)) (fun _ => ?_)
    refine Kp_child C_t10 I_n_t10.1 I_n_t10.2.1 I_n_t10.2.2.1 (by omega) (by omega) (by decide) (by decide) (fun t11 C_t11 X_t11 a_t11 b_t11 d_t11 w_t11 u_t11 v_t11 j_t11 l_t11 => ?_)
    have e_t11 := C_t11.2.2.2.1
    have I_n_t11 := I_n_t10.chd X_t11 j_t11
    have f_n_t11 : Fz t11 n := j_t11.2.2.2.2.1
    have I_m_mdt10_t11 : Nq t11 (m_md t10) := Nq.chn j_t11 (by omega) I_n_t10 (by decide)
    have u_m_mdt10_t11 : Up t11 (m_md t10) := Or.inl j_t11.2.1
    have la_n_t11 : m_la t11 n = (m_md t10) + 1 := j_t11.2.2.2.2.2.1
    have wl_n_t11 : m_wh t11 (m_md t10) = 25 := j_t11.1
    refine Kp_at C_t11 (fun t12 C_t12 X_t12 a_t12 b_t12 d_t12 w_t12 u_t12 v_t12 j_t12 l_t12 => ?_)
    have e_t12 := C_t12.2.2.2.1
    have I_n_t12 := I_n_t11.flat X_t12
    have f_n_t12 := f_n_t11.ex I_n_t11 (X_t12 0)
    have I_m_mdt10_t12 := I_m_mdt10_t11.flat X_t12
    have u_m_mdt10_t12 := u_m_mdt10_t11.ex I_m_mdt10_t11 (X_t12 0)
    have la_n_t12 : m_la t12 n = (m_md t10) + 1 := by rw [j_t12.2.2.1]; exact la_n_t11
    have wl_n_t12 : m_wh t12 ((m_md t10)) = 25 := by rw [j_t12.1]; exact wl_n_t11
    clear la_n_t11 wl_n_t11
    refine Ok_ife (Nat.lt_trans (lo_lt (C_t0.tk hT) _) (by decide)) (by decide) (fun q => ?_) (fun q => absurd hk0 q)
    refine Kp_pass C_t12 hT (by omega) (by decide) (by omega) (fun t13 C_t13 X_t13 a_t13 b_t13 d_t13 w_t13 u_t13 v_t13 j_t13 l_t13 => ?_)
    have e_t13 := C_t13.2.2.2.1
    have w_t13 : 0 < m_wr t13 ∧ m_wr t13 ≤ m_wr t12 + m_at t12 + 1 := by omega
    have I_n_t13 := I_n_t12.flat X_t13
    have f_n_t13 := f_n_t12.ex I_n_t12 (X_t13 0)
    have I_m_mdt10_t13 := I_m_mdt10_t12.flat X_t13
    have u_m_mdt10_t13 := u_m_mdt10_t12.ex I_m_mdt10_t12 (X_t13 0)
    have la_n_t13 : m_la t13 n = (m_md t10) + 1 := by rw [j_t13.2.2.1]; exact la_n_t12
    have wl_n_t13 : m_wh t13 ((m_md t10)) = 25 := by rw [j_t13.1]; exact wl_n_t12
    clear la_n_t12 wl_n_t12
    refine Kp_push C_t13 (by omega) (fun t14 C_t14 X_t14 a_t14 b_t14 d_t14 w_t14 u_t14 v_t14 j_t14 l_t14 => ?_)
    have e_t14 := C_t14.2.2.2.1
    have I_n_t14 := I_n_t13.flat X_t14
    have f_n_t14 := f_n_t13.ex I_n_t13 (X_t14 0)
    have I_m_mdt10_t14 := I_m_mdt10_t13.flat X_t14
    have u_m_mdt10_t14 := u_m_mdt10_t13.ex I_m_mdt10_t13 (X_t14 0)
    have la_n_t14 : m_la t14 n = (m_md t10) + 1 := by rw [j_t14.2.2.1]; exact la_n_t13
    have wl_n_t14 : m_wh t14 ((m_md t10)) = 25 := by rw [j_t14.1]; exact wl_n_t13
    clear la_n_t13 wl_n_t13
    refine Ok_ret (show Ok _ _ _ from ?_)
    refine Ok_ret (show Ok _ _ _ from ?_)
    exact Or.inl ⟨Nat.ne_of_gt (show 0 < m_wr t14 from by omega), by omega, by omega, C_t14.2.2.2.2.2, by omega⟩

theorem S_18_t42 {t0 : Mm} {n t : Nat} {r : List It} (H : Hp t0 (18, n, t) r) {E : Mm → Prop} (hk0 : lo t0 (m_at t0) = 42) : Ok (Qh (mz t0 ((18, n, t) :: r))) E (b_X6_step 18 n t t0) := by
  obtain ⟨hK, hT, hc, hw0, ha, hC, hS, hJ, hdp, hdl, hrw, hmd, htd, hln, hm16, hI, hD, hTt⟩ := Hp_out H
  have C_t0 := hC n
  have F0 := C_t0.2.1
  have I_n_t0 : Nq t0 n := ⟨(hI.2.1 rfl).1, (hI.2.1 rfl).2.1, (hI.2.1 rfl).2.2, hI.2.2.2 rfl⟩
  have m_n_t0 := I_n_t0.1
  have ht : t < 4096 := hI.1.1 (show 18 ≠ 42 by decide) (show 18 ≠ 48 by decide)
  have hdp : m_dp t0 = dlt 18 + sD r := hdp
  have hrw : m_rw t0 = rho 18 + sR r := hrw
  have hmd : m_md t0 + mu7 18 + sM r ≤ 3 * m_at t0 + 7 * r.length + 17 := hmd
  have hand : t &&& 1 ≤ 1 := Nat.and_le_right
  have h01 : (0 &&& 1 : Nat) = 0 := rfl
  have h02 : (1 : Nat) * 256 = 256 := rfl
  have hq1 : dlt 18 = 0 := rfl
  have hq2 : rho 18 = 0 := rfl
  have hq3 : mu7 18 = 5 := rfl
  unfold b_X6_step
  refine Ok_ifl (by decide) (by decide) (fun _ => ?_) (fun q => absurd (by decide) q)
  refine Ok_ifl (by decide) (by decide) (fun q => absurd q (by decide)) (fun _ => ?_)
  refine Ok_ifl (by decide) (by decide) (fun _ => ?_) (fun q => absurd (by decide) q)
  refine Ok_bnc ?_
  try unfold b_X6_typing
  refine Ok_ck (by decide) ?_
  refine Ok_ife (by decide) (by decide) (fun _ => ?_) (fun q => absurd (by decide) q)
  refine Ok_bnc ?_
  try unfold b_X6_type
  refine Kp_look C_t0 hT (by omega) ?_
  refine Ok_ife (Nat.lt_trans (lo_lt (C_t0.tk hT) _) (by decide)) (by decide) (fun q => absurd (hk0.symm.trans q) (by decide)) (fun _ => ?_)
  refine Ok_ck (Nat.lt_trans (lo_lt (C_t0.tk hT) _) (by decide)) ?_
  refine Ok_ifz (f6_beginsType _) (fun q => absurd q (by rw [hk0]; decide)) (fun q => ?_)
  refine Kp_more C_t0 (by omega) (by omega) (fun t3 C_t3 X_t3 a_t3 b_t3 d_t3 w_t3 u_t3 v_t3 j_t3 l_t3 => ?_)
  have e_t3 := C_t3.2.2.2.1
  rcases w_t3 with ⟨w_t3, y_t3⟩ | ⟨w_t3, wb_t3⟩
  · rw [d_t3] at y_t3
    have I_n_t3 := I_n_t0.flat X_t3
    refine Kp_push C_t3 (by omega) (fun t4 C_t4 X_t4 a_t4 b_t4 d_t4 w_t4 u_t4 v_t4 j_t4 l_t4 => ?_)
    have e_t4 := C_t4.2.2.2.1
    rw [a_t3] at a_t4
    rw [b_t3] at b_t4
    rw [d_t3] at d_t4
    rw [w_t3] at w_t4
    rw [u_t3] at u_t4
    rw [v_t3] at v_t4
    clear d_t3 w_t3 u_t3 v_t3 e_t3 a_t3 b_t3
    have I_n_t4 := I_n_t3.flat X_t4
    refine Ok_ife (Nat.lt_trans (lo_lt (C_t0.tk hT) _) (by decide)) (by decide) (fun q => absurd (hk0.symm.trans q) (by decide)) (fun _ => ?_)
    refine Ok_ife (Nat.lt_trans (lo_lt (C_t0.tk hT) _) (by decide)) (by decide) (fun q => absurd (hk0.symm.trans q) (by decide)) (fun _ => ?_)
    refine Ok_ife (Nat.lt_trans (lo_lt (C_t0.tk hT) _) (by decide)) (by decide) (fun q => absurd (hk0.symm.trans q) (by decide)) (fun _ => ?_)
    refine Ok_ife (Nat.lt_trans (lo_lt (C_t0.tk hT) _) (by decide)) (by decide) (fun q => absurd (hk0.symm.trans q) (by decide)) (fun _ => ?_)
    refine Ok_ife (Nat.lt_trans (lo_lt (C_t0.tk hT) _) (by decide)) (by decide) (fun q => absurd (hk0.symm.trans q) (by decide)) (fun _ => ?_)
    refine Ok_ife (Nat.lt_trans (lo_lt (C_t0.tk hT) _) (by decide)) (by decide) (fun q => ?_) (fun q => absurd hk0 q)
    refine Kp_child C_t4 I_n_t4.1 I_n_t4.2.1 I_n_t4.2.2.1 (by omega) (by omega) (by decide) (by decide) (fun t5 C_t5 X_t5 a_t5 b_t5 d_t5 w_t5 u_t5 v_t5 j_t5 l_t5 => ?_)
    have e_t5 := C_t5.2.2.2.1
    rw [a_t4] at a_t5
    rw [b_t4] at b_t5
    rw [d_t4] at d_t5
    rw [w_t4] at w_t5
    rw [u_t4] at u_t5
    rw [v_t4] at v_t5
    clear d_t4 w_t4 u_t4 v_t4 e_t4 a_t4
    have I_n_t5 := I_n_t4.chd X_t5 j_t5
    have f_n_t5 : Fz t5 n := j_t5.2.2.2.2.1
    have I_m_mdt4_t5 : Nq t5 (m_md t4) := Nq.chn j_t5 (by omega) I_n_t4 (by decide)
    have u_m_mdt4_t5 : Up t5 (m_md t4) := Or.inl j_t5.2.1
    have la_n_t5 : m_la t5 n = (m_md t4) + 1 := j_t5.2.2.2.2.2.1
    have wl_n_t5 : m_wh t5 (m_md t4) = 26 := j_t5.1
    have z_t6 : m_at t5 < m_ct t5 := lo_ne (Nat.ne_of_gt (show 0 < lo t5 (m_at t5) from by omega))
    refine Kp_at C_t5 (fun t6 C_t6 X_t6 a_t6 b_t6 d_t6 w_t6 u_t6 v_t6 j_t6 l_t6 => ?_)
    have e_t6 := C_t6.2.2.2.1
    rw [a_t5] at a_t6
    rw [b_t5] at b_t6
    rw [d_t5] at d_t6
    rw [w_t5] at w_t6
    rw [u_t5] at u_t6
    rw [v_t5] at v_t6
    rw [a_t5, e_t5] at z_t6
    clear d_t5 w_t5 u_t5 v_t5 e_t5 a_t5 b_t5
    have I_n_t6 := I_n_t5.flat X_t6
    have f_n_t6 := f_n_t5.ex I_n_t5 (X_t6 0)
    have I_m_mdt4_t6 := I_m_mdt4_t5.flat X_t6
    have u_m_mdt4_t6 := u_m_mdt4_t5.ex I_m_mdt4_t5 (X_t6 0)
    have la_n_t6 : m_la t6 n = (m_md t4) + 1 := by rw [j_t6.2.2.1]; exact la_n_t5
    have wl_n_t6 : m_wh t6 ((m_md t4)) = 26 := by rw [j_t6.1]; exact wl_n_t5
    clear la_n_t5 wl_n_t5
    refine Kp_push C_t6 (by omega) (fun t7 C_t7 X_t7 a_t7 b_t7 d_t7 w_t7 u_t7 v_t7 j_t7 l_t7 => ?_)
    have e_t7 := C_t7.2.2.2.1
    rw [a_t6] at a_t7
    rw [b_t6] at b_t7
    rw [d_t6] at d_t7
    rw [w_t6] at w_t7
    rw [u_t6] at u_t7
    rw [v_t6] at v_t7
    clear d_t6 w_t6 u_t6 v_t6 e_t6 a_t6 b_t6
    have I_n_t7 := I_n_t6.flat X_t7
    have f_n_t7 := f_n_t6.ex I_n_t6 (X_t7 0)
    have I_m_mdt4_t7 := I_m_mdt4_t6.flat X_t7
    have u_m_mdt4_t7 := u_m_mdt4_t6.ex I_m_mdt4_t6 (X_t7 0)
    have la_n_t7 : m_la t7 n = (m_md t4) + 1 := by rw [j_t7.2.2.1]; exact la_n_t6
    have wl_n_t7 : m_wh t7 ((m_md t4)) = 26 := by rw [j_t7.1]; exact wl_n_t6
    clear la_n_t6 wl_n_t6
    refine Ok_ret (show Ok _ _ _ from ?_)
    refine Ok_ret (show Ok _ _ _ from ?_)
    refine Hv_mk (Kv_c (x := (18, m_md t4, 0)) rfl (Kv_c (x := (6, n, 0)) rfl hK)) (C_t7.1.2.2.2.2.2.2 hTt) C_t7 hT (by omega) (by omega) (by omega) ?_ ?_ ?_ (by omega) ?_ ?_ ?_
    · exact ⟨(Io_n (by decide) (by decide) I_m_mdt4_t7.1 I_m_mdt4_t7.2.1 I_m_mdt4_t7.2.2.1 (fun q => absurd q (by decide)) (fun q => absurd q (by decide)) I_m_mdt4_t7.2.2.2), (Nd_0 (by decide) Mo_nil), ⟨(Io_6 (by decide)), (Nd_x (by decide)), Stk_step (N := n) (pop := (18, n, t)) (new := [(6, n, 0), (18, m_md t4, 0)]) F0 C_t7.1.to2 (fun (h : nk 18 = false) => absurd h (by decide)) (fun q _ h => h (18, n, t) rfl) (fun _ => rfl) (fun y hy hk => ⟨rfl, (Mo_cons (fun q => absurd (show nk 6 = true from q) (by decide)) (Mo_cons (fun q => show n ≤ m_md t4 from by omega) Mo_nil)) y hy hk⟩) (fun _ => Or.inl f_n_t7) (fun _ => (Or.inr (N5_mk f_n_t7 (Ab_some (y := (18, m_md t4, 0)) rfl (show n < m_md t4 from by omega)) la_n_t7 wl_n_t7 (Or.inl (by decide))))) (fun (h : 18 = 41 ∨ 18 = 42 ∨ 18 = 43) => absurd h (by decide)) r [] (fun y hy => absurd hy List.not_mem_nil) hS⟩⟩
    · exact (Aj_up (x := (18, m_md t4, 0)) (Aj_sub (y := (6, n, 0)) hJ (Nat.zero_le _)) (Or.inl (Nat.le_of_ble_eq_true rfl)))
    · show m_dp t7 = (dlt 18 + (dlt 6 + sD r))
      have : dlt 18 = 0 := rfl; have : dlt 6 = 1 := rfl; omega
    · show m_rw t7 = (rho 18 + (rho 6 + sR r))
      have : rho 18 = 0 := rfl; have : rho 6 = 0 := rfl; omega
    · show m_md t7 + (mu7 18 + (mu7 6 + sM r)) ≤ 3 * m_at t7 + 7 * (r.length + 1 + 1) + 10
      have : mu7 18 = 5 := rfl; have : mu7 6 = 7 := rfl; omega
    · show (wt 18 + (wt 6 + sW r)) + 6 * (4096 - m_at t7) + 4 * (600 - (r.length + 1 + 1)) < (wt 18 + sW r) + 6 * (4096 - m_at t0) + 4 * (600 - (r.length + 1))
      have : wt 18 = 0 := rfl; have : wt 6 = 5 := rfl; omega
  · have w_t3 := Nat.pos_of_ne_zero w_t3
    have I_n_t3 := I_n_t0.flat X_t3
    refine Kp_push C_t3 (by omega) (fun t8 C_t8 X_t8 a_t8 b_t8 d_t8 w_t8 u_t8 v_t8 j_t8 l_t8 => ?_)
    have e_t8 := C_t8.2.2.2.1
    have I_n_t8 := I_n_t3.flat X_t8
    refine Ok_ife (Nat.lt_trans (lo_lt (C_t0.tk hT) _) (by decide)) (by decide) (fun q => absurd (hk0.symm.trans q) (by decide)) (fun _ => ?_)
    refine Ok_ife (Nat.lt_trans (lo_lt (C_t0.tk hT) _) (by decide)) (by decide) (fun q => absurd (hk0.symm.trans q) (by decide)) (fun _ => ?_)
    refine Ok_ife (Nat.lt_trans (lo_lt (C_t0.tk hT) _) (by decide)) (by decide) (fun q => absurd (hk0.symm.trans q) (by decide)) (fun _ => ?_)
    refine Ok_ife (Nat.lt_trans (lo_lt (C_t0.tk hT) _) (by decide)) (by decide) (fun q => absurd (hk0.symm.trans q) (by decide)) (fun _ => ?_)
    refine Ok_ife (Nat.lt_trans (lo_lt (C_t0.tk hT) _) (by decide)) (by decide) (fun q => absurd (hk0.symm.trans q) (by decide)) (fun _ => ?_)
    refine Ok_ife (Nat.lt_trans (lo_lt (C_t0.tk hT) _) (by decide)) (by decide) (fun q => ?_) (fun q => absurd hk0 q)
    refine Kp_child C_t8 I_n_t8.1 I_n_t8.2.1 I_n_t8.2.2.1 (by omega) (by omega) (by decide) (by decide) (fun t9 C_t9 X_t9 a_t9 b_t9 d_t9 w_t9 u_t9 v_t9 j_t9 l_t9 => ?_)
    have e_t9 := C_t9.2.2.2.1
    have I_n_t9 := I_n_t8.chd X_t9 j_t9
    have f_n_t9 : Fz t9 n := j_t9.2.2.2.2.1
    have I_m_mdt8_t9 : Nq t9 (m_md t8) := Nq.chn j_t9 (by omega) I_n_t8 (by decide)
    have u_m_mdt8_t9 : Up t9 (m_md t8) := Or.inl j_t9.2.1
    have la_n_t9 : m_la t9 n = (m_md t8) + 1 := j_t9.2.2.2.2.2.1
    have wl_n_t9 : m_wh t9 (m_md t8) = 26 := j_t9.1
    refine Kp_at C_t9 (fun t10 C_t10 X_t10 a_t10 b_t10 d_t10 w_t10 u_t10 v_t10 j_t10 l_t10 => ?_)
    have e_t10 := C_t10.2.2.2.1
    have I_n_t10 := I_n_t9.flat X_t10
    have f_n_t10 := f_n_t9.ex I_n_t9 (X_t10 0)
    have I_m_mdt8_t10 := I_m_mdt8_t9.flat X_t10
    have u_m_mdt8_t10 := u_m_mdt8_t9.ex I_m_mdt8_t9 (X_t10 0)
    have la_n_t10 : m_la t10 n = (m_md t8) + 1 := by rw [j_t10.2.2.1]; exact la_n_t9
    have wl_n_t10 : m_wh t10 ((m_md t8)) = 26 := by rw [j_t10.1]; exact wl_n_t9
    clear la_n_t9 wl_n_t9
    refine Kp_push C_t10 (by omega) (fun t11 C_t11 X_t11 a_t11 b_t11 d_t11 w_t11 u_t11 v_t11 j_t11 l_t11 => ?_)
    have e_t11 := C_t11.2.2.2.1
    have I_n_t11 := I_n_t10.flat X_t11
    have f_n_t11 := f_n_t10.ex I_n_t10 (X_t11 0)
    have I_m_mdt8_t11 := I_m_mdt8_t10.flat X_t11
    have u_m_mdt8_t11 := u_m_mdt8_t10.ex I_m_mdt8_t10 (X_t11 0)
    have la_n_t11 : m_la t11 n = (m_md t8) + 1 := by rw [j_t11.2.2.1]; exact la_n_t10
    have wl_n_t11 : m_wh t11 ((m_md t8)) = 26 := by rw [j_t11.1]; exact wl_n_t10
    clear la_n_t10 wl_n_t10
    refine Ok_ret (show Ok _ _ _ from ?_)
    refine Ok_ret (show Ok _ _ _ from ?_)
    exact Or.inl ⟨Nat.ne_of_gt (show 0 < m_wr t11 from by omega), by omega, by omega, C_t11.2.2.2.2.2, by omega⟩

theorem S_18_t20 {t0 : Mm} {n t : Nat} {r : List It} (H : Hp t0 (18, n, t) r) {E : Mm → Prop} (hk0 : lo t0 (m_at t0) = 20) : Ok (Qh (mz t0 ((18, n, t) :: r))) E (b_X6_step 18 n t t0) := by
  obtain ⟨hK, hT, hc, hw0, ha, hC, hS, hJ, hdp, hdl, hrw, hmd, htd, hln, hm16, hI, hD, hTt⟩ := Hp_out H
  have C_t0 := hC n
  have F0 := C_t0.2.1
  have I_n_t0 : Nq t0 n := ⟨(hI.2.1 rfl).1, (hI.2.1 rfl).2.1, (hI.2.1 rfl).2.2, hI.2.2.2 rfl⟩
  have m_n_t0 := I_n_t0.1
  have ht : t < 4096 := hI.1.1 (show 18 ≠ 42 by decide) (show 18 ≠ 48 by decide)
  have hdp : m_dp t0 = dlt 18 + sD r := hdp
  have hrw : m_rw t0 = rho 18 + sR r := hrw
  have hmd : m_md t0 + mu7 18 + sM r ≤ 3 * m_at t0 + 7 * r.length + 17 := hmd
  have hand : t &&& 1 ≤ 1 := Nat.and_le_right
  have h01 : (0 &&& 1 : Nat) = 0 := rfl
  have h02 : (1 : Nat) * 256 = 256 := rfl
  have hq1 : dlt 18 = 0 := rfl
  have hq2 : rho 18 = 0 := rfl
  have hq3 : mu7 18 = 5 := rfl
  unfold b_X6_step
  refine Ok_ifl (by decide) (by decide) (fun _ => ?_) (fun q => absurd (by decide) q)
  refine Ok_ifl (by decide) (by decide) (fun q => absurd q (by decide)) (fun _ => ?_)
  refine Ok_ifl (by decide) (by decide) (fun _ => ?_) (fun q => absurd (by decide) q)
  refine Ok_bnc ?_
  try unfold b_X6_typing
  refine Ok_ck (by decide) ?_
  refine Ok_ife (by decide) (by decide) (fun _ => ?_) (fun q => absurd (by decide) q)
  refine Ok_bnc ?_
  try unfold b_X6_type
  refine Kp_look C_t0 hT (by omega) ?_
  refine Ok_ife (Nat.lt_trans (lo_lt (C_t0.tk hT) _) (by decide)) (by decide) (fun q => absurd (hk0.symm.trans q) (by decide)) (fun _ => ?_)
  refine Ok_ck (Nat.lt_trans (lo_lt (C_t0.tk hT) _) (by decide)) ?_
  refine Ok_ifz (f6_beginsType _) (fun q => absurd q (by rw [hk0]; decide)) (fun q => ?_)
  refine Kp_more C_t0 (by omega) (by omega) (fun t3 C_t3 X_t3 a_t3 b_t3 d_t3 w_t3 u_t3 v_t3 j_t3 l_t3 => ?_)
  have e_t3 := C_t3.2.2.2.1
  rcases w_t3 with ⟨w_t3, y_t3⟩ | ⟨w_t3, wb_t3⟩
  · rw [d_t3] at y_t3
    have I_n_t3 := I_n_t0.flat X_t3
    refine Kp_push C_t3 (by omega) (fun t4 C_t4 X_t4 a_t4 b_t4 d_t4 w_t4 u_t4 v_t4 j_t4 l_t4 => ?_)
    have e_t4 := C_t4.2.2.2.1
    rw [a_t3] at a_t4
    rw [b_t3] at b_t4
    rw [d_t3] at d_t4
    rw [w_t3] at w_t4
    rw [u_t3] at u_t4
    rw [v_t3] at v_t4
    clear d_t3 w_t3 u_t3 v_t3 e_t3 a_t3 b_t3
    have I_n_t4 := I_n_t3.flat X_t4
    refine Ok_ife (Nat.lt_trans (lo_lt (C_t0.tk hT) _) (by decide)) (by decide) (fun q => absurd (hk0.symm.trans q) (by decide)) (fun _ => ?_)
    refine Ok_ife (Nat.lt_trans (lo_lt (C_t0.tk hT) _) (by decide)) (by decide) (fun q => absurd (hk0.symm.trans q) (by decide)) (fun _ => ?_)
    refine Ok_ife (Nat.lt_trans (lo_lt (C_t0.tk hT) _) (by decide)) (by decide) (fun q => absurd (hk0.symm.trans q) (by decide)) (fun _ => ?_)
    refine Ok_ife (Nat.lt_trans (lo_lt (C_t0.tk hT) _) (by decide)) (by decide) (fun q => absurd (hk0.symm.trans q) (by decide)) (fun _ => ?_)
    refine Ok_ife (Nat.lt_trans (lo_lt (C_t0.tk hT) _) (by decide)) (by decide) (fun q => absurd (hk0.symm.trans q) (by decide)) (fun _ => ?_)
    refine Ok_ife (Nat.lt_trans (lo_lt (C_t0.tk hT) _) (by decide)) (by decide) (fun q => absurd (hk0.symm.trans q) (by decide)) (fun _ => ?_)
    refine Ok_ife (Nat.lt_trans (lo_lt (C_t0.tk hT) _) (by decide)) (by decide) (fun q => ?_) (fun q => absurd hk0 q)
    refine Kp_child C_t4 I_n_t4.1 I_n_t4.2.1 I_n_t4.2.2.1 (by omega) (by omega) (by decide) (by decide) (fun t5 C_t5 X_t5 a_t5 b_t5 d_t5 w_t5 u_t5 v_t5 j_t5 l_t5 => ?_)
    have e_t5 := C_t5.2.2.2.1
    rw [a_t4] at a_t5
    rw [b_t4] at b_t5
    rw [d_t4] at d_t5
    rw [w_t4] at w_t5
    rw [u_t4] at u_t5
    rw [v_t4] at v_t5
    clear d_t4 w_t4 u_t4 v_t4 e_t4 a_t4
    have I_n_t5 := I_n_t4.chd X_t5 j_t5
    have f_n_t5 : Fz t5 n := j_t5.2.2.2.2.1
    have I_m_mdt4_t5 : Nq t5 (m_md t4) := Nq.chn j_t5 (by omega) I_n_t4 (by decide)
    have u_m_mdt4_t5 : Up t5 (m_md t4) := Or.inl j_t5.2.1
    have la_n_t5 : m_la t5 n = (m_md t4) + 1 := j_t5.2.2.2.2.2.1
    have wl_n_t5 : m_wh t5 (m_md t4) = 29 := j_t5.1
    have z_t6 : m_at t5 < m_ct t5 := lo_ne (Nat.ne_of_gt (show 0 < lo t5 (m_at t5) from by omega))
    refine Kp_at C_t5 (fun t6 C_t6 X_t6 a_t6 b_t6 d_t6 w_t6 u_t6 v_t6 j_t6 l_t6 => ?_)
    have e_t6 := C_t6.2.2.2.1
    rw [a_t5] at a_t6
    rw [b_t5] at b_t6
    rw [d_t5] at d_t6
    rw [w_t5] at w_t6
    rw [u_t5] at u_t6
    rw [v_t5] at v_t6
    rw [a_t5, e_t5] at z_t6
    clear d_t5 w_t5 u_t5 v_t5 e_t5 a_t5 b_t5
    have I_n_t6 := I_n_t5.flat X_t6
    have f_n_t6 := f_n_t5.ex I_n_t5 (X_t6 0)
    have I_m_mdt4_t6 := I_m_mdt4_t5.flat X_t6
    have u_m_mdt4_t6 := u_m_mdt4_t5.ex I_m_mdt4_t5 (X_t6 0)
    have la_n_t6 : m_la t6 n = (m_md t4) + 1 := by rw [j_t6.2.2.1]; exact la_n_t5
    have wl_n_t6 : m_wh t6 ((m_md t4)) = 29 := by rw [j_t6.1]; exact wl_n_t5
    clear la_n_t5 wl_n_t5
    refine Kp_push C_t6 (by omega) (fun t7 C_t7 X_t7 a_t7 b_t7 d_t7 w_t7 u_t7 v_t7 j_t7 l_t7 => ?_)
    have e_t7 := C_t7.2.2.2.1
    rw [a_t6] at a_t7
    rw [b_t6] at b_t7
    rw [d_t6] at d_t7
    rw [w_t6] at w_t7
    rw [u_t6] at u_t7
    rw [v_t6] at v_t7
    clear d_t6 w_t6 u_t6 v_t6 e_t6 a_t6 b_t6
    have I_n_t7 := I_n_t6.flat X_t7
    have f_n_t7 := f_n_t6.ex I_n_t6 (X_t7 0)
    have I_m_mdt4_t7 := I_m_mdt4_t6.flat X_t7
    have u_m_mdt4_t7 := u_m_mdt4_t6.ex I_m_mdt4_t6 (X_t7 0)
    have la_n_t7 : m_la t7 n = (m_md t4) + 1 := by rw [j_t7.2.2.1]; exact la_n_t6
    have wl_n_t7 : m_wh t7 ((m_md t4)) = 29 := by rw [j_t7.1]; exact wl_n_t6
    clear la_n_t6 wl_n_t6
    refine Ok_ret (show Ok _ _ _ from ?_)
    refine Ok_ret (show Ok _ _ _ from ?_)
    refine Hv_mk (Kv_c (x := (21, m_md t4, 0)) rfl (Kv_c (x := (6, n, 0)) rfl hK)) (C_t7.1.2.2.2.2.2.2 hTt) C_t7 hT (by omega) (by omega) (by omega) ?_ ?_ ?_ (by omega) ?_ ?_ ?_
    · exact ⟨(Io_n (by decide) (by decide) I_m_mdt4_t7.1 I_m_mdt4_t7.2.1 I_m_mdt4_t7.2.2.1 (fun q => absurd q (by decide)) (fun q => absurd q (by decide)) I_m_mdt4_t7.2.2.2), (Nd_0 (by decide) Mo_nil), ⟨(Io_6 (by decide)), (Nd_x (by decide)), Stk_step (N := n) (pop := (18, n, t)) (new := [(6, n, 0), (21, m_md t4, 0)]) F0 C_t7.1.to2 (fun (h : nk 18 = false) => absurd h (by decide)) (fun q _ h => h (18, n, t) rfl) (fun _ => rfl) (fun y hy hk => ⟨rfl, (Mo_cons (fun q => absurd (show nk 6 = true from q) (by decide)) (Mo_cons (fun q => show n ≤ m_md t4 from by omega) Mo_nil)) y hy hk⟩) (fun _ => Or.inl f_n_t7) (fun _ => (Or.inr (N5_mk f_n_t7 (Ab_some (y := (21, m_md t4, 0)) rfl (show n < m_md t4 from by omega)) la_n_t7 wl_n_t7 (Or.inl (by decide))))) (fun (h : 18 = 41 ∨ 18 = 42 ∨ 18 = 43) => absurd h (by decide)) r [] (fun y hy => absurd hy List.not_mem_nil) hS⟩⟩
    · exact (Aj_up (x := (21, m_md t4, 0)) (Aj_sub (y := (6, n, 0)) hJ (Nat.zero_le _)) (Or.inl (Nat.le_of_ble_eq_true rfl)))
    · show m_dp t7 = (dlt 21 + (dlt 6 + sD r))
      have : dlt 18 = 0 := rfl; have : dlt 21 = 0 := rfl; have : dlt 6 = 1 := rfl; omega
    · show m_rw t7 = (rho 21 + (rho 6 + sR r))
      have : rho 18 = 0 := rfl; have : rho 21 = 0 := rfl; have : rho 6 = 0 := rfl; omega
    · show m_md t7 + (mu7 21 + (mu7 6 + sM r)) ≤ 3 * m_at t7 + 7 * (r.length + 1 + 1) + 10
      have : mu7 18 = 5 := rfl; have : mu7 21 = 3 := rfl; have : mu7 6 = 7 := rfl; omega
    · show (wt 21 + (wt 6 + sW r)) + 6 * (4096 - m_at t7) + 4 * (600 - (r.length + 1 + 1)) < (wt 18 + sW r) + 6 * (4096 - m_at t0) + 4 * (600 - (r.length + 1))
      have : wt 18 = 0 := rfl; have : wt 21 = 2 := rfl; have : wt 6 = 5 := rfl; omega
  · have w_t3 := Nat.pos_of_ne_zero w_t3
    have I_n_t3 := I_n_t0.flat X_t3
    refine Kp_push C_t3 (by omega) (fun t8 C_t8 X_t8 a_t8 b_t8 d_t8 w_t8 u_t8 v_t8 j_t8 l_t8 => ?_)
    have e_t8 := C_t8.2.2.2.1
    have I_n_t8 := I_n_t3.flat X_t8
    refine Ok_ife (Nat.lt_trans (lo_lt (C_t0.tk hT) _) (by decide)) (by decide) (fun q => absurd (hk0.symm.trans q) (by decide)) (fun _ => ?_)
    refine Ok_ife (Nat.lt_trans (lo_lt (C_t0.tk hT) _) (by decide)) (by decide) (fun q => absurd (hk0.symm.trans q) (by decide)) (fun _ => ?_)
    refine Ok_ife (Nat.lt_trans (lo_lt (C_t0.tk hT) _) (by decide)) (by decide) (fun q => absurd (hk0.symm.trans q) (by decide)) (fun _ => ?_)
    refine Ok_ife (Nat.lt_trans (lo_lt (C_t0.tk hT) _) (by decide)) (by decide) (fun q => absurd (hk0.symm.trans q) (by decide)) (fun _ => ?_)
    refine Ok_ife (Nat.lt_trans (lo_lt (C_t0.tk hT) _) (by decide)) (by decide) (fun q => absurd (hk0.symm.trans q) (by decide)) (fun _ => ?_)
    refine Ok_ife (Nat.lt_trans (lo_lt (C_t0.tk hT) _) (by decide)) (by decide) (fun q => absurd (hk0.symm.trans q) (by decide)) (fun _ => ?_)
    refine Ok_ife (Nat.lt_trans (lo_lt (C_t0.tk hT) _) (by decide)) (by decide) (fun q => ?_) (fun q => absurd hk0 q)
    refine Kp_child C_t8 I_n_t8.1 I_n_t8.2.1 I_n_t8.2.2.1 (by omega) (by omega) (by decide) (by decide) (fun t9 C_t9 X_t9 a_t9 b_t9 d_t9 w_t9 u_t9 v_t9 j_t9 l_t9 => ?_)
    have e_t9 := C_t9.2.2.2.1
    have I_n_t9 := I_n_t8.chd X_t9 j_t9
    have f_n_t9 : Fz t9 n := j_t9.2.2.2.2.1
    have I_m_mdt8_t9 : Nq t9 (m_md t8) := Nq.chn j_t9 (by omega) I_n_t8 (by decide)
    have u_m_mdt8_t9 : Up t9 (m_md t8) := Or.inl j_t9.2.1
    have la_n_t9 : m_la t9 n = (m_md t8) + 1 := j_t9.2.2.2.2.2.1
    have wl_n_t9 : m_wh t9 (m_md t8) = 29 := j_t9.1
    refine Kp_at C_t9 (fun t10 C_t10 X_t10 a_t10 b_t10 d_t10 w_t10 u_t10 v_t10 j_t10 l_t10 => ?_)
    have e_t10 := C_t10.2.2.2.1
    have I_n_t10 := I_n_t9.flat X_t10
    have f_n_t10 := f_n_t9.ex I_n_t9 (X_t10 0)
    have I_m_mdt8_t10 := I_m_mdt8_t9.flat X_t10
    have u_m_mdt8_t10 := u_m_mdt8_t9.ex I_m_mdt8_t9 (X_t10 0)
    have la_n_t10 : m_la t10 n = (m_md t8) + 1 := by rw [j_t10.2.2.1]; exact la_n_t9
    have wl_n_t10 : m_wh t10 ((m_md t8)) = 29 := by rw [j_t10.1]; exact wl_n_t9
    clear la_n_t9 wl_n_t9
    refine Kp_push C_t10 (by omega) (fun t11 C_t11 X_t11 a_t11 b_t11 d_t11 w_t11 u_t11 v_t11 j_t11 l_t11 => ?_)
    have e_t11 := C_t11.2.2.2.1
    have I_n_t11 := I_n_t10.flat X_t11
    have f_n_t11 := f_n_t10.ex I_n_t10 (X_t11 0)
    have I_m_mdt8_t11 := I_m_mdt8_t10.flat X_t11
    have u_m_mdt8_t11 := u_m_mdt8_t10.ex I_m_mdt8_t10 (X_t11 0)
    have la_n_t11 : m_la t11 n = (m_md t8) + 1 := by rw [j_t11.2.2.1]; exact la_n_t10
    have wl_n_t11 : m_wh t11 ((m_md t8)) = 29 := by rw [j_t11.1]; exact wl_n_t10
    clear la_n_t10 wl_n_t10
    refine Ok_ret (show Ok _ _ _ from ?_)
    refine Ok_ret (show Ok _ _ _ from ?_)
    exact Or.inl ⟨Nat.ne_of_gt (show 0 < m_wr t11 from by omega), by omega, by omega, C_t11.2.2.2.2.2, by omega⟩

theorem S_18_t31 {t0 : Mm} {n t : Nat} {r : List It} (H : Hp t0 (18, n, t) r) {E : Mm → Prop} (hk0 : lo t0 (m_at t0) = 31) : Ok (Qh (mz t0 ((18, n, t) :: r))) E (b_X6_step 18 n t t0) := by
  obtain ⟨hK, hT, hc, hw0, ha, hC, hS, hJ, hdp, hdl, hrw, hmd, htd, hln, hm16, hI, hD, hTt⟩ := Hp_out H
  have C_t0 := hC n
  have F0 := C_t0.2.1
  have I_n_t0 : Nq t0 n := ⟨(hI.2.1 rfl).1, (hI.2.1 rfl).2.1, (hI.2.1 rfl).2.2, hI.2.2.2 rfl⟩
  have m_n_t0 := I_n_t0.1
  have ht : t < 4096 := hI.1.1 (show 18 ≠ 42 by decide) (show 18 ≠ 48 by decide)
  have hdp : m_dp t0 = dlt 18 + sD r := hdp
  have hrw : m_rw t0 = rho 18 + sR r := hrw
  have hmd : m_md t0 + mu7 18 + sM r ≤ 3 * m_at t0 + 7 * r.length + 17 := hmd
  have hand : t &&& 1 ≤ 1 := Nat.and_le_right
  have h01 : (0 &&& 1 : Nat) = 0 := rfl
  have h02 : (1 : Nat) * 256 = 256 := rfl
  have hq1 : dlt 18 = 0 := rfl
  have hq2 : rho 18 = 0 := rfl
  have hq3 : mu7 18 = 5 := rfl
  unfold b_X6_step
  refine Ok_ifl (by decide) (by decide) (fun _ => ?_) (fun q => absurd (by decide) q)
  refine Ok_ifl (by decide) (by decide) (fun q => absurd q (by decide)) (fun _ => ?_)
  refine Ok_ifl (by decide) (by decide) (fun _ => ?_) (fun q => absurd (by decide) q)
  refine Ok_bnc ?_
  try unfold b_X6_typing
  refine Ok_ck (by decide) ?_
  refine Ok_ife (by decide) (by decide) (fun _ => ?_) (fun q => absurd (by decide) q)
  refine Ok_bnc ?_
  try unfold b_X6_type
  refine Kp_look C_t0 hT (by omega) ?_
  refine Ok_ife (Nat.lt_trans (lo_lt (C_t0.tk hT) _) (by decide)) (by decide) (fun q => absurd (hk0.symm.trans q) (by decide)) (fun _ => ?_)
  refine Ok_ck (Nat.lt_trans (lo_lt (C_t0.tk hT) _) (by decide)) ?_
  refine Ok_ifz (f6_beginsType _) (fun q => absurd q (by rw [hk0]; decide)) (fun q => ?_)
  refine Kp_more C_t0 (by omega) (by omega) (fun t3 C_t3 X_t3 a_t3 b_t3 d_t3 w_t3 u_t3 v_t3 j_t3 l_t3 => ?_)
  have e_t3 := C_t3.2.2.2.1
  rcases w_t3 with ⟨w_t3, y_t3⟩ | ⟨w_t3, wb_t3⟩
  · rw [d_t3] at y_t3
    have I_n_t3 := I_n_t0.flat X_t3
    refine Kp_push C_t3 (by omega) (fun t4 C_t4 X_t4 a_t4 b_t4 d_t4 w_t4 u_t4 v_t4 j_t4 l_t4 => ?_)
    have e_t4 := C_t4.2.2.2.1
    rw [a_t3] at a_t4
    rw [b_t3] at b_t4
    rw [d_t3] at d_t4
    rw [w_t3] at w_t4
    rw [u_t3] at u_t4
    rw [v_t3] at v_t4
    clear d_t3 w_t3 u_t3 v_t3 e_t3 a_t3 b_t3
    have I_n_t4 := I_n_t3.flat X_t4
    refine Ok_ife (Nat.lt_trans (lo_lt (C_t0.tk hT) _) (by decide)) (by decide) (fun q => absurd (hk0.symm.trans q) (by decide)) (fun _ => ?_)
    refine Ok_ife (Nat.lt_trans (lo_lt (C_t0.tk hT) _) (by decide)) (by decide) (fun q => absurd (hk0.symm.trans q) (by decide)) (fun _ => ?_)
    refine Ok_ife (Nat.lt_trans (lo_lt (C_t0.tk hT) _) (by decide)) (by decide) (fun q => absurd (hk0.symm.trans q) (by decide)) (fun _ => ?_)
    refine Ok_ife (Nat.lt_trans (lo_lt (C_t0.tk hT) _) (by decide)) (by decide) (fun q => absurd (hk0.symm.trans q) (by decide)) (fun _ => ?_)
    refine Ok_ife (Nat.lt_trans (lo_lt (C_t0.tk hT) _) (by decide)) (by decide) (fun q => absurd (hk0.symm.trans q) (by decide)) (fun _ => ?_)
    refine Ok_ife (Nat.lt_trans (lo_lt (C_t0.tk hT) _) (by decide)) (by decide) (fun q => absurd (hk0.symm.trans q) (by decide)) (fun _ => ?_)
    refine Ok_ife (Nat.lt_trans (lo_lt (C_t0.tk hT) _) (by decide)) (by decide) (fun q => absurd (hk0.symm.trans q) (by decide)) (fun _ => ?_)
    refine Ok_ife (Nat.lt_trans (lo_lt (C_t0.tk hT) _) (by decide)) (by decide) (fun q => ?_) (fun q => absurd hk0 q)
    refine Kp_child C_t4 I_n_t4.1 I_n_t4.2.1 I_n_t4.2.2.1 (by omega) (by omega) (by decide) (by decide) (fun t5 C_t5 X_t5 a_t5 b_t5 d_t5 w_t5 u_t5 v_t5 j_t5 l_t5 => ?_)
    have e_t5 := C_t5.2.2.2.1
    rw [a_t4] at a_t5
    rw [b_t4] at b_t5
    rw [d_t4] at d_t5
    rw [w_t4] at w_t5
    rw [u_t4] at u_t5
    rw [v_t4] at v_t5
    clear d_t4 w_t4 u_t4 v_t4 e_t4 a_t4
    have I_n_t5 := I_n_t4.chd X_t5 j_t5
    have f_n_t5 : Fz t5 n := j_t5.2.2.2.2.1
    have I_m_mdt4_t5 : Nq t5 (m_md t4) := Nq.chn j_t5 (by omega) I_n_t4 (by decide)
    have u_m_mdt4_t5 : Up t5 (m_md t4) := Or.inl j_t5.2.1
    have la_n_t5 : m_la t5 n = (m_md t4) + 1 := j_t5.2.2.2.2.2.1
    have wl_n_t5 : m_wh t5 (m_md t4) = 27 := j_t5.1
    have z_t6 : m_at t5 < m_ct t5 := lo_ne (Nat.ne_of_gt (show 0 < lo t5 (m_at t5) from by omega))
    refine Kp_at C_t5 (fun t6 C_t6 X_t6 a_t6 b_t6 d_t6 w_t6 u_t6 v_t6 j_t6 l_t6 => ?_)
    have e_t6 := C_t6.2.2.2.1
    rw [a_t5] at a_t6
    rw [b_t5] at b_t6
    rw [d_t5] at d_t6
    rw [w_t5] at w_t6
    rw [u_t5] at u_t6
    rw [v_t5] at v_t6
    rw [a_t5, e_t5] at z_t6
    clear d_t5 w_t5 u_t5 v_t5 e_t5 a_t5 b_t5
    have I_n_t6 := I_n_t5.flat X_t6
    have f_n_t6 := f_n_t5.ex I_n_t5 (X_t6 0)
    have I_m_mdt4_t6 := I_m_mdt4_t5.flat X_t6
    have u_m_mdt4_t6 := u_m_mdt4_t5.ex I_m_mdt4_t5 (X_t6 0)
    have la_n_t6 : m_la t6 n = (m_md t4) + 1 := by rw [j_t6.2.2.1]; exact la_n_t5
    have wl_n_t6 : m_wh t6 ((m_md t4)) = 27 := by rw [j_t6.1]; exact wl_n_t5
    clear la_n_t5 wl_n_t5
    refine Kp_look C_t6 hT (by omega) ?_
    refine Ok_ife (Nat.lt_trans (lo_lt (C_t6.tk hT) _) (by decide)) (by decide) (fun q7 => ?_) (fun q7 => ?_)
    · refine Kp_more C_t6 (by omega) (by omega) (fun t8 C_t8 X_t8 a_t8 b_t8 d_t8 w_t8 u_t8 v_t8 j_t8 l_t8 => ?_)
      have e_t8 := C_t8.2.2.2.1
      rcases w_t8 with ⟨w_t8, y_t8⟩ | ⟨w_t8, wb_t8⟩
      · rw [a_t6] at a_t8
        rw [b_t6] at b_t8
        rw [d_t6] at d_t8
        rw [w_t6] at w_t8
        rw [u_t6] at u_t8
        rw [v_t6] at v_t8
        rw [d_t8] at y_t8
        clear d_t6 w_t6 u_t6 v_t6 e_t6 a_t6 b_t6
        have I_n_t8 := I_n_t6.flat X_t8
        have f_n_t8 := f_n_t6.ex I_n_t6 (X_t8 0)
        have I_m_mdt4_t8 := I_m_mdt4_t6.flat X_t8
        have u_m_mdt4_t8 := u_m_mdt4_t6.ex I_m_mdt4_t6 (X_t8 0)
        have la_n_t8 : m_la t8 n = (m_md t4) + 1 := by rw [j_t8.2.2.1]; exact la_n_t6
        have wl_n_t8 : m_wh t8 ((m_md t4)) = 27 := by rw [j_t8.1]; exact wl_n_t6
        clear la_n_t6 wl_n_t6
        refine Kp_pass C_t8 hT (by omega) (by decide) (by omega) (fun t9 C_t9 X_t9 a_t9 b_t9 d_t9 w_t9 u_t9 v_t9 j_t9 l_t9 => ?_)
        have e_t9 := C_t9.2.2.2.1
        rcases w_t9 with ⟨w_t9, y_t9⟩ | ⟨w_t9, wb_t9⟩
        · have z_t9 : m_at t8 < m_ct t8 := lo_ne (Nat.ne_of_gt (show 0 < lo t8 (m_at t8) from by omega))
          rw [a_t8] at a_t9
          rw [b_t8] at b_t9
          rw [d_t8] at d_t9
          rw [w_t8] at w_t9
          rw [u_t8] at u_t9
          rw [v_t8] at v_t9
          rw [a_t8, e_t8] at z_t9
          clear z_t6
          clear d_t8 w_t8 u_t8 v_t8 e_t8 a_t8 b_t8
          have I_n_t9 := I_n_t8.flat X_t9
          have f_n_t9 := f_n_t8.ex I_n_t8 (X_t9 0)
          have I_m_mdt4_t9 := I_m_mdt4_t8.flat X_t9
          have u_m_mdt4_t9 := u_m_mdt4_t8.ex I_m_mdt4_t8 (X_t9 0)
          have la_n_t9 : m_la t9 n = (m_md t4) + 1 := by rw [j_t9.2.2.1]; exact la_n_t8
          have wl_n_t9 : m_wh t9 ((m_md t4)) = 27 := by rw [j_t9.1]; exact wl_n_t8
          clear la_n_t8 wl_n_t8
          refine Ok_ife (Nat.lt_trans (lo_lt (C_t0.tk hT) _) (by decide)) (by decide) (fun q => ?_) (fun q => absurd hk0 q)
          refine Kp_push C_t9 (by omega) (fun t10 C_t10 X_t10 a_t10 b_t10 d_t10 w_t10 u_t10 v_t10 j_t10 l_t10 => ?_)
          have e_t10 := C_t10.2.2.2.1
          rw [a_t9] at a_t10
          rw [b_t9] at b_t10
          rw [d_t9] at d_t10
          rw [w_t9] at w_t10
          rw [u_t9] at u_t10
          rw [v_t9] at v_t10
          clear d_t9 w_t9 u_t9 v_t9 e_t9 a_t9 b_t9
          have I_n_t10 := I_n_t9.flat X_t10
          have f_n_t10 := f_n_t9.ex I_n_t9 (X_t10 0)
          have I_m_mdt4_t10 := I_m_mdt4_t9.flat X_t10
          have u_m_mdt4_t10 := u_m_mdt4_t9.ex I_m_mdt4_t9 (X_t10 0)
          have la_n_t10 : m_la t10 n = (m_md t4) + 1 := by rw [j_t10.2.2.1]; exact la_n_t9
          have wl_n_t10 : m_wh t10 ((m_md t4)) = 27 := by rw [j_t10.1]; exact wl_n_t9
          clear la_n_t9 wl_n_t9
          refine Ok_ret (show Ok _ _ _ from ?_)
          refine Ok_ret (show Ok _ _ _ from ?_)
          refine Hv_mk (Kv_c (x := (26, m_md t4, 0)) rfl (Kv_c (x := (6, n, 0)) rfl hK)) (C_t10.1.2.2.2.2.2.2 hTt) C_t10 hT (by omega) (by omega) (by omega) ?_ ?_ ?_ (by omega) ?_ ?_ ?_
          · exact ⟨(Io_n (by decide) (by decide) I_m_mdt4_t10.1 I_m_mdt4_t10.2.1 I_m_mdt4_t10.2.2.1 (fun q => absurd q (by decide)) (fun q => absurd q (by decide)) I_m_mdt4_t10.2.2.2), (Nd_0 (by decide) Mo_nil), ⟨(Io_6 (by decide)), (Nd_x (by decide)), Stk_step (N := n) (pop := (18, n, t)) (new := [(6, n, 0), (26, m_md t4, 0)]) F0 C_t10.1.to2 (fun (h : nk 18 = false) => absurd h (by decide)) (fun q _ h => h (18, n, t) rfl) (fun _ => rfl) (fun y hy hk => ⟨rfl, (Mo_cons (fun q => absurd (show nk 6 = true from q) (by decide)) (Mo_cons (fun q => show n ≤ m_md t4 from by omega) Mo_nil)) y hy hk⟩) (fun _ => Or.inl f_n_t10) (fun _ => (Or.inr (N5_mk f_n_t10 (Ab_some (y := (26, m_md t4, 0)) rfl (show n < m_md t4 from by omega)) la_n_t10 wl_n_t10 (Or.inl (by decide))))) (fun (h : 18 = 41 ∨ 18 = 42 ∨ 18 = 43) => absurd h (by decide)) r [] (fun y hy => absurd hy List.not_mem_nil) hS⟩⟩
          · exact (Aj_up (x := (26, m_md t4, 0)) (Aj_sub (y := (6, n, 0)) hJ (Nat.zero_le _)) (Or.inl (Nat.le_of_ble_eq_true rfl)))
          · show m_dp t10 = (dlt 26 + (dlt 6 + sD r))
            have : dlt 18 = 0 := rfl; have : dlt 26 = 1 := rfl; have : dlt 6 = 1 := rfl; omega
          · show m_rw t10 = (rho 26 + (rho 6 + sR r))
            have : rho 18 = 0 := rfl; have : rho 26 = 0 := rfl; have : rho 6 = 0 := rfl; omega
          · show m_md t10 + (mu7 26 + (mu7 6 + sM r)) ≤ 3 * m_at t10 + 7 * (r.length + 1 + 1) + 10
            have : mu7 18 = 5 := rfl; have : mu7 26 = 4 := rfl; have : mu7 6 = 7 := rfl; omega
          · show (wt 26 + (wt 6 + sW r)) + 6 * (4096 - m_at t10) + 4 * (600 - (r.length + 1 + 1)) < (wt 18 + sW r) + 6 * (4096 - m_at t0) + 4 * (600 - (r.length + 1))
            have : wt 18 = 0 := rfl; have : wt 26 = 0 := rfl; have : wt 6 = 5 := rfl; omega
        · have w_t9 := Nat.pos_of_ne_zero w_t9
          have I_n_t9 := I_n_t8.flat X_t9
          have f_n_t9 := f_n_t8.ex I_n_t8 (X_t9 0)
          have I_m_mdt4_t9 := I_m_mdt4_t8.flat X_t9
          have u_m_mdt4_t9 := u_m_mdt4_t8.ex I_m_mdt4_t8 (X_t9 0)
          have la_n_t9 : m_la t9 n = (m_md t4) + 1 := by rw [j_t9.2.2.1]; exact la_n_t8
          have wl_n_t9 : m_wh t9 ((m_md t4)) = 27 := by rw [j_t9.1]; exact wl_n_t8
          clear la_n_t8 wl_n_t8
          refine Ok_ife (Nat.lt_trans (lo_lt (C_t0.tk hT) _) (by decide)) (by decide) (fun q => ?_) (fun q => absurd hk0 q)
          refine Kp_push C_t9 (by omega) (fun t11 C_t11 X_t11 a_t11 b_t11 d_t11 w_t11 u_t11 v_t11 j_t11 l_t11 => ?_)
          have e_t11 := C_t11.2.2.2.1
          have I_n_t11 := I_n_t9.flat X_t11
          have f_n_t11 := f_n_t9.ex I_n_t9 (X_t11 0)
          have I_m_mdt4_t11 := I_m_mdt4_t9.flat X_t11
          have u_m_mdt4_t11 := u_m_mdt4_t9.ex I_m_mdt4_t9 (X_t11 0)
          have la_n_t11 : m_la t11 n = (m_md t4) + 1 := by rw [j_t11.2.2.1]; exact la_n_t9
          have wl_n_t11 : m_wh t11 ((m_md t4)) = 27 := by rw [j_t11.1]; exact wl_n_t9
          clear la_n_t9 wl_n_t9
          refine Ok_ret (show Ok _ _ _ from ?_)
          refine Ok_ret (show Ok _ _ _ from ?_)
          exact Or.inl ⟨Nat.ne_of_gt (show 0 < m_wr t11 from by omega), by omega, by omega, C_t11.2.2.2.2.2, by omega⟩
      · have w_t8 := Nat.pos_of_ne_zero w_t8
        have I_n_t8 := I_n_t6.flat X_t8
        have f_n_t8 := f_n_t6.ex I_n_t6 (X_t8 0)
        have I_m_mdt4_t8 := I_m_mdt4_t6.flat X_t8
        have u_m_mdt4_t8 := u_m_mdt4_t6.ex I_m_mdt4_t6 (X_t8 0)
        have la_n_t8 : m_la t8 n = (m_md t4) + 1 := by rw [j_t8.2.2.1]; exact la_n_t6
        have wl_n_t8 : m_wh t8 ((m_md t4)) = 27 := by rw [j_t8.1]; exact wl_n_t6
        clear la_n_t6 wl_n_t6
        refine Kp_pass C_t8 hT (by omega) (by decide) (by omega) (fun t12 C_t12 X_t12 a_t12 b_t12 d_t12 w_t12 u_t12 v_t12 j_t12 l_t12 => ?_)
        have e_t12 := C_t12.2.2.2.1
        have w_t12 : 0 < m_wr t12 ∧ m_wr t12 ≤ m_wr t8 + m_at t8 + 1 := by omega
        have I_n_t12 := I_n_t8.flat X_t12
        have f_n_t12 := f_n_t8.ex I_n_t8 (X_t12 0)
        have I_m_mdt4_t12 := I_m_mdt4_t8.flat X_t12
        have u_m_mdt4_t12 := u_m_mdt4_t8.ex I_m_mdt4_t8 (X_t12 0)
        have la_n_t12 : m_la t12 n = (m_md t4) + 1 := by rw [j_t12.2.2.1]; exact la_n_t8
        have wl_n_t12 : m_wh t12 ((m_md t4)) = 27 := by rw [j_t12.1]; exact wl_n_t8
        clear la_n_t8 wl_n_t8
        refine Ok_ife (Nat.lt_trans (lo_lt (C_t0.tk hT) _) (by decide)) (by decide) (fun q => ?_) (fun q => absurd hk0 q)
        refine Kp_push C_t12 (by omega) (fun t13 C_t13 X_t13 a_t13 b_t13 d_t13 w_t13 u_t13 v_t13 j_t13 l_t13 => ?_)
        have e_t13 := C_t13.2.2.2.1
        have I_n_t13 := I_n_t12.flat X_t13
        have f_n_t13 := f_n_t12.ex I_n_t12 (X_t13 0)
        have I_m_mdt4_t13 := I_m_mdt4_t12.flat X_t13
        have u_m_mdt4_t13 := u_m_mdt4_t12.ex I_m_mdt4_t12 (X_t13 0)
        have la_n_t13 : m_la t13 n = (m_md t4) + 1 := by rw [j_t13.2.2.1]; exact la_n_t12
        have wl_n_t13 : m_wh t13 ((m_md t4)) = 27 := by rw [j_t13.1]; exact wl_n_t12
        clear la_n_t12 wl_n_t12
        refine Ok_ret (show Ok _ _ _ from ?_)
        refine Ok_ret (show Ok _ _ _ from ?_)
        exact Or.inl ⟨Nat.ne_of_gt (show 0 < m_wr t13 from by omega), by omega, by omega, C_t13.2.2.2.2.2, by omega⟩
    · refine Kp_pass C_t6 hT (by omega) (by decide) (by omega) (fun t14 C_t14 X_t14 a_t14 b_t14 d_t14 w_t14 u_t14 v_t14 j_t14 l_t14 => ?_)
      have e_t14 := C_t14.2.2.2.1
      rcases w_t14 with ⟨w_t14, y_t14⟩ | ⟨w_t14, wb_t14⟩
      · have z_t14 : m_at t6 < m_ct t6 := lo_ne (Nat.ne_of_gt (show 0 < lo t6 (m_at t6) from by omega))
        rw [a_t6] at a_t14
        rw [b_t6] at b_t14
        rw [d_t6] at d_t14
        rw [w_t6] at w_t14
        rw [u_t6] at u_t14
        rw [v_t6] at v_t14
        rw [a_t6, e_t6] at z_t14
        clear z_t6
        clear d_t6 w_t6 u_t6 v_t6 e_t6 a_t6 b_t6
        have I_n_t14 := I_n_t6.flat X_t14
        have f_n_t14 := f_n_t6.ex I_n_t6 (X_t14 0)
        have I_m_mdt4_t14 := I_m_mdt4_t6.flat X_t14
        have u_m_mdt4_t14 := u_m_mdt4_t6.ex I_m_mdt4_t6 (X_t14 0)
        have la_n_t14 : m_la t14 n = (m_md t4) + 1 := by rw [j_t14.2.2.1]; exact la_n_t6
        have wl_n_t14 : m_wh t14 ((m_md t4)) = 27 := by rw [j_t14.1]; exact wl_n_t6
        clear la_n_t6 wl_n_t6
        refine Ok_ife (Nat.lt_trans (lo_lt (C_t0.tk hT) _) (by decide)) (by decide) (fun q => ?_) (fun q => absurd hk0 q)
        refine Kp_push C_t14 (by omega) (fun t15 C_t15 X_t15 a_t15 b_t15 d_t15 w_t15 u_t15 v_t15 j_t15 l_t15 => ?_)
        have e_t15 := C_t15.2.2.2.1
        rw [a_t14] at a_t15
        rw [b_t14] at b_t15
        rw [d_t14] at d_t15
        rw [w_t14] at w_t15
        rw [u_t14] at u_t15
        rw [v_t14] at v_t15
        clear d_t14 w_t14 u_t14 v_t14 e_t14 a_t14 b_t14
        have I_n_t15 := I_n_t14.flat X_t15
        have f_n_t15 := f_n_t14.ex I_n_t14 (X_t15 0)
        have I_m_mdt4_t15 := I_m_mdt4_t14.flat X_t15
        have u_m_mdt4_t15 := u_m_mdt4_t14.ex I_m_mdt4_t14 (X_t15 0)
        have la_n_t15 : m_la t15 n = (m_md t4) + 1 := by rw [j_t15.2.2.1]; exact la_n_t14
        have wl_n_t15 : m_wh t15 ((m_md t4)) = 27 := by rw [j_t15.1]; exact wl_n_t14
        clear la_n_t14 wl_n_t14
        refine Ok_ret (show Ok _ _ _ from ?_)
        refine Ok_ret (show Ok _ _ _ from ?_)
        refine Hv_mk (Kv_c (x := (26, m_md t4, 0)) rfl (Kv_c (x := (6, n, 0)) rfl hK)) (C_t15.1.2.2.2.2.2.2 hTt) C_t15 hT (by omega) (by omega) (by omega) ?_ ?_ ?_ (by omega) ?_ ?_ ?_
        · exact ⟨(Io_n (by decide) (by decide) I_m_mdt4_t15.1 I_m_mdt4_t15.2.1 I_m_mdt4_t15.2.2.1 (fun q => absurd q (by decide)) (fun q => absurd q (by decide)) I_m_mdt4_t15.2.2.2), (Nd_0 (by decide) Mo_nil), ⟨(Io_6 (by decide)), (Nd_x (by decide)), Stk_step (N := n) (pop := (18, n, t)) (new := [(6, n, 0), (26, m_md t4, 0)]) F0 C_t15.1.to2 (fun (h : nk 18 = false) => absurd h (by decide)) (fun q _ h => h (18, n, t) rfl) (fun _ => rfl) (fun y hy hk => ⟨rfl, (Mo_cons (fun q => absurd (show nk 6 = true from q) (by decide)) (Mo_cons (fun q => show n ≤ m_md t4 from by omega) Mo_nil)) y hy hk⟩) (fun _ => Or.inl f_n_t15) (fun _ => (Or.inr (N5_mk f_n_t15 (Ab_some (y := (26, m_md t4, 0)) rfl (show n < m_md t4 from by omega)) la_n_t15 wl_n_t15 (Or.inl (by decide))))) (fun (h : 18 = 41 ∨ 18 = 42 ∨ 18 = 43) => absurd h (by decide)) r [] (fun y hy => absurd hy List.not_mem_nil) hS⟩⟩
        · exact (Aj_up (x := (26, m_md t4, 0)) (Aj_sub (y := (6, n, 0)) hJ (Nat.zero_le _)) (Or.inl (Nat.le_of_ble_eq_true rfl)))
        · show m_dp t15 = (dlt 26 + (dlt 6 + sD r))
          have : dlt 18 = 0 := rfl; have : dlt 26 = 1 := rfl; have : dlt 6 = 1 := rfl; omega
        · show m_rw t15 = (rho 26 + (rho 6 + sR r))
          have : rho 18 = 0 := rfl; have : rho 26 = 0 := rfl; have : rho 6 = 0 := rfl; omega
        · show m_md t15 + (mu7 26 + (mu7 6 + sM r)) ≤ 3 * m_at t15 + 7 * (r.length + 1 + 1) + 10
          have : mu7 18 = 5 := rfl; have : mu7 26 = 4 := rfl; have : mu7 6 = 7 := rfl; omega
        · show (wt 26 + (wt 6 + sW r)) + 6 * (4096 - m_at t15) + 4 * (600 - (r.length + 1 + 1)) < (wt 18 + sW r) + 6 * (4096 - m_at t0) + 4 * (600 - (r.length + 1))
          have : wt 18 = 0 := rfl; have : wt 26 = 0 := rfl; have : wt 6 = 5 := rfl; omega
      · have w_t14 := Nat.pos_of_ne_zero w_t14
        have I_n_t14 := I_n_t6.flat X_t14
        have f_n_t14 := f_n_t6.ex I_n_t6 (X_t14 0)
        have I_m_mdt4_t14 := I_m_mdt4_t6.flat X_t14
        have u_m_mdt4_t14 := u_m_mdt4_t6.ex I_m_mdt4_t6 (X_t14 0)
        have la_n_t14 : m_la t14 n = (m_md t4) + 1 := by rw [j_t14.2.2.1]; exact la_n_t6
        have wl_n_t14 : m_wh t14 ((m_md t4)) = 27 := by rw [j_t14.1]; exact wl_n_t6
        clear la_n_t6 wl_n_t6
        refine Ok_ife (Nat.lt_trans (lo_lt (C_t0.tk hT) _) (by decide)) (by decide) (fun q => ?_) (fun q => absurd hk0 q)
        refine Kp_push C_t14 (by omega) (fun t16 C_t16 X_t16 a_t16 b_t16 d_t16 w_t16 u_t16 v_t16 j_t16 l_t16 => ?_)
        have e_t16 := C_t16.2.2.2.1
        have I_n_t16 := I_n_t14.flat X_t16
        have f_n_t16 := f_n_t14.ex I_n_t14 (X_t16 0)
        have I_m_mdt4_t16 := I_m_mdt4_t14.flat X_t16
        have u_m_mdt4_t16 := u_m_mdt4_t14.ex I_m_mdt4_t14 (X_t16 0)
        have la_n_t16 : m_la t16 n = (m_md t4) + 1 := by rw [j_t16.2.2.1]; exact la_n_t14
        have wl_n_t16 : m_wh t16 ((m_md t4)) = 27 := by rw [j_t16.1]; exact wl_n_t14
        clear la_n_t14 wl_n_t14
        refine Ok_ret (show Ok _ _ _ from ?_)
        refine Ok_ret (show Ok _ _ _ from ?_)
        exact Or.inl ⟨Nat.ne_of_gt (show 0 < m_wr t16 from by omega), by omega, by omega, C_t16.2.2.2.2.2, by omega⟩
  · have w_t3 := Nat.pos_of_ne_zero w_t3
    have I_n_t3 := I_n_t0.flat X_t3
    refine Kp_push C_t3 (by omega) (fun t17 C_t17 X_t17 a_t17 b_t17 d_t17 w_t17 u_t17 v_t17 j_t17 l_t17 => ?_)
    have e_t17 := C_t17.2.2.2.1
    have I_n_t17 := I_n_t3.flat X_t17
    refine Ok_ife (Nat.lt_trans (lo_lt (C_t0.tk hT) _) (by decide)) (by decide) (fun q => absurd (hk0.symm.trans q) (by decide)) (fun _ => ?_)
    refine Ok_ife (Nat.lt_trans (lo_lt (C_t0.tk hT) _) (by decide)) (by decide) (fun q => absurd (hk0.symm.trans q) (by decide)) (fun _ => ?_)
    refine Ok_ife (Nat.lt_trans (lo_lt (C_t0.tk hT) _) (by decide)) (by decide) (fun q => absurd (hk0.symm.trans q) (by decide)) (fun _ => ?_)
    refine Ok_ife (Nat.lt_trans (lo_lt (C_t0.tk hT) _) (by decide)) (by decide) (fun q => absurd (hk0.symm.trans q) (by decide)) (fun _ => ?_)
    refine Ok_ife (Nat.lt_trans (lo_lt (C_t0.tk hT) _) (by decide)) (by decide) (fun q => absurd (hk0.symm.trans q) (by decide)) (fun _ => ?_)
    refine Ok_ife (Nat.lt_trans (lo_lt (C_t0.tk hT) _) (by decide)) (by decide) (fun q => absurd (hk0.symm.trans q) (by decide)) (fun _ => ?_)
    refine Ok_ife (Nat.lt_trans (lo_lt (C_t0.tk hT) _) (by decide)) (by decide) (fun q => absurd (hk0.symm.trans q) (by decide)) (fun _ => ?_)
    refine Ok_ife (Nat.lt_trans (lo_lt (C_t0.tk hT) _) (by decide)) (by decide) (fun q => ?_) (fun q => absurd hk0 q)
    refine Kp_child C_t17 I_n_t17.1 I_n_t17.2.1 I_n_t17.2.2.1 (by omega) (by omega) (by decide) (by decide) (fun t18 C_t18 X_t18 a_t18 b_t18 d_t18 w_t18 u_t18 v_t18 j_t18 l_t18 => ?_)
    have e_t18 := C_t18.2.2.2.1
    have I_n_t18 := I_n_t17.chd X_t18 j_t18
    have f_n_t18 : Fz t18 n := j_t18.2.2.2.2.1
    have I_m_mdt17_t18 : Nq t18 (m_md t17) := Nq.chn j_t18 (by omega) I_n_t17 (by decide)
    have u_m_mdt17_t18 : Up t18 (m_md t17) := Or.inl j_t18.2.1
    have la_n_t18 : m_la t18 n = (m_md t17) + 1 := j_t18.2.2.2.2.2.1
    have wl_n_t18 : m_wh t18 (m_md t17) = 27 := j_t18.1
    refine Kp_at C_t18 (fun t19 C_t19 X_t19 a_t19 b_t19 d_t19 w_t19 u_t19 v_t19 j_t19 l_t19 => ?_)
    have e_t19 := C_t19.2.2.2.1
    have I_n_t19 := I_n_t18.flat X_t19
    have f_n_t19 := f_n_t18.ex I_n_t18 (X_t19 0)
    have I_m_mdt17_t19 := I_m_mdt17_t18.flat X_t19
    have u_m_mdt17_t19 := u_m_mdt17_t18.ex I_m_mdt17_t18 (X_t19 0)
    have la_n_t19 : m_la t19 n = (m_md t17) + 1 := by rw [j_t19.2.2.1]; exact la_n_t18
    have wl_n_t19 : m_wh t19 ((m_md t17)) = 27 := by rw [j_t19.1]; exact wl_n_t18
    clear la_n_t18 wl_n_t18
    refine Kp_look C_t19 hT (by omega) ?_
    refine Ok_ife (Nat.lt_trans (lo_lt (C_t19.tk hT) _) (by decide)) (by decide) (fun q20 => ?_) (fun q20 => ?_)
    · refine Kp_more C_t19 (by omega) (by omega) (fun t21 C_t21 X_t21 a_t21 b_t21 d_t21 w_t21 u_t21 v_t21 j_t21 l_t21 => ?_)
      have e_t21 := C_t21.2.2.2.1
      have w_t21 : 0 < m_wr t21 ∧ m_wr t21 ≤ m_wr t19 + m_at t19 + 1 := by omega
      have I_n_t21 := I_n_t19.flat X_t21
      have f_n_t21 := f_n_t19.ex I_n_t19 (X_t21 0)
      have I_m_mdt17_t21 := I_m_mdt17_t19.flat X_t21
      have u_m_mdt17_t21 := u_m_mdt17_t19.ex I_m_mdt17_t19 (X_t21 0)
      have la_n_t21 : m_la t21 n = (m_md t17) + 1 := by rw [j_t21.2.2.1]; exact la_n_t19
      have wl_n_t21 : m_wh t21 ((m_md t17)) = 27 := by rw [j_t21.1]; exact wl_n_t19
      clear la_n_t19 wl_n_t19
      refine Kp_pass C_t21 hT (by omega) (by decide) (by omega) (fun t22 C_t22 X_t22 a_t22 b_t22 d_t22 w_t22 u_t22 v_t22 j_t22 l_t22 => ?_)
      have e_t22 := C_t22.2.2.2.1
      have w_t22 : 0 < m_wr t22 ∧ m_wr t22 ≤ m_wr t21 + m_at t21 + 1 := by omega
      have I_n_t22 := I_n_t21.flat X_t22
      have f_n_t22 := f_n_t21.ex I_n_t21 (X_t22 0)
      have I_m_mdt17_t22 := I_m_mdt17_t21.flat X_t22
      have u_m_mdt17_t22 := u_m_mdt17_t21.ex I_m_mdt17_t21 (X_t22 0)
      have la_n_t22 : m_la t22 n = (m_md t17) + 1 := by rw [j_t22.2.2.1]; exact la_n_t21
      have wl_n_t22 : m_wh t22 ((m_md t17)) = 27 := by rw [j_t22.1]; exact wl_n_t21
      clear la_n_t21 wl_n_t21
      refine Ok_ife (Nat.lt_trans (lo_lt (C_t0.tk hT) _) (by decide)) (by decide) (fun q => ?_) (fun q => absurd hk0 q)
      refine Kp_push C_t22 (by omega) (fun t23 C_t23 X_t23 a_t23 b_t23 d_t23 w_t23 u_t23 v_t23 j_t23 l_t23 => ?_)
      have e_t23 := C_t23.2.2.2.1
      have I_n_t23 := I_n_t22.flat X_t23
      have f_n_t23 := f_n_t22.ex I_n_t22 (X_t23 0)
      have I_m_mdt17_t23 := I_m_mdt17_t22.flat X_t23
      have u_m_mdt17_t23 := u_m_mdt17_t22.ex I_m_mdt17_t22 (X_t23 0)
      have la_n_t23 : m_la t23 n = (m_md t17) + 1 := by rw [j_t23.2.2.1]; exact la_n_t22
      have wl_n_t23 : m_wh t23 ((m_md t17)) = 27 := by rw [j_t23.1]; exact wl_n_t22
      clear la_n_t22 wl_n_t22
      refine Ok_ret (show Ok _ _ _ from ?_)
      refine Ok_ret (show Ok _ _ _ from ?_)
      exact Or.inl ⟨Nat.ne_of_gt (show 0 < m_wr t23 from by omega), by omega, by omega, C_t23.2.2.2.2.2, by omega⟩
    · refine Kp_pass C_t19 hT (by omega) (by decide) (by omega) (fun t24 C_t24 X_t24 a_t24 b_t24 d_t24 w_t24 u_t24 v_t24 j_t24 l_t24 => ?_)
      have e_t24 := C_t24.2.2.2.1
      have w_t24 : 0 < m_wr t24 ∧ m_wr t24 ≤ m_wr t19 + m_at t19 + 1 := by omega
      have I_n_t24 := I_n_t19.flat X_t24
      have f_n_t24 := f_n_t19.ex I_n_t19 (X_t24 0)
      have I_m_mdt17_t24 := I_m_mdt17_t19.flat X_t24
      have u_m_mdt17_t24 := u_m_mdt17_t19.ex I_m_mdt17_t19 (X_t24 0)
      have la_n_t24 : m_la t24 n = (m_md t17) + 1 := by rw [j_t24.2.2.1]; exact la_n_t19
      have wl_n_t24 : m_wh t24 ((m_md t17)) = 27 := by rw [j_t24.1]; exact wl_n_t19
      clear la_n_t19 wl_n_t19
      refine Ok_ife (Nat.lt_trans (lo_lt (C_t0.tk hT) _) (by decide)) (by decide) (fun q => ?_) (fun q => absurd hk0 q)
      refine Kp_push C_t24 (by omega) (fun t25 C_t25 X_t25 a_t25 b_t25 d_t25 w_t25 u_t25 v_t25 j_t25 l_t25 => ?_)
      have e_t25 := C_t25.2.2.2.1
      have I_n_t25 := I_n_t24.flat X_t25
      have f_n_t25 := f_n_t24.ex I_n_t24 (X_t25 0)
      have I_m_mdt17_t25 := I_m_mdt17_t24.flat X_t25
      have u_m_mdt17_t25 := u_m_mdt17_t24.ex I_m_mdt17_t24 (X_t25 0)
      have la_n_t25 : m_la t25 n = (m_md t17) + 1 := by rw [j_t25.2.2.1]; exact la_n_t24
      have wl_n_t25 : m_wh t25 ((m_md t17)) = 27 := by rw [j_t25.1]; exact wl_n_t24
      clear la_n_t24 wl_n_t24
      refine Ok_ret (show Ok _ _ _ from ?_)
      refine Ok_ret (show Ok _ _ _ from ?_)
      exact Or.inl ⟨Nat.ne_of_gt (show 0 < m_wr t25 from by omega), by omega, by omega, C_t25.2.2.2.2.2, by omega⟩

