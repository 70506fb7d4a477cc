/-! The steps of the reference, one by one. -/
theorem S_18_t26 {t0 : Mm} {n t : Nat} {r : List It} (H : Hp t0 (18, n, t) r) {E : Mm → Prop} (hk0 : lo t0 (m_at t0) = 26) : Ok (Qh (mz t0 ((18, n, t) :: r))) E (b_X6_step 18 n t t0) := by
  obtain ⟨hK, hT, hc, hw0, ha, hC, hS, hJ, hdp, hdl, hrw, hmd, htd, hln, hm16, hI, hD, hTt⟩ := Hp_out H
  have C_t0 := hC n
  have F0 := C_t0.2.1
  have I_n_t0 : Nq t0 n := ⟨(hI.2.1 rfl).1, (hI.2.1 rfl).2.1, (hI.2.1 rfl).2.2, hI.2.2.2 rfl⟩
  have m_n_t0 := I_n_t0.1
  have ht : t < 4096 := hI.1.1 (show 18 ≠ 42 by decide) (show 18 ≠ 48 by decide)
  have hdp : m_dp t0 = dlt 18 + sD r := hdp
  have hrw : m_rw t0 = rho 18 + sR r := hrw
  have hmd : m_md t0 + mu7 18 + sM r ≤ 3 * m_at t0 + 7 * r.length + 17 := hmd
  have hand : t &&& 1 ≤ 1 := Nat.and_le_right
  have h01 : (0 &&& 1 : Nat) = 0 := rfl
  have h02 : (1 : Nat) * 256 = 256 := rfl
  have hq1 : dlt 18 = 0 := rfl
  have hq2 : rho 18 = 0 := rfl
  have hq3 : mu7 18 = 5 := rfl
  unfold b_X6_step
  refine Ok_ifl (by decide) (by decide) (fun _ => ?_) (fun q => absurd (by decide) q)
  refine Ok_ifl (by decide) (by decide) (fun q => absurd q (by decide)) (fun _ => ?_)
  refine Ok_ifl (by decide) (by decide) (fun _ => ?_) (fun q => absurd (by decide) q)
  refine Ok_bnc ?_
  try unfold b_X6_typing
  refine Ok_ck (by decide) ?_
  refine Ok_ife (by decide) (by decide) (fun _ => ?_) (fun q => absurd (by decide) q)
  refine Ok_bnc ?_
  try unfold b_X6_type
  refine Kp_look C_t0 hT (by omega) ?_
  refine Ok_ife (Nat.lt_trans (lo_lt (C_t0.tk hT) _) (by decide)) (by decide) (fun q => absurd (hk0.symm.trans q) (by decide)) (fun _ => ?_)
  refine Ok_ck (Nat.lt_trans (lo_lt (C_t0.tk hT) _) (by decide)) ?_
  refine Ok_ifz (f6_beginsType _) (fun q => absurd q (by rw [hk0]; decide)) (fun q => ?_)
  refine Kp_more C_t0 (by omega) (by omega) (fun t3 C_t3 X_t3 a_t3 b_t3 d_t3 w_t3 u_t3 v_t3 j_t3 l_t3 => ?_)
  have e_t3 := C_t3.2.2.2.1
  rcases w_t3 with ⟨w_t3, y_t3⟩ | ⟨w_t3, wb_t3⟩
  · rw [d_t3] at y_t3
    have I_n_t3 := I_n_t0.flat X_t3
    refine Kp_push C_t3 (by omega) (fun t4 C_t4 X_t4 a_t4 b_t4 d_t4 w_t4 u_t4 v_t4 j_t4 l_t4 => ?_)
    have e_t4 := C_t4.2.2.2.1
    rw [a_t3] at a_t4
    rw [b_t3] at b_t4
    rw [d_t3] at d_t4
    rw [w_t3] at w_t4
    rw [u_t3] at u_t4
    rw [v_t3] at v_t4
    clear d_t3 w_t3 u_t3 v_t3 e_t3 a_t3 b_t3
    have I_n_t4 := I_n_t3.flat X_t4
    refine Ok_ife (Nat.lt_trans (lo_lt (C_t0.tk hT) _) (by decide)) (by decide) (fun q => absurd (hk0.symm.trans q) (by decide)) (fun _ => ?_)
    refine Ok_ife (Nat.lt_trans (lo_lt (C_t0.tk hT) _) (by decide)) (by decide) (fun q => absurd (hk0.symm.trans q) (by decide)) (fun _ => ?_)
    refine Ok_ife (Nat.lt_trans (lo_lt (C_t0.tk hT) _) (by decide)) (by decide) (fun q => ?_) (fun q => absurd hk0 q)
    refine Kp_child C_t4 I_n_t4.1 I_n_t4.2.1 I_n_t4.2.2.1 (by omega) (by omega) (by decide) (by decide) (fun t5 C_t5 X_t5 a_t5 b_t5 d_t5 w_t5 u_t5 v_t5 j_t5 l_t5 => ?_)
    have e_t5 := C_t5.2.2.2.1
    rw [a_t4] at a_t5
    rw [b_t4] at b_t5
    rw [d_t4] at d_t5
    rw [w_t4] at w_t5
    rw [u_t4] at u_t5
    rw [v_t4] at v_t5
    clear d_t4 w_t4 u_t4 v_t4 e_t4 a_t4
    have I_n_t5 := I_n_t4.chd X_t5 j_t5
    have f_n_t5 : Fz t5 n := j_t5.2.2.2.2.1
    have I_m_mdt4_t5 : Nq t5 (m_md t4) := Nq.chn j_t5 (by omega) I_n_t4 (by decide)
    have u_m_mdt4_t5 : Up t5 (m_md t4) := Or.inl j_t5.2.1
    have la_n_t5 : m_la t5 n = (m_md t4) + 1 := j_t5.2.2.2.2.2.1
    have wl_n_t5 : m_wh t5 (m_md t4) = 22 := j_t5.1
    have z_t6 : m_at t5 < m_ct t5 := lo_ne (Nat.ne_of_gt (show 0 < lo t5 (m_at t5) from by omega))
    refine Kp_at C_t5 (fun t6 C_t6 X_t6 a_t6 b_t6 d_t6 w_t6 u_t6 v_t6 j_t6 l_t6 => ?_)
    have e_t6 := C_t6.2.2.2.1
    rw [a_t5] at a_t6
    rw [b_t5] at b_t6
    rw [d_t5] at d_t6
    rw [w_t5] at w_t6
    rw [u_t5] at u_t6
    rw [v_t5] at v_t6
    rw [a_t5, e_t5] at z_t6
    clear d_t5 w_t5 u_t5 v_t5 e_t5 a_t5 b_t5
    have I_n_t6 := I_n_t5.flat X_t6
    have f_n_t6 := f_n_t5.ex I_n_t5 (X_t6 0)
    have I_m_mdt4_t6 := I_m_mdt4_t5.flat X_t6
    have u_m_mdt4_t6 := u_m_mdt4_t5.ex I_m_mdt4_t5 (X_t6 0)
    have la_n_t6 : m_la t6 n = (m_md t4) + 1 := by rw [j_t6.2.2.1]; exact la_n_t5
    have wl_n_t6 : m_wh t6 ((m_md t4)) = 22 := by rw [j_t6.1]; exact wl_n_t5
    clear la_n_t5 wl_n_t5
    refine Kp_look C_t6 hT (by omega) ?_
    refine Ok_ife (Nat.lt_trans (lo_lt (C_t6.tk hT) _) (by decide)) (by decide) (fun q7 => ?_) (fun q7 => ?_)
    · refine Kp_more C_t6 (by omega) (by omega) (fun t8 C_t8 X_t8 a_t8 b_t8 d_t8 w_t8 u_t8 v_t8 j_t8 l_t8 => ?_)
      have e_t8 := C_t8.2.2.2.1
      rcases w_t8 with ⟨w_t8, y_t8⟩ | ⟨w_t8, wb_t8⟩
      · rw [a_t6] at a_t8
        rw [b_t6] at b_t8
        rw [d_t6] at d_t8
        rw [w_t6] at w_t8
        rw [u_t6] at u_t8
        rw [v_t6] at v_t8
        rw [d_t8] at y_t8
        clear d_t6 w_t6 u_t6 v_t6 e_t6 a_t6 b_t6
        have I_n_t8 := I_n_t6.flat X_t8
        have f_n_t8 := f_n_t6.ex I_n_t6 (X_t8 0)
        have I_m_mdt4_t8 := I_m_mdt4_t6.flat X_t8
        have u_m_mdt4_t8 := u_m_mdt4_t6.ex I_m_mdt4_t6 (X_t8 0)
        have la_n_t8 : m_la t8 n = (m_md t4) + 1 := by rw [j_t8.2.2.1]; exact la_n_t6
        have wl_n_t8 : m_wh t8 ((m_md t4)) = 22 := by rw [j_t8.1]; exact wl_n_t6
        clear la_n_t6 wl_n_t6
        refine Kp_pass C_t8 hT (by omega) (by decide) (by omega) (fun t9 C_t9 X_t9 a_t9 b_t9 d_t9 w_t9 u_t9 v_t9 j_t9 l_t9 => ?_)
        have e_t9 := C_t9.2.2.2.1
        rcases w_t9 with ⟨w_t9, y_t9⟩ | ⟨w_t9, wb_t9⟩
        · have z_t9 : m_at t8 < m_ct t8 := lo_ne (Nat.ne_of_gt (show 0 < lo t8 (m_at t8) from by omega))
          rw [a_t8] at a_t9
          rw [b_t8] at b_t9
          rw [d_t8] at d_t9
          rw [w_t8] at w_t9
          rw [u_t8] at u_t9
          rw [v_t8] at v_t9
          rw [a_t8, e_t8] at z_t9
          clear z_t6
          clear d_t8 w_t8 u_t8 v_t8 e_t8 a_t8 b_t8
          have I_n_t9 := I_n_t8.flat X_t9
          have f_n_t9 := f_n_t8.ex I_n_t8 (X_t9 0)
          have I_m_mdt4_t9 := I_m_mdt4_t8.flat X_t9
          have u_m_mdt4_t9 := u_m_mdt4_t8.ex I_m_mdt4_t8 (X_t9 0)
          have la_n_t9 : m_la t9 n = (m_md t4) + 1 := by rw [j_t9.2.2.1]; exact la_n_t8
          have wl_n_t9 : m_wh t9 ((m_md t4)) = 22 := by rw [j_t9.1]; exact wl_n_t8
          clear la_n_t8 wl_n_t8
          refine Kp_push C_t9 (by omega) (fun t10 C_t10 X_t10 a_t10 b_t10 d_t10 w_t10 u_t10 v_t10 j_t10 l_t10 => ?_)
          have e_t10 := C_t10.2.2.2.1
          rw [a_t9] at a_t10
          rw [b_t9] at b_t10
          rw [d_t9] at d_t10
          rw [w_t9] at w_t10
          rw [u_t9] at u_t10
          rw [v_t9] at v_t10
          clear d_t9 w_t9 u_t9 v_t9 e_t9 a_t9 b_t9
          have I_n_t10 := I_n_t9.flat X_t10
          have f_n_t10 := f_n_t9.ex I_n_t9 (X_t10 0)
          have I_m_mdt4_t10 := I_m_mdt4_t9.flat X_t10
          have u_m_mdt4_t10 := u_m_mdt4_t9.ex I_m_mdt4_t9 (X_t10 0)
          have la_n_t10 : m_la t10 n = (m_md t4) + 1 := by rw [j_t10.2.2.1]; exact la_n_t9
          have wl_n_t10 : m_wh t10 ((m_md t4)) = 22 := by rw [j_t10.1]; exact wl_n_t9
          clear la_n_t9 wl_n_t9
          refine Kp_push C_t10 (by omega) (fun t11 C_t11 X_t11 a_t11 b_t11 d_t11 w_t11 u_t11 v_t11 j_t11 l_t11 => ?_)
          have e_t11 := C_t11.2.2.2.1
          rw [a_t10] at a_t11
          rw [b_t10] at b_t11
          rw [d_t10] at d_t11
          rw [w_t10] at w_t11
          rw [u_t10] at u_t11
          rw [v_t10] at v_t11
          clear d_t10 w_t10 u_t10 v_t10 e_t10 a_t10 b_t10
          have I_n_t11 := I_n_t10.flat X_t11
          have f_n_t11 := f_n_t10.ex I_n_t10 (X_t11 0)
          have I_m_mdt4_t11 := I_m_mdt4_t10.flat X_t11
          have u_m_mdt4_t11 := u_m_mdt4_t10.ex I_m_mdt4_t10 (X_t11 0)
          have la_n_t11 : m_la t11 n = (m_md t4) + 1 := by rw [j_t11.2.2.1]; exact la_n_t10
          have wl_n_t11 : m_wh t11 ((m_md t4)) = 22 := by rw [j_t11.1]; exact wl_n_t10
          clear la_n_t10 wl_n_t10
          refine Kp_push C_t11 (by omega) (fun t12 C_t12 X_t12 a_t12 b_t12 d_t12 w_t12 u_t12 v_t12 j_t12 l_t12 => ?_)
          have e_t12 := C_t12.2.2.2.1
          rw [a_t11] at a_t12
          rw [b_t11] at b_t12
          rw [d_t11] at d_t12
          rw [w_t11] at w_t12
          rw [u_t11] at u_t12
          rw [v_t11] at v_t12
          clear d_t11 w_t11 u_t11 v_t11 e_t11 a_t11 b_t11
          have I_n_t12 := I_n_t11.flat X_t12
          have f_n_t12 := f_n_t11.ex I_n_t11 (X_t12 0)
          have I_m_mdt4_t12 := I_m_mdt4_t11.flat X_t12
          have u_m_mdt4_t12 := u_m_mdt4_t11.ex I_m_mdt4_t11 (X_t12 0)
          have la_n_t12 : m_la t12 n = (m_md t4) + 1 := by rw [j_t12.2.2.1]; exact la_n_t11
          have wl_n_t12 : m_wh t12 ((m_md t4)) = 22 := by rw [j_t12.1]; exact wl_n_t11
          clear la_n_t11 wl_n_t11
          refine Ok_ret (show Ok _ _ _ from ?_)
          refine Ok_ret (show Ok _ _ _ from ?_)
          refine Hv_mk (Kv_c (x := (18, m_md t4, 0)) rfl (Kv_c (x := (8, 81, 0)) rfl (Kv_c (x := (18, m_md t4, 0)) rfl (Kv_c (x := (6, n, 0)) rfl hK)))) (C_t12.1.2.2.2.2.2.2 hTt) C_t12 hT (by omega) (by omega) (by omega) ?_ ?_ ?_ (by omega) ?_ ?_ ?_
          · exact ⟨(Io_n (by decide) (by decide) I_m_mdt4_t12.1 I_m_mdt4_t12.2.1 I_m_mdt4_t12.2.2.1 (fun q => absurd q (by decide)) (fun q => absurd q (by decide)) I_m_mdt4_t12.2.2.2), (Nd_0 (by decide) Mo_nil), ⟨(Io_78 (by decide) (by decide) (by decide)), (Nd_x (by decide)), ⟨(Io_n (by decide) (by decide) I_m_mdt4_t12.1 I_m_mdt4_t12.2.1 I_m_mdt4_t12.2.2.1 (fun q => absurd q (by decide)) (fun q => absurd q (by decide)) I_m_mdt4_t12.2.2.2), (Nd_0 (by decide) (Mo_cons (fun q => absurd (show nk 8 = true from q) (by decide)) (Mo_cons (fun q => show m_md t4 ≤ m_md t4 from by omega) Mo_nil))), ⟨(Io_6 (by decide)), (Nd_x (by decide)), Stk_step (N := n) (pop := (18, n, t)) (new := [(6, n, 0), (18, m_md t4, 0), (8, 81, 0), (18, m_md t4, 0)]) F0 C_t12.1.to2 (fun (h : nk 18 = false) => absurd h (by decide)) (fun q _ h => h (18, n, t) rfl) (fun _ => rfl) (fun y hy hk => ⟨rfl, (Mo_cons (fun q => absurd (show nk 6 = true from q) (by decide)) (Mo_cons (fun q => show n ≤ m_md t4 from by omega) (Mo_cons (fun q => absurd (show nk 8 = true from q) (by decide)) (Mo_cons (fun q => show n ≤ m_md t4 from by omega) Mo_nil)))) y hy hk⟩) (fun _ => Or.inl f_n_t12) (fun _ => (Or.inr (N5_mk f_n_t12 (Ab_some (y := (18, m_md t4, 0)) rfl (show n < m_md t4 from by omega)) la_n_t12 wl_n_t12 (Or.inl (by decide))))) (fun (h : 18 = 41 ∨ 18 = 42 ∨ 18 = 43) => absurd h (by decide)) r [] (fun y hy => absurd hy List.not_mem_nil) hS⟩⟩⟩⟩
          · exact (Aj_up (x := (18, m_md t4, 0)) (Aj_up (x := (8, 81, 0)) (Aj_up (x := (18, m_md t4, 0)) (Aj_sub (y := (6, n, 0)) hJ (Nat.zero_le _)) (Or.inl (Nat.le_of_ble_eq_true rfl))) (Or.inr (Nat.le_of_ble_eq_true rfl))) (Or.inl (Nat.le_of_ble_eq_true rfl)))
          · show m_dp t12 = (dlt 18 + (dlt 8 + (dlt 18 + (dlt 6 + sD r))))
            have : dlt 18 = 0 := rfl; have : dlt 6 = 1 := rfl; have : dlt 8 = 1 := rfl; omega
          · show m_rw t12 = (rho 18 + (rho 8 + (rho 18 + (rho 6 + sR r))))
            have : rho 18 = 0 := rfl; have : rho 6 = 0 := rfl; have : rho 8 = 0 := rfl; omega
          · show m_md t12 + (mu7 18 + (mu7 8 + (mu7 18 + (mu7 6 + sM r)))) ≤ 3 * m_at t12 + 7 * (r.length + 1 + 1 + 1 + 1) + 10
            have : mu7 18 = 5 := rfl; have : mu7 6 = 7 := rfl; have : mu7 8 = 4 := rfl; omega
          · show (wt 18 + (wt 8 + (wt 18 + (wt 6 + sW r)))) + 6 * (4096 - m_at t12) + 4 * (600 - (r.length + 1 + 1 + 1 + 1)) < (wt 18 + sW r) + 6 * (4096 - m_at t0) + 4 * (600 - (r.length + 1))
            have : wt 18 = 0 := rfl; have : wt 6 = 5 := rfl; have : wt 8 = 0 := rfl; omega
        · have w_t9 := Nat.pos_of_ne_zero w_t9
          have I_n_t9 := I_n_t8.flat X_t9
          have f_n_t9 := f_n_t8.ex I_n_t8 (X_t9 0)
          have I_m_mdt4_t9 := I_m_mdt4_t8.flat X_t9
          have u_m_mdt4_t9 := u_m_mdt4_t8.ex I_m_mdt4_t8 (X_t9 0)
          have la_n_t9 : m_la t9 n = (m_md t4) + 1 := by rw [j_t9.2.2.1]; exact la_n_t8
          have wl_n_t9 : m_wh t9 ((m_md t4)) = 22 := by rw [j_t9.1]; exact wl_n_t8
          clear la_n_t8 wl_n_t8
          refine Kp_push C_t9 (by omega) (fun t13 C_t13 X_t13 a_t13 b_t13 d_t13 w_t13 u_t13 v_t13 j_t13 l_t13 => ?_)
          have e_t13 := C_t13.2.2.2.1
          have I_n_t13 := I_n_t9.flat X_t13
          have f_n_t13 := f_n_t9.ex I_n_t9 (X_t13 0)
          have I_m_mdt4_t13 := I_m_mdt4_t9.flat X_t13
          have u_m_mdt4_t13 := u_m_mdt4_t9.ex I_m_mdt4_t9 (X_t13 0)
          have la_n_t13 : m_la t13 n = (m_md t4) + 1 := by rw [j_t13.2.2.1]; exact la_n_t9
          have wl_n_t13 : m_wh t13 ((m_md t4)) = 22 := by rw [j_t13.1]; exact wl_n_t9
          clear la_n_t9 wl_n_t9
          refine Kp_push C_t13 (by omega) (fun t14 C_t14 X_t14 a_t14 b_t14 d_t14 w_t14 u_t14 v_t14 j_t14 l_t14 => ?_)
          have e_t14 := C_t14.2.2.2.1
          have I_n_t14 := I_n_t13.flat X_t14
          have f_n_t14 := f_n_t13.ex I_n_t13 (X_t14 0)
          have I_m_mdt4_t14 := I_m_mdt4_t13.flat X_t14
          have u_m_mdt4_t14 := u_m_mdt4_t13.ex I_m_mdt4_t13 (X_t14 0)
          have la_n_t14 : m_la t14 n = (m_md t4) + 1 := by rw [j_t14.2.2.1]; exact la_n_t13
          have wl_n_t14 : m_wh t14 ((m_md t4)) = 22 := by rw [j_t14.1]; exact wl_n_t13
          clear la_n_t13 wl_n_t13
          refine Kp_push C_t14 (by omega) (fun t15 C_t15 X_t15 a_t15 b_t15 d_t15 w_t15 u_t15 v_t15 j_t15 l_t15 => ?_)
          have e_t15 := C_t15.2.2.2.1
          have I_n_t15 := I_n_t14.flat X_t15
          have f_n_t15 := f_n_t14.ex I_n_t14 (X_t15 0)
          have I_m_mdt4_t15 := I_m_mdt4_t14.flat X_t15
          have u_m_mdt4_t15 := u_m_mdt4_t14.ex I_m_mdt4_t14 (X_t15 0)
          have la_n_t15 : m_la t15 n = (m_md t4) + 1 := by rw [j_t15.2.2.1]; exact la_n_t14
          have wl_n_t15 : m_wh t15 ((m_md t4)) = 22 := by rw [j_t15.1]; exact wl_n_t14
          clear la_n_t14 wl_n_t14
          refine Ok_ret (show Ok _ _ _ from ?_)
          refine Ok_ret (show Ok _ _ _ from ?_)
          exact Or.inl ⟨Nat.ne_of_gt (show 0 < m_wr t15 from by omega), by omega, by omega, C_t15.2.2.2.2.2, by omega⟩
      · have w_t8 := Nat.pos_of_ne_zero w_t8
        have I_n_t8 := I_n_t6.flat X_t8
        have f_n_t8 := f_n_t6.ex I_n_t6 (X_t8 0)
        have I_m_mdt4_t8 := I_m_mdt4_t6.flat X_t8
        have u_m_mdt4_t8 := u_m_mdt4_t6.ex I_m_mdt4_t6 (X_t8 0)
        have la_n_t8 : m_la t8 n = (m_md t4) + 1 := by rw [j_t8.2.2.1]; exact la_n_t6
        have wl_n_t8 : m_wh t8 ((m_md t4)) = 22 := by rw [j_t8.1]; exact wl_n_t6
        clear la_n_t6 wl_n_t6
        refine Kp_pass C_t8 hT (by omega) (by decide) (by omega) (fun t16 C_t16 X_t16 a_t16 b_t16 d_t16 w_t16 u_t16 v_t16 j_t16 l_t16 => ?_)
        have e_t16 := C_t16.2.2.2.1
        have w_t16 : 0 < m_wr t16 ∧ m_wr t16 ≤ m_wr t8 + m_at t8 + 1 := by omega
        have I_n_t16 := I_n_t8.flat X_t16
        have f_n_t16 := f_n_t8.ex I_n_t8 (X_t16 0)
        have I_m_mdt4_t16 := I_m_mdt4_t8.flat X_t16
        have u_m_mdt4_t16 := u_m_mdt4_t8.ex I_m_mdt4_t8 (X_t16 0)
        have la_n_t16 : m_la t16 n = (m_md t4) + 1 := by rw [j_t16.2.2.1]; exact la_n_t8
        have wl_n_t16 : m_wh t16 ((m_md t4)) = 22 := by rw [j_t16.1]; exact wl_n_t8
        clear la_n_t8 wl_n_t8
        refine Kp_push C_t16 (by omega) (fun t17 C_t17 X_t17 a_t17 b_t17 d_t17 w_t17 u_t17 v_t17 j_t17 l_t17 => ?_)
        have e_t17 := C_t17.2.2.2.1
        have I_n_t17 := I_n_t16.flat X_t17
        have f_n_t17 := f_n_t16.ex I_n_t16 (X_t17 0)
        have I_m_mdt4_t17 := I_m_mdt4_t16.flat X_t17
        have u_m_mdt4_t17 := u_m_mdt4_t16.ex I_m_mdt4_t16 (X_t17 0)
        have la_n_t17 : m_la t17 n = (m_md t4) + 1 := by rw [j_t17.2.2.1]; exact la_n_t16
        have wl_n_t17 : m_wh t17 ((m_md t4)) = 22 := by rw [j_t17.1]; exact wl_n_t16
        clear la_n_t16 wl_n_t16
        refine Kp_push C_t17 (by omega) (fun t18 C_t18 X_t18 a_t18 b_t18 d_t18 w_t18 u_t18 v_t18 j_t18 l_t18 => ?_)
        have e_t18 := C_t18.2.2.2.1
        have I_n_t18 := I_n_t17.flat X_t18
        have f_n_t18 := f_n_t17.ex I_n_t17 (X_t18 0)
        have I_m_mdt4_t18 := I_m_mdt4_t17.flat X_t18
        have u_m_mdt4_t18 := u_m_mdt4_t17.ex I_m_mdt4_t17 (X_t18 0)
        have la_n_t18 : m_la t18 n = (m_md t4) + 1 := by rw [j_t18.2.2.1]; exact la_n_t17
        have wl_n_t18 : m_wh t18 ((m_md t4)) = 22 := by rw [j_t18.1]; exact wl_n_t17
        clear la_n_t17 wl_n_t17
        refine Kp_push C_t18 (by omega) (fun t19 C_t19 X_t19 a_t19 b_t19 d_t19 w_t19 u_t19 v_t19 j_t19 l_t19 => ?_)
        have e_t19 := C_t19.2.2.2.1
        have I_n_t19 := I_n_t18.flat X_t19
        have f_n_t19 := f_n_t18.ex I_n_t18 (X_t19 0)
        have I_m_mdt4_t19 := I_m_mdt4_t18.flat X_t19
        have u_m_mdt4_t19 := u_m_mdt4_t18.ex I_m_mdt4_t18 (X_t19 0)
        have la_n_t19 : m_la t19 n = (m_md t4) + 1 := by rw [j_t19.2.2.1]; exact la_n_t18
        have wl_n_t19 : m_wh t19 ((m_md t4)) = 22 := by rw [j_t19.1]; exact wl_n_t18
        clear la_n_t18 wl_n_t18
        refine Ok_ret (show Ok _ _ _ from ?_)
        refine Ok_ret (show Ok _ _ _ from ?_)
        exact Or.inl ⟨Nat.ne_of_gt (show 0 < m_wr t19 from by omega), by omega, by omega, C_t19.2.2.2.2.2, by omega⟩
    · refine Kp_pass C_t6 hT (by omega) (by decide) (by omega) (fun t20 C_t20 X_t20 a_t20 b_t20 d_t20 w_t20 u_t20 v_t20 j_t20 l_t20 => ?_)
      have e_t20 := C_t20.2.2.2.1
      rcases w_t20 with ⟨w_t20, y_t20⟩ | ⟨w_t20, wb_t20⟩
      · have z_t20 : m_at t6 < m_ct t6 := lo_ne (Nat.ne_of_gt (show 0 < lo t6 (m_at t6) from by omega))
        rw [a_t6] at a_t20
        rw [b_t6] at b_t20
        rw [d_t6] at d_t20
        rw [w_t6] at w_t20
        rw [u_t6] at u_t20
        rw [v_t6] at v_t20
        rw [a_t6, e_t6] at z_t20
        clear z_t6
        clear d_t6 w_t6 u_t6 v_t6 e_t6 a_t6 b_t6
        have I_n_t20 := I_n_t6.flat X_t20
        have f_n_t20 := f_n_t6.ex I_n_t6 (X_t20 0)
        have I_m_mdt4_t20 := I_m_mdt4_t6.flat X_t20
        have u_m_mdt4_t20 := u_m_mdt4_t6.ex I_m_mdt4_t6 (X_t20 0)
        have la_n_t20 : m_la t20 n = (m_md t4) + 1 := by rw [j_t20.2.2.1]; exact la_n_t6
        have wl_n_t20 : m_wh t20 ((m_md t4)) = 22 := by rw [j_t20.1]; exact wl_n_t6
        clear la_n_t6 wl_n_t6
        refine Kp_push C_t20 (by omega) (fun t21 C_t21 X_t21 a_t21 b_t21 d_t21 w_t21 u_t21 v_t21 j_t21 l_t21 => ?_)
        have e_t21 := C_t21.2.2.2.1
        rw [a_t20] at a_t21
        rw [b_t20] at b_t21
        rw [d_t20] at d_t21
        rw [w_t20] at w_t21
        rw [u_t20] at u_t21
        rw [v_t20] at v_t21
        clear d_t20 w_t20 u_t20 v_t20 e_t20 a_t20 b_t20
        have I_n_t21 := I_n_t20.flat X_t21
        have f_n_t21 := f_n_t20.ex I_n_t20 (X_t21 0)
        have I_m_mdt4_t21 := I_m_mdt4_t20.flat X_t21
        have u_m_mdt4_t21 := u_m_mdt4_t20.ex I_m_mdt4_t20 (X_t21 0)
        have la_n_t21 : m_la t21 n = (m_md t4) + 1 := by rw [j_t21.2.2.1]; exact la_n_t20
        have wl_n_t21 : m_wh t21 ((m_md t4)) = 22 := by rw [j_t21.1]; exact wl_n_t20
        clear la_n_t20 wl_n_t20
        refine Kp_push C_t21 (by omega) (fun t22 C_t22 X_t22 a_t22 b_t22 d_t22 w_t22 u_t22 v_t22 j_t22 l_t22 => ?_)
        have e_t22 := C_t22.2.2.2.1
        rw [a_t21] at a_t22
        rw [b_t21] at b_t22
        rw [d_t21] at d_t22
        rw [w_t21] at w_t22
        rw [u_t21] at u_t22
        rw [v_t21] at v_t22
        clear d_t21 w_t21 u_t21 v_t21 e_t21 a_t21 b_t21
        have I_n_t22 := I_n_t21.flat X_t22
        have f_n_t22 := f_n_t21.ex I_n_t21 (X_t22 0)
        have I_m_mdt4_t22 := I_m_mdt4_t21.flat X_t22
        have u_m_mdt4_t22 := u_m_mdt4_t21.ex I_m_mdt4_t21 (X_t22 0)
        have la_n_t22 : m_la t22 n = (m_md t4) + 1 := by rw [j_t22.2.2.1]; exact la_n_t21
        have wl_n_t22 : m_wh t22 ((m_md t4)) = 22 := by rw [j_t22.1]; exact wl_n_t21
        clear la_n_t21 wl_n_t21
        refine Kp_push C_t22 (by omega) (fun t23 C_t23 X_t23 a_t23 b_t23 d_t23 w_t23 u_t23 v_t23 j_t23 l_t23 => ?_)
        have e_t23 := C_t23.2.2.2.1
        rw [a_t22] at a_t23
        rw [b_t22] at b_t23
        rw [d_t22] at d_t23
        rw [w_t22] at w_t23
        rw [u_t22] at u_t23
        rw [v_t22] at v_t23
        clear d_t22 w_t22 u_t22 v_t22 e_t22 a_t22 b_t22
        have I_n_t23 := I_n_t22.flat X_t23
        have f_n_t23 := f_n_t22.ex I_n_t22 (X_t23 0)
        have I_m_mdt4_t23 := I_m_mdt4_t22.flat X_t23
        have u_m_mdt4_t23 := u_m_mdt4_t22.ex I_m_mdt4_t22 (X_t23 0)
        have la_n_t23 : m_la t23 n = (m_md t4) + 1 := by rw [j_t23.2.2.1]; exact la_n_t22
        have wl_n_t23 : m_wh t23 ((m_md t4)) = 22 := by rw [j_t23.1]; exact wl_n_t22
        clear la_n_t22 wl_n_t22
        refine Ok_ret (show Ok _ _ _ from ?_)
        refine Ok_ret (show Ok _ _ _ from ?_)
        refine Hv_mk (Kv_c (x := (18, m_md t4, 0)) rfl (Kv_c (x := (8, 81, 0)) rfl (Kv_c (x := (18, m_md t4, 0)) rfl (Kv_c (x := (6, n, 0)) rfl hK)))) (C_t23.1.2.2.2.2.2.2 hTt) C_t23 hT (by omega) (by omega) (by omega) ?_ ?_ ?_ (by omega) ?_ ?_ ?_
        · exact ⟨(Io_n (by decide) (by decide) I_m_mdt4_t23.1 I_m_mdt4_t23.2.1 I_m_mdt4_t23.2.2.1 (fun q => absurd q (by decide)) (fun q => absurd q (by decide)) I_m_mdt4_t23.2.2.2), (Nd_0 (by decide) Mo_nil), ⟨(Io_78 (by decide) (by decide) (by decide)), (Nd_x (by decide)), ⟨(Io_n (by decide) (by decide) I_m_mdt4_t23.1 I_m_mdt4_t23.2.1 I_m_mdt4_t23.2.2.1 (fun q => absurd q (by decide)) (fun q => absurd q (by decide)) I_m_mdt4_t23.2.2.2), (Nd_0 (by decide) (Mo_cons (fun q => absurd (show nk 8 = true from q) (by decide)) (Mo_cons (fun q => show m_md t4 ≤ m_md t4 from by omega) Mo_nil))), ⟨(Io_6 (by decide)), (Nd_x (by decide)), Stk_step (N := n) (pop := (18, n, t)) (new := [(6, n, 0), (18, m_md t4, 0), (8, 81, 0), (18, m_md t4, 0)]) F0 C_t23.1.to2 (fun (h : nk 18 = false) => absurd h (by decide)) (fun q _ h => h (18, n, t) rfl) (fun _ => rfl) (fun y hy hk => ⟨rfl, (Mo_cons (fun q => absurd (show nk 6 = true from q) (by decide)) (Mo_cons (fun q => show n ≤ m_md t4 from by omega) (Mo_cons (fun q => absurd (show nk 8 = true from q) (by decide)) (Mo_cons (fun q => show n ≤ m_md t4 from by omega) Mo_nil)))) y hy hk⟩) (fun _ => Or.inl f_n_t23) (fun _ => (Or.inr (N5_mk f_n_t23 (Ab_some (y := (18, m_md t4, 0)) rfl (show n < m_md t4 from by omega)) la_n_t23 wl_n_t23 (Or.inl (by decide))))) (fun (h : 18 = 41 ∨ 18 = 42 ∨ 18 = 43) => absurd h (by decide)) r [] (fun y hy => absurd hy List.not_mem_nil) hS⟩⟩⟩⟩
        · exact (Aj_up (x := (18, m_md t4, 0)) (Aj_up (x := (8, 81, 0)) (Aj_up (x := (18, m_md t4, 0)) (Aj_sub (y := (6, n, 0)) hJ (Nat.zero_le _)) (Or.inl (Nat.le_of_ble_eq_true rfl))) (Or.inr (Nat.le_of_ble_eq_true rfl))) (Or.inl (Nat.le_of_ble_eq_true rfl)))
        · show m_dp t23 = (dlt 18 + (dlt 8 + (dlt 18 + (dlt 6 + sD r))))
          have : dlt 18 = 0 := rfl; have : dlt 6 = 1 := rfl; have : dlt 8 = 1 := rfl; omega
        · show m_rw t23 = (rho 18 + (rho 8 + (rho 18 + (rho 6 + sR r))))
          have : rho 18 = 0 := rfl; have : rho 6 = 0 := rfl; have : rho 8 = 0 := rfl; omega
        · show m_md t23 + (mu7 18 + (mu7 8 + (mu7 18 + (mu7 6 + sM r)))) ≤ 3 * m_at t23 + 7 * (r.length + 1 + 1 + 1 + 1) + 10
          have : mu7 18 = 5 := rfl; have : mu7 6 = 7 := rfl; have : mu7 8 = 4 := rfl; omega
        · show (wt 18 + (wt 8 + (wt 18 + (wt 6 + sW r)))) + 6 * (4096 - m_at t23) + 4 * (600 - (r.length + 1 + 1 + 1 + 1)) < (wt 18 + sW r) + 6 * (4096 - m_at t0) + 4 * (600 - (r.length + 1))
          have : wt 18 = 0 := rfl; have : wt 6 = 5 := rfl; have : wt 8 = 0 := rfl; omega
      · have w_t20 := Nat.pos_of_ne_zero w_t20
        have I_n_t20 := I_n_t6.flat X_t20
        have f_n_t20 := f_n_t6.ex I_n_t6 (X_t20 0)
        have I_m_mdt4_t20 := I_m_mdt4_t6.flat X_t20
        have u_m_mdt4_t20 := u_m_mdt4_t6.ex I_m_mdt4_t6 (X_t20 0)
        have la_n_t20 : m_la t20 n = (m_md t4) + 1 := by rw [j_t20.2.2.1]; exact la_n_t6
        have wl_n_t20 : m_wh t20 ((m_md t4)) = 22 := by rw [j_t20.1]; exact wl_n_t6
        clear la_n_t6 wl_n_t6
        refine Kp_push C_t20 (by omega) (fun t24 C_t24 X_t24 a_t24 b_t24 d_t24 w_t24 u_t24 v_t24 j_t24 l_t24 => ?_)
        have e_t24 := C_t24.2.2.2.1
        have I_n_t24 := I_n_t20.flat X_t24
        have f_n_t24 := f_n_t20.ex I_n_t20 (X_t24 0)
        have I_m_mdt4_t24 := I_m_mdt4_t20.flat X_t24
        have u_m_mdt4_t24 := u_m_mdt4_t20.ex I_m_mdt4_t20 (X_t24 0)
        have la_n_t24 : m_la t24 n = (m_md t4) + 1 := by rw [j_t24.2.2.1]; exact la_n_t20
        have wl_n_t24 : m_wh t24 ((m_md t4)) = 22 := by rw [j_t24.1]; exact wl_n_t20
        clear la_n_t20 wl_n_t20
        refine Kp_push C_t24 (by omega) (fun t25 C_t25 X_t25 a_t25 b_t25 d_t25 w_t25 u_t25 v_t25 j_t25 l_t25 => ?_)
        have e_t25 := C_t25.2.2.2.1
        have I_n_t25 := I_n_t24.flat X_t25
        have f_n_t25 := f_n_t24.ex I_n_t24 (X_t25 0)
        have I_m_mdt4_t25 := I_m_mdt4_t24.flat X_t25
        have u_m_mdt4_t25 := u_m_mdt4_t24.ex I_m_mdt4_t24 (X_t25 0)
        have la_n_t25 : m_la t25 n = (m_md t4) + 1 := by rw [j_t25.2.2.1]; exact la_n_t24
        have wl_n_t25 : m_wh t25 ((m_md t4)) = 22 := by rw [j_t25.1]; exact wl_n_t24
        clear la_n_t24 wl_n_t24
        refine Kp_push C_t25 (by omega) (fun t26 C_t26 X_t26 a_t26 b_t26 d_t26 w_t26 u_t26 v_t26 j_t26 l_t26 => ?_)
        have e_t26 := C_t26.2.2.2.1
        have I_n_t26 := I_n_t25.flat X_t26
        have f_n_t26 := f_n_t25.ex I_n_t25 (X_t26 0)
        have I_m_mdt4_t26 := I_m_mdt4_t25.flat X_t26
        have u_m_mdt4_t26 := u_m_mdt4_t25.ex I_m_mdt4_t25 (X_t26 0)
        have la_n_t26 : m_la t26 n = (m_md t4) + 1 := by rw [j_t26.2.2.1]; exact la_n_t25
        have wl_n_t26 : m_wh t26 ((m_md t4)) = 22 := by rw [j_t26.1]; exact wl_n_t25
        clear la_n_t25 wl_n_t25
        refine Ok_ret (show Ok _ _ _ from ?_)
        refine Ok_ret (show Ok _ _ _ from ?_)
        exact Or.inl ⟨Nat.ne_of_gt (show 0 < m_wr t26 from by omega), by omega, by omega, C_t26.2.2.2.2.2, by omega⟩
  · have w_t3 := Nat.pos_of_ne_zero w_t3
    have I_n_t3 := I_n_t0.flat X_t3
    refine Kp_push C_t3 (by omega) (fun t27 C_t27 X_t27 a_t27 b_t27 d_t27 w_t27 u_t27 v_t27 j_t27 l_t27 => ?_)
    have e_t27 := C_t27.2.2.2.1
    have I_n_t27 := I_n_t3.flat X_t27
    refine Ok_ife (Nat.lt_trans (lo_lt (C_t0.tk hT) _) (by decide)) (by decide) (fun q => absurd (hk0.symm.trans q) (by decide)) (fun _ => ?_)
    refine Ok_ife (Nat.lt_trans (lo_lt (C_t0.tk hT) _) (by decide)) (by decide) (fun q => absurd (hk0.symm.trans q) (by decide)) (fun _ => ?_)
    refine Ok_ife (Nat.lt_trans (lo_lt (C_t0.tk hT) _) (by decide)) (by decide) (fun q => ?_) (fun q => absurd hk0 q)
    refine Kp_child C_t27 I_n_t27.1 I_n_t27.2.1 I_n_t27.2.2.1 (by omega) (by omega) (by decide) (by decide) (fun t28 C_t28 X_t28 a_t28 b_t28 d_t28 w_t28 u_t28 v_t28 j_t28 l_t28 => ?_)
    have e_t28 := C_t28.2.2.2.1
    have I_n_t28 := I_n_t27.chd X_t28 j_t28
    have f_n_t28 : Fz t28 n := j_t28.2.2.2.2.1
    have I_m_mdt27_t28 : Nq t28 (m_md t27) := Nq.chn j_t28 (by omega) I_n_t27 (by decide)
    have u_m_mdt27_t28 : Up t28 (m_md t27) := Or.inl j_t28.2.1
    have la_n_t28 : m_la t28 n = (m_md t27) + 1 := j_t28.2.2.2.2.2.1
    have wl_n_t28 : m_wh t28 (m_md t27) = 22 := j_t28.1
    refine Kp_at C_t28 (fun t29 C_t29 X_t29 a_t29 b_t29 d_t29 w_t29 u_t29 v_t29 j_t29 l_t29 => ?_)
    have e_t29 := C_t29.2.2.2.1
    have I_n_t29 := I_n_t28.flat X_t29
    have f_n_t29 := f_n_t28.ex I_n_t28 (X_t29 0)
    have I_m_mdt27_t29 := I_m_mdt27_t28.flat X_t29
    have u_m_mdt27_t29 := u_m_mdt27_t28.ex I_m_mdt27_t28 (X_t29 0)
    have la_n_t29 : m_la t29 n = (m_md t27) + 1 := by rw [j_t29.2.2.1]; exact la_n_t28
    have wl_n_t29 : m_wh t29 ((m_md t27)) = 22 := by rw [j_t29.1]; exact wl_n_t28
    clear la_n_t28 wl_n_t28
    refine Kp_look C_t29 hT (by omega) ?_
    refine Ok_ife (Nat.lt_trans (lo_lt (C_t29.tk hT) _) (by decide)) (by decide) (fun q30 => ?_) (fun q30 => ?_)
    · refine Kp_more C_t29 (by omega) (by omega) (fun t31 C_t31 X_t31 a_t31 b_t31 d_t31 w_t31 u_t31 v_t31 j_t31 l_t31 => ?_)
      have e_t31 := C_t31.2.2.2.1
      have w_t31 : 0 < m_wr t31 ∧ m_wr t31 ≤ m_wr t29 + m_at t29 + 1 := by omega
      have I_n_t31 := I_n_t29.flat X_t31
      have f_n_t31 := f_n_t29.ex I_n_t29 (X_t31 0)
      have I_m_mdt27_t31 := I_m_mdt27_t29.flat X_t31
      have u_m_mdt27_t31 := u_m_mdt27_t29.ex I_m_mdt27_t29 (X_t31 0)
      have la_n_t31 : m_la t31 n = (m_md t27) + 1 := by rw [j_t31.2.2.1]; exact la_n_t29
      have wl_n_t31 : m_wh t31 ((m_md t27)) = 22 := by rw [j_t31.1]; exact wl_n_t29
      clear la_n_t29 wl_n_t29
      refine Kp_pass C_t31 hT (by omega) (by decide) (by omega) (fun t32 C_t32 X_t32 a_t32 b_t32 d_t32 w_t32 u_t32 v_t32 j_t32 l_t32 => ?_)
      have e_t32 := C_t32.2.2.2.1
      have w_t32 : 0 < m_wr t32 ∧ m_wr t32 ≤ m_wr t31 + m_at t31 + 1 := by omega
      have I_n_t32 := I_n_t31.flat X_t32
      have f_n_t32 := f_n_t31.ex I_n_t31 (X_t32 0)
      have I_m_mdt27_t32 := I_m_mdt27_t31.flat X_t32
      have u_m_mdt27_t32 := u_m_mdt27_t31.ex I_m_mdt27_t31 (X_t32 0)
      have la_n_t32 : m_la t32 n = (m_md t27) + 1 := by rw [j_t32.2.2.1]; exact la_n_t31
      have wl_n_t32 : m_wh t32 ((m_md t27)) = 22 := by rw [j_t32.1]; exact wl_n_t31
      clear la_n_t31 wl_n_t31
      refine Kp_push C_t32 (by omega) (fun t33 C_t33 X_t33 a_t33 b_t33 d_t33 w_t33 u_t33 v_t33 j_t33 l_t33 => ?_)
      have e_t33 := C_t33.2.2.2.1
      have I_n_t33 := I_n_t32.flat X_t33
      have f_n_t33 := f_n_t32.ex I_n_t32 (X_t33 0)
      have I_m_mdt27_t33 := I_m_mdt27_t32.flat X_t33
      have u_m_mdt27_t33 := u_m_mdt27_t32.ex I_m_mdt27_t32 (X_t33 0)
      have la_n_t33 : m_la t33 n = (m_md t27) + 1 := by rw [j_t33.2.2.1]; exact la_n_t32
      have wl_n_t33 : m_wh t33 ((m_md t27)) = 22 := by rw [j_t33.1]; exact wl_n_t32
      clear la_n_t32 wl_n_t32
      refine Kp_push C_t33 (by omega) (fun t34 C_t34 X_t34 a_t34 b_t34 d_t34 w_t34 u_t34 v_t34 j_t34 l_t34 => ?_)
      have e_t34 := C_t34.2.2.2.1
      have I_n_t34 := I_n_t33.flat X_t34
      have f_n_t34 := f_n_t33.ex I_n_t33 (X_t34 0)
      have I_m_mdt27_t34 := I_m_mdt27_t33.flat X_t34
      have u_m_mdt27_t34 := u_m_mdt27_t33.ex I_m_mdt27_t33 (X_t34 0)
      have la_n_t34 : m_la t34 n = (m_md t27) + 1 := by rw [j_t34.2.2.1]; exact la_n_t33
      have wl_n_t34 : m_wh t34 ((m_md t27)) = 22 := by rw [j_t34.1]; exact wl_n_t33
      clear la_n_t33 wl_n_t33
      refine Kp_push C_t34 (by omega) (fun t35 C_t35 X_t35 a_t35 b_t35 d_t35 w_t35 u_t35 v_t35 j_t35 l_t35 => ?_)
      have e_t35 := C_t35.2.2.2.1
      have I_n_t35 := I_n_t34.flat X_t35
      have f_n_t35 := f_n_t34.ex I_n_t34 (X_t35 0)
      have I_m_mdt27_t35 := I_m_mdt27_t34.flat X_t35
      have u_m_mdt27_t35 := u_m_mdt27_t34.ex I_m_mdt27_t34 (X_t35 0)
      have la_n_t35 : m_la t35 n = (m_md t27) + 1 := by rw [j_t35.2.2.1]; exact la_n_t34
      have wl_n_t35 : m_wh t35 ((m_md t27)) = 22 := by rw [j_t35.1]; exact wl_n_t34
      clear la_n_t34 wl_n_t34
      refine Ok_ret (show Ok _ _ _ from ?_)
      refine Ok_ret (show Ok _ _ _ from ?_)
      exact Or.inl ⟨Nat.ne_of_gt (show 0 < m_wr t35 from by omega), by omega, by omega, C_t35.2.2.2.2.2, by omega⟩
    · refine Kp_pass C_t29 hT (by omega) (by decide) (by omega) (fun t36 C_t36 X_t36 a_t36 b_t36 d_t36 w_t36 u_t36 v_t36 j_t36 l_t36 => ?_)
      have e_t36 := C_t36.2.2.2.1
      have w_t36 : 0 < m_wr t36 ∧ m_wr t36 ≤ m_wr t29 + m_at t29 + 1 := by omega
      have I_n_t36 := I_n_t29.flat X_t36
      have f_n_t36 := f_n_t29.ex I_n_t29 (X_t36 0)
      have I_m_mdt27_t36 := I_m_mdt27_t29.flat X_t36
      have u_m_mdt27_t36 := u_m_mdt27_t29.ex I_m_mdt27_t29 (X_t36 0)
      have la_n_t36 : m_la t36 n = (m_md t27) + 1 := by rw [j_t36.2.2.1]; exact la_n_t29
      have wl_n_t36 : m_wh t36 ((m_md t27)) = 22 := by rw [j_t36.1]; exact wl_n_t29
      clear la_n_t29 wl_n_t29
      refine Kp_push C_t36 (by omega) (fun t37 C_t37 X_t37 a_t37 b_t37 d_t37 w_t37 u_t37 v_t37 j_t37 l_t37 => ?_)
      have e_t37 := C_t37.2.2.2.1
      have I_n_t37 := I_n_t36.flat X_t37
      have f_n_t37 := f_n_t36.ex I_n_t36 (X_t37 0)
      have I_m_mdt27_t37 := I_m_mdt27_t36.flat X_t37
      have u_m_mdt27_t37 := u_m_mdt27_t36.ex I_m_mdt27_t36 (X_t37 0)
      have la_n_t37 : m_la t37 n = (m_md t27) + 1 := by rw [j_t37.2.2.1]; exact la_n_t36
      have wl_n_t37 : m_wh t37 ((m_md t27)) = 22 := by rw [j_t37.1]; exact wl_n_t36
      clear la_n_t36 wl_n_t36
      refine Kp_push C_t37 (by omega) (fun t38 C_t38 X_t38 a_t38 b_t38 d_t38 w_t38 u_t38 v_t38 j_t38 l_t38 => ?_)
      have e_t38 := C_t38.2.2.2.1
      have I_n_t38 := I_n_t37.flat X_t38
      have f_n_t38 := f_n_t37.ex I_n_t37 (X_t38 0)
      have I_m_mdt27_t38 := I_m_mdt27_t37.flat X_t38
      have u_m_mdt27_t38 := u_m_mdt27_t37.ex I_m_mdt27_t37 (X_t38 0)
      have la_n_t38 : m_la t38 n = (m_md t27) + 1 := by rw [j_t38.2.2.1]; exact la_n_t37
      have wl_n_t38 : m_wh t38 ((m_md t27)) = 22 := by rw [j_t38.1]; exact wl_n_t37
      clear la_n_t37 wl_n_t37
      refine Kp_push C_t38 (by omega) (fun t39 C_t39 X_t39 a_t39 b_t39 d_t39 w_t39 u_t39 v_t39 j_t39 l_t39 => ?_)
      have e_t39 := C_t39.2.2.2.1
      have I_n_t39 := I_n_t38.flat X_t39
      have f_n_t39 := f_n_t38.ex I_n_t38 (X_t39 0)
      have I_m_mdt27_t39 := I_m_mdt27_t38.flat X_t39
      have u_m_mdt27_t39 := u_m_mdt27_t38.ex I_m_mdt27_t38 (X_t39 0)
      have la_n_t39 : m_la t39 n = (m_md t27) + 1 := by rw [j_t39.2.2.1]; exact la_n_t38
      have wl_n_t39 : m_wh t39 ((m_md t27)) = 22 := by rw [j_t39.1]; exact wl_n_t38
      clear la_n_t38 wl_n_t38
      refine Ok_ret (show Ok _ _ _ from ?_)
      refine Ok_ret (show Ok _ _ _ from ?_)
      exact Or.inl ⟨Nat.ne_of_gt (show 0 < m_wr t39 from by omega), by omega, by omega, C_t39.2.2.2.2.2, by omega⟩

theorem S_18_t12 {t0 : Mm} {n t : Nat} {r : List It} (H : Hp t0 (18, n, t) r) {E : Mm → Prop} (hk0 : lo t0 (m_at t0) = 12) : Ok (Qh (mz t0 ((18, n, t) :: r))) E (b_X6_step 18 n t t0) := by
  obtain ⟨hK, hT, hc, hw0, ha, hC, hS, hJ, hdp, hdl, hrw, hmd, htd, hln, hm16, hI, hD, hTt⟩ := Hp_out H
  have C_t0 := hC n
  have F0 := C_t0.2.1
  have I_n_t0 : Nq t0 n := ⟨(hI.2.1 rfl).1, (hI.2.1 rfl).2.1, (hI.2.1 rfl).2.2, hI.2.2.2 rfl⟩
  have m_n_t0 := I_n_t0.1
  have ht : t < 4096 := hI.1.1 (show 18 ≠ 42 by decide) (show 18 ≠ 48 by decide)
  have hdp : m_dp t0 = dlt 18 + sD r := hdp
  have hrw : m_rw t0 = rho 18 + sR r := hrw
  have hmd : m_md t0 + mu7 18 + sM r ≤ 3 * m_at t0 + 7 * r.length + 17 := hmd
  have hand : t &&& 1 ≤ 1 := Nat.and_le_right
  have h01 : (0 &&& 1 : Nat) = 0 := rfl
  have h02 : (1 : Nat) * 256 = 256 := rfl
  have hq1 : dlt 18 = 0 := rfl
  have hq2 : rho 18 = 0 := rfl
  have hq3 : mu7 18 = 5 := rfl
  unfold b_X6_step
  refine Ok_ifl (by decide) (by decide) (fun _ => ?_) (fun q => absurd (by decide) q)
  refine Ok_ifl (by decide) (by decide) (fun q => absurd q (by decide)) (fun _ => ?_)
  refine Ok_ifl (by decide) (by decide) (fun _ => ?_) (fun q => absurd (by decide) q)
  refine Ok_bnc ?_
  try unfold b_X6_typing
  refine Ok_ck (by decide) ?_
  refine Ok_ife (by decide) (by decide) (fun _ => ?_) (fun q => absurd (by decide) q)
  refine Ok_bnc ?_
  try unfold b_X6_type
  refine Kp_look C_t0 hT (by omega) ?_
  refine Ok_ife (Nat.lt_trans (lo_lt (C_t0.tk hT) _) (by decide)) (by decide) (fun q => absurd (hk0.symm.trans q) (by decide)) (fun _ => ?_)
  refine Ok_ck (Nat.lt_trans (lo_lt (C_t0.tk hT) _) (by decide)) ?_
  refine Ok_ifz (f6_beginsType _) (fun q => absurd q (by rw [hk0]; decide)) (fun q => ?_)
  refine Kp_more C_t0 (by omega) (by omega) (fun t3 C_t3 X_t3 a_t3 b_t3 d_t3 w_t3 u_t3 v_t3 j_t3 l_t3 => ?_)
  have e_t3 := C_t3.2.2.2.1
  rcases w_t3 with ⟨w_t3, y_t3⟩ | ⟨w_t3, wb_t3⟩
  · rw [d_t3] at y_t3
    have I_n_t3 := I_n_t0.flat X_t3
    refine Kp_push C_t3 (by omega) (fun t4 C_t4 X_t4 a_t4 b_t4 d_t4 w_t4 u_t4 v_t4 j_t4 l_t4 => ?_)
    have e_t4 := C_t4.2.2.2.1
    rw [a_t3] at a_t4
    rw [b_t3] at b_t4
    rw [d_t3] at d_t4
    rw [w_t3] at w_t4
    rw [u_t3] at u_t4
    rw [v_t3] at v_t4
    clear d_t3 w_t3 u_t3 v_t3 e_t3 a_t3 b_t3
    have I_n_t4 := I_n_t3.flat X_t4
    refine Ok_ife (Nat.lt_trans (lo_lt (C_t0.tk hT) _) (by decide)) (by decide) (fun q => absurd (hk0.symm.trans q) (by decide)) (fun _ => ?_)
    refine Ok_ife (Nat.lt_trans (lo_lt (C_t0.tk hT) _) (by decide)) (by decide) (fun q => absurd (hk0.symm.trans q) (by decide)) (fun _ => ?_)
    refine Ok_ife (Nat.lt_trans (lo_lt (C_t0.tk hT) _) (by decide)) (by decide) (fun q => absurd (hk0.symm.trans q) (by decide)) (fun _ => ?_)
    refine Ok_ife (Nat.lt_trans (lo_lt (C_t0.tk hT) _) (by decide)) (by decide) (fun q => ?_) (fun q => absurd hk0 q)
    refine Ok_ife (Nat.lt_trans (lo_lt (C_t0.tk hT) _) (by decide)) (by decide) (fun q => ?_) (fun q => absurd hk0 q)
    refine Kp_child C_t4 I_n_t4.1 I_n_t4.2.1 I_n_t4.2.2.1 (by omega) (by omega) (by decide) (by decide) (fun t5 C_t5 X_t5 a_t5 b_t5 d_t5 w_t5 u_t5 v_t5 j_t5 l_t5 => ?_)
    have e_t5 := C_t5.2.2.2.1
    rw [a_t4] at a_t5
    rw [b_t4] at b_t5
    rw [d_t4] at d_t5
    rw [w_t4] at w_t5
    rw [u_t4] at u_t5
    rw [v_t4] at v_t5
    clear d_t4 w_t4 u_t4 v_t4 e_t4 a_t4
    have I_n_t5 := I_n_t4.chd X_t5 j_t5
    have f_n_t5 : Fz t5 n := j_t5.2.2.2.2.1
    have I_m_mdt4_t5 : Nq t5 (m_md t4) := Nq.chn j_t5 (by omega) I_n_t4 (by decide)
    have u_m_mdt4_t5 : Up t5 (m_md t4) := Or.inl j_t5.2.1
    have la_n_t5 : m_la t5 n = (m_md t4) + 1 := j_t5.2.2.2.2.2.1
    have wl_n_t5 : m_wh t5 (m_md t4) = 23 := j_t5.1
    have z_t6 : m_at t5 < m_ct t5 := lo_ne (Nat.ne_of_gt (show 0 < lo t5 (m_at t5) from by omega))
    refine Kp_at C_t5 (fun t6 C_t6 X_t6 a_t6 b_t6 d_t6 w_t6 u_t6 v_t6 j_t6 l_t6 => ?_)
    have e_t6 := C_t6.2.2.2.1
    rw [a_t5] at a_t6
    rw [b_t5] at b_t6
    rw [d_t5] at d_t6
    rw [w_t5] at w_t6
    rw [u_t5] at u_t6
    rw [v_t5] at v_t6
    rw [a_t5, e_t5] at z_t6
    clear d_t5 w_t5 u_t5 v_t5 e_t5 a_t5 b_t5
    have I_n_t6 := I_n_t5.flat X_t6
    have f_n_t6 := f_n_t5.ex I_n_t5 (X_t6 0)
    have I_m_mdt4_t6 := I_m_mdt4_t5.flat X_t6
    have u_m_mdt4_t6 := u_m_mdt4_t5.ex I_m_mdt4_t5 (X_t6 0)
    have la_n_t6 : m_la t6 n = (m_md t4) + 1 := by rw [j_t6.2.2.1]; exact la_n_t5
    have wl_n_t6 : m_wh t6 ((m_md t4)) = 23 := by rw [j_t6.1]; exact wl_n_t5
    clear la_n_t5 wl_n_t5
    refine Ok_ife (Nat.lt_trans (lo_lt (C_t0.tk hT) _) (by decide)) (by decide) (fun q => absurd (hk0.symm.trans q) (by decide)) (fun _ => ?_)
    refine Kp_look C_t6 hT (by omega) ?_
    refine Ok_ife (Nat.lt_trans (lo_lt (C_t6.tk hT) _) (by decide)) (by decide) (fun q7 => ?_) (fun q7 => ?_)
    · refine Ok_ck (show (m_md t4) < 65536 from by omega) ?_
      refine Kp_wh C_t6 (by decide) (by decide) (by decide) (by decide) (fun t8 C_t8 X_t8 a_t8 b_t8 d_t8 w_t8 u_t8 v_t8 j_t8 l_t8 => ?_)
      have e_t8 := C_t8.2.2.2.1
      rw [a_t6] at a_t8
      rw [b_t6] at b_t8
      rw [d_t6] at d_t8
      rw [w_t6] at w_t8
      rw [u_t6] at u_t8
      rw [v_t6] at v_t8
      clear d_t6 w_t6 u_t6 v_t6 e_t6 a_t6 b_t6
      have I_n_t8 := I_n_t6.flat X_t8
      have f_n_t8 := f_n_t6.ex I_n_t6 (X_t8 0)
      have I_m_mdt4_t8 := I_m_mdt4_t6.flat X_t8
      have u_m_mdt4_t8 := u_m_mdt4_t6.ex I_m_mdt4_t6 (X_t8 0)
      have la_n_t8 : m_la t8 n = (m_md t4) + 1 := by rw [j_t8.2.2.1]; exact la_n_t6
      have wl_n_t8 : m_wh t8 ((m_md t4)) = 24 := by rw [j_t8.1]; exact upN_at
      have z_t9 : m_at t8 < m_ct t8 := lo_ne (Nat.ne_of_gt (show 0 < lo t8 (m_at t8) from by omega))
      refine Kp_at C_t8 (fun t9 C_t9 X_t9 a_t9 b_t9 d_t9 w_t9 u_t9 v_t9 j_t9 l_t9 => ?_)
      have e_t9 := C_t9.2.2.2.1
      rw [a_t8] at a_t9
      rw [b_t8] at b_t9
      rw [d_t8] at d_t9
      rw [w_t8] at w_t9
      rw [u_t8] at u_t9
      rw [v_t8] at v_t9
      rw [a_t8, e_t8] at z_t9
      clear z_t6
      clear d_t8 w_t8 u_t8 v_t8 e_t8 a_t8 b_t8
      have I_n_t9 := I_n_t8.flat X_t9
      have f_n_t9 := f_n_t8.ex I_n_t8 (X_t9 0)
      have I_m_mdt4_t9 := I_m_mdt4_t8.flat X_t9
      have u_m_mdt4_t9 := u_m_mdt4_t8.ex I_m_mdt4_t8 (X_t9 0)
      have la_n_t9 : m_la t9 n = (m_md t4) + 1 := by rw [j_t9.2.2.1]; exact la_n_t8
      have wl_n_t9 : m_wh t9 ((m_md t4)) = 24 := by rw [j_t9.1]; exact wl_n_t8
      clear la_n_t8 wl_n_t8
      refine Kp_push C_t9 (by omega) (fun t10 C_t10 X_t10 a_t10 b_t10 d_t10 w_t10 u_t10 v_t10 j_t10 l_t10 => ?_)
      have e_t10 := C_t10.2.2.2.1
      rw [a_t9] at a_t10
      rw [b_t9] at b_t10
      rw [d_t9] at d_t10
      rw [w_t9] at w_t10
      rw [u_t9] at u_t10
      rw [v_t9] at v_t10
      clear d_t9 w_t9 u_t9 v_t9 e_t9 a_t9 b_t9
      have I_n_t10 := I_n_t9.flat X_t10
      have f_n_t10 := f_n_t9.ex I_n_t9 (X_t10 0)
      have I_m_mdt4_t10 := I_m_mdt4_t9.flat X_t10
      have u_m_mdt4_t10 := u_m_mdt4_t9.ex I_m_mdt4_t9 (X_t10 0)
      have la_n_t10 : m_la t10 n = (m_md t4) + 1 := by rw [j_t10.2.2.1]; exact la_n_t9
      have wl_n_t10 : m_wh t10 ((m_md t4)) = 24 := by rw [j_t10.1]; exact wl_n_t9
      clear la_n_t9 wl_n_t9
      refine Ok_ret (show Ok _ _ _ from ?_)
      refine Ok_ret (show Ok _ _ _ from ?_)
      refine Hv_mk (Kv_c (x := (18, m_md t4, 0)) rfl (Kv_c (x := (6, n, 0)) rfl hK)) (C_t10.1.2.2.2.2.2.2 hTt) C_t10 hT (by omega) (by omega) (by omega) ?_ ?_ ?_ (by omega) ?_ ?_ ?_
      · exact ⟨(Io_n (by decide) (by decide) I_m_mdt4_t10.1 I_m_mdt4_t10.2.1 I_m_mdt4_t10.2.2.1 (fun q => absurd q (by decide)) (fun q => absurd q (by decide)) I_m_mdt4_t10.2.2.2), (Nd_0 (by decide) Mo_nil), ⟨(Io_6 (by decide)), (Nd_x (by decide)), Stk_step (N := n) (pop := (18, n, t)) (new := [(6, n, 0), (18, m_md t4, 0)]) F0 C_t10.1.to2 (fun (h : nk 18 = false) => absurd h (by decide)) (fun q _ h => h (18, n, t) rfl) (fun _ => rfl) (fun y hy hk => ⟨rfl, (Mo_cons (fun q => absurd (show nk 6 = true from q) (by decide)) (Mo_cons (fun q => show n ≤ m_md t4 from by omega) Mo_nil)) y hy hk⟩) (fun _ => Or.inl f_n_t10) (fun _ => (Or.inr (N5_mk f_n_t10 (Ab_some (y := (18, m_md t4, 0)) rfl (show n < m_md t4 from by omega)) la_n_t10 wl_n_t10 (Or.inl (by decide))))) (fun (h : 18 = 41 ∨ 18 = 42 ∨ 18 = 43) => absurd h (by decide)) r [] (fun y hy => absurd hy List.not_mem_nil) hS⟩⟩
      · exact (Aj_up (x := (18, m_md t4, 0)) (Aj_sub (y := (6, n, 0)) hJ (Nat.zero_le _)) (Or.inl (Nat.le_of_ble_eq_true rfl)))
      · show m_dp t10 = (dlt 18 + (dlt 6 + sD r))
        have : dlt 18 = 0 := rfl; have : dlt 6 = 1 := rfl; omega
      · show m_rw t10 = (rho 18 + (rho 6 + sR r))
        have : rho 18 = 0 := rfl; have : rho 6 = 0 := rfl; omega
      · show m_md t10 + (mu7 18 + (mu7 6 + sM r)) ≤ 3 * m_at t10 + 7 * (r.length + 1 + 1) + 10
        have : mu7 18 = 5 := rfl; have : mu7 6 = 7 := rfl; omega
      · show (wt 18 + (wt 6 + sW r)) + 6 * (4096 - m_at t10) + 4 * (600 - (r.length + 1 + 1)) < (wt 18 + sW r) + 6 * (4096 - m_at t0) + 4 * (600 - (r.length + 1))
        have : wt 18 = 0 := rfl; have : wt 6 = 5 := rfl; omega
    · refine Kp_push C_t6 (by omega) (fun t11 C_t11 X_t11 a_t11 b_t11 d_t11 w_t11 u_t11 v_t11 j_t11 l_t11 => ?_)
      have e_t11 := C_t11.2.2.2.1
      rw [a_t6] at a_t11
      rw [b_t6] at b_t11
      rw [d_t6] at d_t11
      rw [w_t6] at w_t11
      rw [u_t6] at u_t11
      rw [v_t6] at v_t11
      clear d_t6 w_t6 u_t6 v_t6 e_t6 a_t6 b_t6
      have I_n_t11 := I_n_t6.flat X_t11
      have f_n_t11 := f_n_t6.ex I_n_t6 (X_t11 0)
      have I_m_mdt4_t11 := I_m_mdt4_t6.flat X_t11
      have u_m_mdt4_t11 := u_m_mdt4_t6.ex I_m_mdt4_t6 (X_t11 0)
      have la_n_t11 : m_la t11 n = (m_md t4) + 1 := by rw [j_t11.2.2.1]; exact la_n_t6
      have wl_n_t11 : m_wh t11 ((m_md t4)) = 23 := by rw [j_t11.1]; exact wl_n_t6
      clear la_n_t6 wl_n_t6
      refine Ok_ret (show Ok _ _ _ from ?_)
      refine Ok_ret (show Ok _ _ _ from ?_)
      refine Hv_mk (Kv_c (x := (18, m_md t4, 0)) rfl (Kv_c (x := (6, n, 0)) rfl hK)) (C_t11.1.2.2.2.2.2.2 hTt) C_t11 hT (by omega) (by omega) (by omega) ?_ ?_ ?_ (by omega) ?_ ?_ ?_
      · exact ⟨(Io_n (by decide) (by decide) I_m_mdt4_t11.1 I_m_mdt4_t11.2.1 I_m_mdt4_t11.2.2.1 (fun q => absurd q (by decide)) (fun q => absurd q (by decide)) I_m_mdt4_t11.2.2.2), (Nd_0 (by decide) Mo_nil), ⟨(Io_6 (by decide)), (Nd_x (by decide)), Stk_step (N := n) (pop := (18, n, t)) (new := [(6, n, 0), (18, m_md t4, 0)]) F0 C_t11.1.to2 (fun (h : nk 18 = false) => absurd h (by decide)) (fun q _ h => h (18, n, t) rfl) (fun _ => rfl) (fun y hy hk => ⟨rfl, (Mo_cons (fun q => absurd (show nk 6 = true from q) (by decide)) (Mo_cons (fun q => show n ≤ m_md t4 from by omega) Mo_nil)) y hy hk⟩) (fun _ => Or.inl f_n_t11) (fun _ => (Or.inr (N5_mk f_n_t11 (Ab_some (y := (18, m_md t4, 0)) rfl (show n < m_md t4 from by omega)) la_n_t11 wl_n_t11 (Or.inl (by decide))))) (fun (h : 18 = 41 ∨ 18 = 42 ∨ 18 = 43) => absurd h (by decide)) r [] (fun y hy => absurd hy List.not_mem_nil) hS⟩⟩
      · exact (Aj_up (x := (18, m_md t4, 0)) (Aj_sub (y := (6, n, 0)) hJ (Nat.zero_le _)) (Or.inl (Nat.le_of_ble_eq_true rfl)))
      · show m_dp t11 = (dlt 18 + (dlt 6 + sD r))
        have : dlt 18 = 0 := rfl; have : dlt 6 = 1 := rfl; omega
      · show m_rw t11 = (rho 18 + (rho 6 + sR r))
        have : rho 18 = 0 := rfl; have : rho 6 = 0 := rfl; omega
      · show m_md t11 + (mu7 18 + (mu7 6 + sM r)) ≤ 3 * m_at t11 + 7 * (r.length + 1 + 1) + 10
        have : mu7 18 = 5 := rfl; have : mu7 6 = 7 := rfl; omega
      · show (wt 18 + (wt 6 + sW r)) + 6 * (4096 - m_at t11) + 4 * (600 - (r.length + 1 + 1)) < (wt 18 + sW r) + 6 * (4096 - m_at t0) + 4 * (600 - (r.length + 1))
        have : wt 18 = 0 := rfl; have : wt 6 = 5 := rfl; omega
  · have w_t3 := Nat.pos_of_ne_zero w_t3
    have I_n_t3 := I_n_t0.flat X_t3
    refine Kp_push C_t3 (by omega) (fun t12 C_t12 X_t12 a_t12 b_t12 d_t12 w_t12 u_t12 v_t12 j_t12 l_t12 => ?_)
    have e_t12 := C_t12.2.2.2.1
    have I_n_t12 := I_n_t3.flat X_t12
    refine Ok_ife (Nat.lt_trans (lo_lt (C_t0.tk hT) _) (by decide)) (by decide) (fun q => absurd (hk0.symm.trans q) (by decide)) (fun _ => ?_)
    refine Ok_ife (Nat.lt_trans (lo_lt (C_t0.tk hT) _) (by decide)) (by decide) (fun q => absurd (hk0.symm.trans q) (by decide)) (fun _ => ?_)
    refine Ok_ife (Nat.lt_trans (lo_lt (C_t0.tk hT) _) (by decide)) (by decide) (fun q => absurd (hk0.symm.trans q) (by decide)) (fun _ => ?_)
    refine Ok_ife (Nat.lt_trans (lo_lt (C_t0.tk hT) _) (by decide)) (by decide) (fun q => ?_) (fun q => absurd hk0 q)
    refine Ok_ife (Nat.lt_trans (lo_lt (C_t0.tk hT) _) (by decide)) (by decide) (fun q => ?_) (fun q => absurd hk0 q)
    refine Kp_child C_t12 I_n_t12.1 I_n_t12.2.1 I_n_t12.2.2.1 (by omega) (by omega) (by decide) (by decide) (fun t13 C_t13 X_t13 a_t13 b_t13 d_t13 w_t13 u_t13 v_t13 j_t13 l_t13 => ?_)
    have e_t13 := C_t13.2.2.2.1
    have I_n_t13 := I_n_t12.chd X_t13 j_t13
    have f_n_t13 : Fz t13 n := j_t13.2.2.2.2.1
    have I_m_mdt12_t13 : Nq t13 (m_md t12) := Nq.chn j_t13 (by omega) I_n_t12 (by decide)
    have u_m_mdt12_t13 : Up t13 (m_md t12) := Or.inl j_t13.2.1
    have la_n_t13 : m_la t13 n = (m_md t12) + 1 := j_t13.2.2.2.2.2.1
    have wl_n_t13 : m_wh t13 (m_md t12) = 23 := j_t13.1
    refine Kp_at C_t13 (fun t14 C_t14 X_t14 a_t14 b_t14 d_t14 w_t14 u_t14 v_t14 j_t14 l_t14 => ?_)
    have e_t14 := C_t14.2.2.2.1
    have I_n_t14 := I_n_t13.flat X_t14
    have f_n_t14 := f_n_t13.ex I_n_t13 (X_t14 0)
    have I_m_mdt12_t14 := I_m_mdt12_t13.flat X_t14
    have u_m_mdt12_t14 := u_m_mdt12_t13.ex I_m_mdt12_t13 (X_t14 0)
    have la_n_t14 : m_la t14 n = (m_md t12) + 1 := by rw [j_t14.2.2.1]; exact la_n_t13
    have wl_n_t14 : m_wh t14 ((m_md t12)) = 23 := by rw [j_t14.1]; exact wl_n_t13
    clear la_n_t13 wl_n_t13
    refine Ok_ife (Nat.lt_trans (lo_lt (C_t0.tk hT) _) (by decide)) (by decide) (fun q => absurd (hk0.symm.trans q) (by decide)) (fun _ => ?_)
    refine Kp_look C_t14 hT (by omega) ?_
    refine Ok_ife (Nat.lt_trans (lo_lt (C_t14.tk hT) _) (by decide)) (by decide) (fun q15 => ?_) (fun q15 => ?_)
    · refine Ok_ck (show (m_md t12) < 65536 from by omega) ?_
      refine Kp_wh C_t14 (by decide) (by decide) (by decide) (by decide) (fun t16 C_t16 X_t16 a_t16 b_t16 d_t16 w_t16 u_t16 v_t16 j_t16 l_t16 => ?_)
      have e_t16 := C_t16.2.2.2.1
      have I_n_t16 := I_n_t14.flat X_t16
      have f_n_t16 := f_n_t14.ex I_n_t14 (X_t16 0)
      have I_m_mdt12_t16 := I_m_mdt12_t14.flat X_t16
      have u_m_mdt12_t16 := u_m_mdt12_t14.ex I_m_mdt12_t14 (X_t16 0)
      have la_n_t16 : m_la t16 n = (m_md t12) + 1 := by rw [j_t16.2.2.1]; exact la_n_t14
      have wl_n_t16 : m_wh t16 ((m_md t12)) = 24 := by rw [j_t16.1]; exact upN_at
      refine Kp_at C_t16 (fun t17 C_t17 X_t17 a_t17 b_t17 d_t17 w_t17 u_t17 v_t17 j_t17 l_t17 => ?_)
      have e_t17 := C_t17.2.2.2.1
      have I_n_t17 := I_n_t16.flat X_t17
      have f_n_t17 := f_n_t16.ex I_n_t16 (X_t17 0)
      have I_m_mdt12_t17 := I_m_mdt12_t16.flat X_t17
      have u_m_mdt12_t17 := u_m_mdt12_t16.ex I_m_mdt12_t16 (X_t17 0)
      have la_n_t17 : m_la t17 n = (m_md t12) + 1 := by rw [j_t17.2.2.1]; exact la_n_t16
      have wl_n_t17 : m_wh t17 ((m_md t12)) = 24 := by rw [j_t17.1]; exact wl_n_t16
      clear la_n_t16 wl_n_t16
      refine Kp_push C_t17 (by omega) (fun t18 C_t18 X_t18 a_t18 b_t18 d_t18 w_t18 u_t18 v_t18 j_t18 l_t18 => ?_)
      have e_t18 := C_t18.2.2.2.1
      have I_n_t18 := I_n_t17.flat X_t18
      have f_n_t18 := f_n_t17.ex I_n_t17 (X_t18 0)
      have I_m_mdt12_t18 := I_m_mdt12_t17.flat X_t18
      have u_m_mdt12_t18 := u_m_mdt12_t17.ex I_m_mdt12_t17 (X_t18 0)
      have la_n_t18 : m_la t18 n = (m_md t12) + 1 := by rw [j_t18.2.2.1]; exact la_n_t17
      have wl_n_t18 : m_wh t18 ((m_md t12)) = 24 := by rw [j_t18.1]; exact wl_n_t17
      clear la_n_t17 wl_n_t17
      refine Ok_ret (show Ok _ _ _ from ?_)
      refine Ok_ret (show Ok _ _ _ from ?_)
      exact Or.inl ⟨Nat.ne_of_gt (show 0 < m_wr t18 from by omega), by omega, by omega, C_t18.2.2.2.2.2, by omega⟩
    · refine Kp_push C_t14 (by omega) (fun t19 C_t19 X_t19 a_t19 b_t19 d_t19 w_t19 u_t19 v_t19 j_t19 l_t19 => ?_)
      have e_t19 := C_t19.2.2.2.1
      have I_n_t19 := I_n_t14.flat X_t19
      have f_n_t19 := f_n_t14.ex I_n_t14 (X_t19 0)
      have I_m_mdt12_t19 := I_m_mdt12_t14.flat X_t19
      have u_m_mdt12_t19 := u_m_mdt12_t14.ex I_m_mdt12_t14 (X_t19 0)
      have la_n_t19 : m_la t19 n = (m_md t12) + 1 := by rw [j_t19.2.2.1]; exact la_n_t14
      have wl_n_t19 : m_wh t19 ((m_md t12)) = 23 := by rw [j_t19.1]; exact wl_n_t14
      clear la_n_t14 wl_n_t14
      refine Ok_ret (show Ok _ _ _ from ?_)
      refine Ok_ret (show Ok _ _ _ from ?_)
      exact Or.inl ⟨Nat.ne_of_gt (show 0 < m_wr t19 from by omega), by omega, by omega, C_t19.2.2.2.2.2, by omega⟩

