/-! The steps of the reference, one by one. -/
theorem S_18_o {t0 : Mm} {n t : Nat} {r : List It} (H : Hp t0 (18, n, t) r) {E : Mm → Prop} (hk0 : lo t0 (m_at t0) ≠ 1) (hk1 : lo t0 (m_at t0) ≠ 78) (hk2 : lo t0 (m_at t0) ≠ 80) (hk3 : lo t0 (m_at t0) ≠ 26) (hk4 : lo t0 (m_at t0) ≠ 12) (hk5 : lo t0 (m_at t0) ≠ 64) (hk6 : lo t0 (m_at t0) ≠ 42) (hk7 : lo t0 (m_at t0) ≠ 20) (hk8 : lo t0 (m_at t0) ≠ 31) : Ok (Qh (mz t0 ((18, n, t) :: r))) E (b_X6_step 18 n t t0) := by
  obtain ⟨hK, hT, hc, hw0, ha, hC, hS, hJ, hdp, hdl, hrw, hmd, htd, hln, hm16, hI, hD, hTt⟩ := Hp_out H
  have C_t0 := hC n
  have F0 := C_t0.2.1
  have I_n_t0 : Nq t0 n := ⟨(hI.2.1 rfl).1, (hI.2.1 rfl).2.1, (hI.2.1 rfl).2.2, hI.2.2.2 rfl⟩
  have m_n_t0 := I_n_t0.1
  have ht : t < 4096 := hI.1.1 (show 18 ≠ 42 by decide) (show 18 ≠ 48 by decide)
  have hdp : m_dp t0 = dlt 18 + sD r := hdp
  have hrw : m_rw t0 = rho 18 + sR r := hrw
  have hmd : m_md t0 + mu7 18 + sM r ≤ 3 * m_at t0 + 7 * r.length + 17 := hmd
  have hand : t &&& 1 ≤ 1 := Nat.and_le_right
  have h01 : (0 &&& 1 : Nat) = 0 := rfl
  have h02 : (1 : Nat) * 256 = 256 := rfl
  have hq1 : dlt 18 = 0 := rfl
  have hq2 : rho 18 = 0 := rfl
  have hq3 : mu7 18 = 5 := rfl
  unfold b_X6_step
  refine Ok_ifl (by decide) (by decide) (fun _ => ?_) (fun q => absurd (by decide) q)
  refine Ok_ifl (by decide) (by decide) (fun q => absurd q (by decide)) (fun _ => ?_)
  refine Ok_ifl (by decide) (by decide) (fun _ => ?_) (fun q => absurd (by decide) q)
  refine Ok_bnc ?_
  try unfold b_X6_typing
  refine Ok_ck (by decide) ?_
  refine Ok_ife (by decide) (by decide) (fun _ => ?_) (fun q => absurd (by decide) q)
  refine Ok_bnc ?_
  try unfold b_X6_type
  refine Kp_look C_t0 hT (by omega) ?_
  refine Ok_ife (Nat.lt_trans (lo_lt (C_t0.tk hT) _) (by decide)) (by decide) (fun q => absurd q hk0) (fun q => ?_)
  refine Ok_ck (Nat.lt_trans (lo_lt (C_t0.tk hT) _) (by decide)) ?_
  refine Ok_ifz (f6_beginsType _) (fun q3 => ?_) (fun q3 => ?_)
  · refine Kp_error C_t0 (by omega) (fun t4 C_t4 X_t4 a_t4 b_t4 d_t4 w_t4 u_t4 v_t4 j_t4 l_t4 => ?_)
    have wb_t4 := w_t4.2
    have w_t4 := Nat.pos_of_ne_zero w_t4.1
    have e_t4 := C_t4.2.2.2.1
    have I_n_t4 := I_n_t0.flat X_t4
    refine Ok_ret (show Ok _ _ _ from ?_)
    refine Ok_ret (show Ok _ _ _ from ?_)
    exact Or.inl ⟨Nat.ne_of_gt (show 0 < m_wr t4 from by omega), by omega, by omega, C_t4.2.2.2.2.2, by omega⟩
  · have q3n := Nat.pos_of_ne_zero (n6_beginsType q3)
    refine Kp_more C_t0 (by omega) (by omega) (fun t5 C_t5 X_t5 a_t5 b_t5 d_t5 w_t5 u_t5 v_t5 j_t5 l_t5 => ?_)
    have e_t5 := C_t5.2.2.2.1
    rcases w_t5 with ⟨w_t5, y_t5⟩ | ⟨w_t5, wb_t5⟩
    · rw [d_t5] at y_t5
      have I_n_t5 := I_n_t0.flat X_t5
      refine Kp_push C_t5 (by omega) (fun t6 C_t6 X_t6 a_t6 b_t6 d_t6 w_t6 u_t6 v_t6 j_t6 l_t6 => ?_)
      have e_t6 := C_t6.2.2.2.1
      rw [a_t5] at a_t6
      rw [b_t5] at b_t6
      rw [d_t5] at d_t6
      rw [w_t5] at w_t6
      rw [u_t5] at u_t6
      rw [v_t5] at v_t6
      clear d_t5 w_t5 u_t5 v_t5 e_t5 a_t5 b_t5
      have I_n_t6 := I_n_t5.flat X_t6
      refine Ok_ife (Nat.lt_trans (lo_lt (C_t0.tk hT) _) (by decide)) (by decide) (fun q => absurd q hk1) (fun q => ?_)
      refine Ok_ife (Nat.lt_trans (lo_lt (C_t0.tk hT) _) (by decide)) (by decide) (fun q => absurd q hk2) (fun q => ?_)
      refine Ok_ife (Nat.lt_trans (lo_lt (C_t0.tk hT) _) (by decide)) (by decide) (fun q => absurd q hk3) (fun q => ?_)
      refine Ok_ife (Nat.lt_trans (lo_lt (C_t0.tk hT) _) (by decide)) (by decide) (fun q => absurd q hk4) (fun q => ?_)
      refine Ok_ife (Nat.lt_trans (lo_lt (C_t0.tk hT) _) (by decide)) (by decide) (fun q => absurd q hk5) (fun q => ?_)
      refine Ok_ife (Nat.lt_trans (lo_lt (C_t0.tk hT) _) (by decide)) (by decide) (fun q => absurd q hk6) (fun q => ?_)
      refine Ok_ife (Nat.lt_trans (lo_lt (C_t0.tk hT) _) (by decide)) (by decide) (fun q => absurd q hk7) (fun q => ?_)
      refine Ok_ife (Nat.lt_trans (lo_lt (C_t0.tk hT) _) (by decide)) (by decide) (fun q => absurd q hk8) (fun q => ?_)
      refine Kp_child C_t6 I_n_t6.1 I_n_t6.2.1 I_n_t6.2.2.1 (by omega) (by omega) (by decide) (by decide) (fun t7 C_t7 X_t7 a_t7 b_t7 d_t7 w_t7 u_t7 v_t7 j_t7 l_t7 => ?_)
      have e_t7 := C_t7.2.2.2.1
      rw [a_t6] at a_t7
      rw [b_t6] at b_t7
      rw [d_t6] at d_t7
      rw [w_t6] at w_t7
      rw [u_t6] at u_t7
      rw [v_t6] at v_t7
      clear d_t6 w_t6 u_t6 v_t6 e_t6 a_t6
      have I_n_t7 := I_n_t6.chd X_t7 j_t7
      have f_n_t7 : Fz t7 n := j_t7.2.2.2.2.1
      have I_m_mdt6_t7 : Nq t7 (m_md t6) := Nq.chn j_t7 (by omega) I_n_t6 (by decide)
      have u_m_mdt6_t7 : Up t7 (m_md t6) := Or.inl j_t7.2.1
      have la_n_t7 : m_la t7 n = (m_md t6) + 1 := j_t7.2.2.2.2.2.1
      have wl_n_t7 : m_wh t7 (m_md t6) = 30 := j_t7.1
      have z_t8 : m_at t7 < m_ct t7 := lo_ne (Nat.ne_of_gt (show 0 < lo t7 (m_at t7) from by omega))
      refine Kp_at C_t7 (fun t8 C_t8 X_t8 a_t8 b_t8 d_t8 w_t8 u_t8 v_t8 j_t8 l_t8 => ?_)
      have e_t8 := C_t8.2.2.2.1
      rw [a_t7] at a_t8
      rw [b_t7] at b_t8
      rw [d_t7] at d_t8
      rw [w_t7] at w_t8
      rw [u_t7] at u_t8
      rw [v_t7] at v_t8
      rw [a_t7, e_t7] at z_t8
      clear d_t7 w_t7 u_t7 v_t7 e_t7 a_t7 b_t7
      have I_n_t8 := I_n_t7.flat X_t8
      have f_n_t8 := f_n_t7.ex I_n_t7 (X_t8 0)
      have I_m_mdt6_t8 := I_m_mdt6_t7.flat X_t8
      have u_m_mdt6_t8 := u_m_mdt6_t7.ex I_m_mdt6_t7 (X_t8 0)
      have la_n_t8 : m_la t8 n = (m_md t6) + 1 := by rw [j_t8.2.2.1]; exact la_n_t7
      have wl_n_t8 : m_wh t8 ((m_md t6)) = 30 := by rw [j_t8.1]; exact wl_n_t7
      clear la_n_t7 wl_n_t7
      refine Kp_look C_t8 hT (by omega) ?_
      refine Ok_ife (Nat.lt_trans (lo_lt (C_t8.tk hT) _) (by decide)) (by decide) (fun q9 => ?_) (fun q9 => ?_)
      · refine Kp_more C_t8 (by omega) (by omega) (fun t10 C_t10 X_t10 a_t10 b_t10 d_t10 w_t10 u_t10 v_t10 j_t10 l_t10 => ?_)
        have e_t10 := C_t10.2.2.2.1
        rcases w_t10 with ⟨w_t10, y_t10⟩ | ⟨w_t10, wb_t10⟩
        · rw [a_t8] at a_t10
          rw [b_t8] at b_t10
          rw [d_t8] at d_t10
          rw [w_t8] at w_t10
          rw [u_t8] at u_t10
          rw [v_t8] at v_t10
          rw [d_t10] at y_t10
          clear d_t8 w_t8 u_t8 v_t8 e_t8 a_t8 b_t8
          have I_n_t10 := I_n_t8.flat X_t10
          have f_n_t10 := f_n_t8.ex I_n_t8 (X_t10 0)
          have I_m_mdt6_t10 := I_m_mdt6_t8.flat X_t10
          have u_m_mdt6_t10 := u_m_mdt6_t8.ex I_m_mdt6_t8 (X_t10 0)
          have la_n_t10 : m_la t10 n = (m_md t6) + 1 := by rw [j_t10.2.2.1]; exact la_n_t8
          have wl_n_t10 : m_wh t10 ((m_md t6)) = 30 := by rw [j_t10.1]; exact wl_n_t8
          clear la_n_t8 wl_n_t8
          refine Kp_pass C_t10 hT (by omega) (by decide) (by omega) (fun t11 C_t11 X_t11 a_t11 b_t11 d_t11 w_t11 u_t11 v_t11 j_t11 l_t11 => ?_)
          have e_t11 := C_t11.2.2.2.1
          rcases w_t11 with ⟨w_t11, y_t11⟩ | ⟨w_t11, wb_t11⟩
          · have z_t11 : m_at t10 < m_ct t10 := lo_ne (Nat.ne_of_gt (show 0 < lo t10 (m_at t10) from by omega))
            rw [a_t10] at a_t11
            rw [b_t10] at b_t11
            rw [d_t10] at d_t11
            rw [w_t10] at w_t11
            rw [u_t10] at u_t11
            rw [v_t10] at v_t11
            rw [a_t10, e_t10] at z_t11
            clear z_t8
            clear d_t10 w_t10 u_t10 v_t10 e_t10 a_t10 b_t10
            have I_n_t11 := I_n_t10.flat X_t11
            have f_n_t11 := f_n_t10.ex I_n_t10 (X_t11 0)
            have I_m_mdt6_t11 := I_m_mdt6_t10.flat X_t11
            have u_m_mdt6_t11 := u_m_mdt6_t10.ex I_m_mdt6_t10 (X_t11 0)
            have la_n_t11 : m_la t11 n = (m_md t6) + 1 := by rw [j_t11.2.2.1]; exact la_n_t10
            have wl_n_t11 : m_wh t11 ((m_md t6)) = 30 := by rw [j_t11.1]; exact wl_n_t10
            clear la_n_t10 wl_n_t10
            refine Ok_ife (Nat.lt_trans (lo_lt (C_t0.tk hT) _) (by decide)) (by decide) (fun q => absurd q hk8) (fun q => ?_)
            refine Kp_push C_t11 (by omega) (fun t12 C_t12 X_t12 a_t12 b_t12 d_t12 w_t12 u_t12 v_t12 j_t12 l_t12 => ?_)
            have e_t12 := C_t12.2.2.2.1
            rw [a_t11] at a_t12
            rw [b_t11] at b_t12
            rw [d_t11] at d_t12
            rw [w_t11] at w_t12
            rw [u_t11] at u_t12
            rw [v_t11] at v_t12
            clear d_t11 w_t11 u_t11 v_t11 e_t11 a_t11 b_t11
            have I_n_t12 := I_n_t11.flat X_t12
            have f_n_t12 := f_n_t11.ex I_n_t11 (X_t12 0)
            have I_m_mdt6_t12 := I_m_mdt6_t11.flat X_t12
            have u_m_mdt6_t12 := u_m_mdt6_t11.ex I_m_mdt6_t11 (X_t12 0)
            have la_n_t12 : m_la t12 n = (m_md t6) + 1 := by rw [j_t12.2.2.1]; exact la_n_t11
            have wl_n_t12 : m_wh t12 ((m_md t6)) = 30 := by rw [j_t12.1]; exact wl_n_t11
            clear la_n_t11 wl_n_t11
            refine Ok_ret (show Ok _ _ _ from ?_)
            refine Ok_ret (show Ok _ _ _ from ?_)
            refine Hv_mk (Kv_c (x := (28, m_md t6, 0)) rfl (Kv_c (x := (6, n, 0)) rfl hK)) (C_t12.1.2.2.2.2.2.2 hTt) C_t12 hT (by omega) (by omega) (by omega) ?_ ?_ ?_ (by omega) ?_ ?_ ?_
            · exact ⟨(Io_n (by decide) (by decide) I_m_mdt6_t12.1 I_m_mdt6_t12.2.1 I_m_mdt6_t12.2.2.1 (fun q => absurd q (by decide)) (fun q => absurd q (by decide)) I_m_mdt6_t12.2.2.2), (Nd_0 (by decide) Mo_nil), ⟨(Io_6 (by decide)), (Nd_x (by decide)), Stk_step (N := n) (pop := (18, n, t)) (new := [(6, n, 0), (28, m_md t6, 0)]) F0 C_t12.1.to2 (fun (h : nk 18 = false) => absurd h (by decide)) (fun q _ h => h (18, n, t) rfl) (fun _ => rfl) (fun y hy hk => ⟨rfl, (Mo_cons (fun q => absurd (show nk 6 = true from q) (by decide)) (Mo_cons (fun q => show n ≤ m_md t6 from by omega) Mo_nil)) y hy hk⟩) (fun _ => Or.inl f_n_t12) (fun _ => (Or.inr (N5_mk f_n_t12 (Ab_some (y := (28, m_md t6, 0)) rfl (show n < m_md t6 from by omega)) la_n_t12 wl_n_t12 (Or.inl (by decide))))) (fun (h : 18 = 41 ∨ 18 = 42 ∨ 18 = 43) => absurd h (by decide)) r [] (fun y hy => absurd hy List.not_mem_nil) hS⟩⟩
            · exact (Aj_up (x := (28, m_md t6, 0)) (Aj_sub (y := (6, n, 0)) hJ (Nat.zero_le _)) (Or.inl (Nat.le_of_ble_eq_true rfl)))
            · show m_dp t12 = (dlt 28 + (dlt 6 + sD r))
              have : dlt 18 = 0 := rfl; have : dlt 28 = 1 := rfl; have : dlt 6 = 1 := rfl; omega
            · show m_rw t12 = (rho 28 + (rho 6 + sR r))
              have : rho 18 = 0 := rfl; have : rho 28 = 0 := rfl; have : rho 6 = 0 := rfl; omega
            · show m_md t12 + (mu7 28 + (mu7 6 + sM r)) ≤ 3 * m_at t12 + 7 * (r.length + 1 + 1) + 10
              have : mu7 18 = 5 := rfl; have : mu7 28 = 4 := rfl; have : mu7 6 = 7 := rfl; omega
            · show (wt 28 + (wt 6 + sW r)) + 6 * (4096 - m_at t12) + 4 * (600 - (r.length + 1 + 1)) < (wt 18 + sW r) + 6 * (4096 - m_at t0) + 4 * (600 - (r.length + 1))
              have : wt 18 = 0 := rfl; have : wt 28 = 0 := rfl; have : wt 6 = 5 := rfl; omega
          · have w_t11 := Nat.pos_of_ne_zero w_t11
            have I_n_t11 := I_n_t10.flat X_t11
            have f_n_t11 := f_n_t10.ex I_n_t10 (X_t11 0)
            have I_m_mdt6_t11 := I_m_mdt6_t10.flat X_t11
            have u_m_mdt6_t11 := u_m_mdt6_t10.ex I_m_mdt6_t10 (X_t11 0)
            have la_n_t11 : m_la t11 n = (m_md t6) + 1 := by rw [j_t11.2.2.1]; exact la_n_t10
            have wl_n_t11 : m_wh t11 ((m_md t6)) = 30 := by rw [j_t11.1]; exact wl_n_t10
            clear la_n_t10 wl_n_t10
            refine Ok_ife (Nat.lt_trans (lo_lt (C_t0.tk hT) _) (by decide)) (by decide) (fun q => absurd q hk8) (fun q => ?_)
            refine Kp_push C_t11 (by omega) (fun t13 C_t13 X_t13 a_t13 b_t13 d_t13 w_t13 u_t13 v_t13 j_t13 l_t13 => ?_)
            have e_t13 := C_t13.2.2.2.1
            have I_n_t13 := I_n_t11.flat X_t13
            have f_n_t13 := f_n_t11.ex I_n_t11 (X_t13 0)
            have I_m_mdt6_t13 := I_m_mdt6_t11.flat X_t13
            have u_m_mdt6_t13 := u_m_mdt6_t11.ex I_m_mdt6_t11 (X_t13 0)
            have la_n_t13 : m_la t13 n = (m_md t6) + 1 := by rw [j_t13.2.2.1]; exact la_n_t11
            have wl_n_t13 : m_wh t13 ((m_md t6)) = 30 := by rw [j_t13.1]; exact wl_n_t11
            clear la_n_t11 wl_n_t11
            refine Ok_ret (show Ok _ _ _ from ?_)
            refine Ok_ret (show Ok _ _ _ from ?_)
            exact Or.inl ⟨Nat.ne_of_gt (show 0 < m_wr t13 from by omega), by omega, by omega, C_t13.2.2.2.2.2, by omega⟩
        · have w_t10 := Nat.pos_of_ne_zero w_t10
          have I_n_t10 := I_n_t8.flat X_t10
          have f_n_t10 := f_n_t8.ex I_n_t8 (X_t10 0)
          have I_m_mdt6_t10 := I_m_mdt6_t8.flat X_t10
          have u_m_mdt6_t10 := u_m_mdt6_t8.ex I_m_mdt6_t8 (X_t10 0)
          have la_n_t10 : m_la t10 n = (m_md t6) + 1 := by rw [j_t10.2.2.1]; exact la_n_t8
          have wl_n_t10 : m_wh t10 ((m_md t6)) = 30 := by rw [j_t10.1]; exact wl_n_t8
          clear la_n_t8 wl_n_t8
          refine Kp_pass C_t10 hT (by omega) (by decide) (by omega) (fun t14 C_t14 X_t14 a_t14 b_t14 d_t14 w_t14 u_t14 v_t14 j_t14 l_t14 => ?_)
          have e_t14 := C_t14.2.2.2.1
          have w_t14 : 0 < m_wr t14 ∧ m_wr t14 ≤ m_wr t10 + m_at t10 + 1 := by omega
          have I_n_t14 := I_n_t10.flat X_t14
          have f_n_t14 := f_n_t10.ex I_n_t10 (X_t14 0)
          have I_m_mdt6_t14 := I_m_mdt6_t10.flat X_t14
          have u_m_mdt6_t14 := u_m_mdt6_t10.ex I_m_mdt6_t10 (X_t14 0)
          have la_n_t14 : m_la t14 n = (m_md t6) + 1 := by rw [j_t14.2.2.1]; exact la_n_t10
          have wl_n_t14 : m_wh t14 ((m_md t6)) = 30 := by rw [j_t14.1]; exact wl_n_t10
          clear la_n_t10 wl_n_t10
          refine Ok_ife (Nat.lt_trans (lo_lt (C_t0.tk hT) _) (by decide)) (by decide) (fun q => absurd q hk8) (fun q => ?_)
          refine Kp_push C_t14 (by omega) (fun t15 C_t15 X_t15 a_t15 b_t15 d_t15 w_t15 u_t15 v_t15 j_t15 l_t15 => ?_)
          have e_t15 := C_t15.2.2.2.1
          have I_n_t15 := I_n_t14.flat X_t15
          have f_n_t15 := f_n_t14.ex I_n_t14 (X_t15 0)
          have I_m_mdt6_t15 := I_m_mdt6_t14.flat X_t15
          have u_m_mdt6_t15 := u_m_mdt6_t14.ex I_m_mdt6_t14 (X_t15 0)
          have la_n_t15 : m_la t15 n = (m_md t6) + 1 := by rw [j_t15.2.2.1]; exact la_n_t14
          have wl_n_t15 : m_wh t15 ((m_md t6)) = 30 := by rw [j_t15.1]; exact wl_n_t14
          clear la_n_t14 wl_n_t14
          refine Ok_ret (show Ok _ _ _ from ?_)
          refine Ok_ret (show Ok _ _ _ from ?_)
          exact Or.inl ⟨Nat.ne_of_gt (show 0 < m_wr t15 from by omega), by omega, by omega, C_t15.2.2.2.2.2, by omega⟩
      · refine Kp_pass C_t8 hT (by omega) (by decide) (by omega) (fun t16 C_t16 X_t16 a_t16 b_t16 d_t16 w_t16 u_t16 v_t16 j_t16 l_t16 => ?_)
        have e_t16 := C_t16.2.2.2.1
        rcases w_t16 with ⟨w_t16, y_t16⟩ | ⟨w_t16, wb_t16⟩
        · have z_t16 : m_at t8 < m_ct t8 := lo_ne (Nat.ne_of_gt (show 0 < lo t8 (m_at t8) from by omega))
          rw [a_t8] at a_t16
          rw [b_t8] at b_t16
          rw [d_t8] at d_t16
          rw [w_t8] at w_t16
          rw [u_t8] at u_t16
          rw [v_t8] at v_t16
          rw [a_t8, e_t8] at z_t16
          clear z_t8
          clear d_t8 w_t8 u_t8 v_t8 e_t8 a_t8 b_t8
          have I_n_t16 := I_n_t8.flat X_t16
          have f_n_t16 := f_n_t8.ex I_n_t8 (X_t16 0)
          have I_m_mdt6_t16 := I_m_mdt6_t8.flat X_t16
          have u_m_mdt6_t16 := u_m_mdt6_t8.ex I_m_mdt6_t8 (X_t16 0)
          have la_n_t16 : m_la t16 n = (m_md t6) + 1 := by rw [j_t16.2.2.1]; exact la_n_t8
          have wl_n_t16 : m_wh t16 ((m_md t6)) = 30 := by rw [j_t16.1]; exact wl_n_t8
          clear la_n_t8 wl_n_t8
          refine Ok_ife (Nat.lt_trans (lo_lt (C_t0.tk hT) _) (by decide)) (by decide) (fun q => absurd q hk8) (fun q => ?_)
          refine Kp_push C_t16 (by omega) (fun t17 C_t17 X_t17 a_t17 b_t17 d_t17 w_t17 u_t17 v_t17 j_t17 l_t17 => ?_)
          have e_t17 := C_t17.2.2.2.1
          rw [a_t16] at a_t17
          rw [b_t16] at b_t17
          rw [d_t16] at d_t17
          rw [w_t16] at w_t17
          rw [u_t16] at u_t17
          rw [v_t16] at v_t17
          clear d_t16 w_t16 u_t16 v_t16 e_t16 a_t16 b_t16
          have I_n_t17 := I_n_t16.flat X_t17
          have f_n_t17 := f_n_t16.ex I_n_t16 (X_t17 0)
          have I_m_mdt6_t17 := I_m_mdt6_t16.flat X_t17
          have u_m_mdt6_t17 := u_m_mdt6_t16.ex I_m_mdt6_t16 (X_t17 0)
          have la_n_t17 : m_la t17 n = (m_md t6) + 1 := by rw [j_t17.2.2.1]; exact la_n_t16
          have wl_n_t17 : m_wh t17 ((m_md t6)) = 30 := by rw [j_t17.1]; exact wl_n_t16
          clear la_n_t16 wl_n_t16
          refine Ok_ret (show Ok _ _ _ from ?_)
          refine Ok_ret (show Ok _ _ _ from ?_)
          refine Hv_mk (Kv_c (x := (28, m_md t6, 0)) rfl (Kv_c (x := (6, n, 0)) rfl hK)) (C_t17.1.2.2.2.2.2.2 hTt) C_t17 hT (by omega) (by omega) (by omega) ?_ ?_ ?_ (by omega) ?_ ?_ ?_
          · exact ⟨(Io_n (by decide) (by decide) I_m_mdt6_t17.1 I_m_mdt6_t17.2.1 I_m_mdt6_t17.2.2.1 (fun q => absurd q (by decide)) (fun q => absurd q (by decide)) I_m_mdt6_t17.2.2.2), (Nd_0 (by decide) Mo_nil), ⟨(Io_6 (by decide)), (Nd_x (by decide)), Stk_step (N := n) (pop := (18, n, t)) (new := [(6, n, 0), (28, m_md t6, 0)]) F0 C_t17.1.to2 (fun (h : nk 18 = false) => absurd h (by decide)) (fun q _ h => h (18, n, t) rfl) (fun _ => rfl) (fun y hy hk => ⟨rfl, (Mo_cons (fun q => absurd (show nk 6 = true from q) (by decide)) (Mo_cons (fun q => show n ≤ m_md t6 from by omega) Mo_nil)) y hy hk⟩) (fun _ => Or.inl f_n_t17) (fun _ => (Or.inr (N5_mk f_n_t17 (Ab_some (y := (28, m_md t6, 0)) rfl (show n < m_md t6 from by omega)) la_n_t17 wl_n_t17 (Or.inl (by decide))))) (fun (h : 18 = 41 ∨ 18 = 42 ∨ 18 = 43) => absurd h (by decide)) r [] (fun y hy => absurd hy List.not_mem_nil) hS⟩⟩
          · exact (Aj_up (x := (28, m_md t6, 0)) (Aj_sub (y := (6, n, 0)) hJ (Nat.zero_le _)) (Or.inl (Nat.le_of_ble_eq_true rfl)))
          · show m_dp t17 = (dlt 28 + (dlt 6 + sD r))
            have : dlt 18 = 0 := rfl; have : dlt 28 = 1 := rfl; have : dlt 6 = 1 := rfl; omega
          · show m_rw t17 = (rho 28 + (rho 6 + sR r))
            have : rho 18 = 0 := rfl; have : rho 28 = 0 := rfl; have : rho 6 = 0 := rfl; omega
          · show m_md t17 + (mu7 28 + (mu7 6 + sM r)) ≤ 3 * m_at t17 + 7 * (r.length + 1 + 1) + 10
            have : mu7 18 = 5 := rfl; have : mu7 28 = 4 := rfl; have : mu7 6 = 7 := rfl; omega
          · show (wt 28 + (wt 6 + sW r)) + 6 * (4096 - m_at t17) + 4 * (600 - (r.length + 1 + 1)) < (wt 18 + sW r) + 6 * (4096 - m_at t0) + 4 * (600 - (r.length + 1))
            have : wt 18 = 0 := rfl; have : wt 28 = 0 := rfl; have : wt 6 = 5 := rfl; omega
        · have w_t16 := Nat.pos_of_ne_zero w_t16
          have I_n_t16 := I_n_t8.flat X_t16
          have f_n_t16 := f_n_t8.ex I_n_t8 (X_t16 0)
          have I_m_mdt6_t16 := I_m_mdt6_t8.flat X_t16
          have u_m_mdt6_t16 := u_m_mdt6_t8.ex I_m_mdt6_t8 (X_t16 0)
          have la_n_t16 : m_la t16 n = (m_md t6) + 1 := by rw [j_t16.2.2.1]; exact la_n_t8
          have wl_n_t16 : m_wh t16 ((m_md t6)) = 30 := by rw [j_t16.1]; exact wl_n_t8
          clear la_n_t8 wl_n_t8
          refine Ok_ife (Nat.lt_trans (lo_lt (C_t0.tk hT) _) (by decide)) (by decide) (fun q => absurd q hk8) (fun q => ?_)
          refine Kp_push C_t16 (by omega) (fun t18 C_t18 X_t18 a_t18 b_t18 d_t18 w_t18 u_t18 v_t18 j_t18 l_t18 => ?_)
          have e_t18 := C_t18.2.2.2.1
          have I_n_t18 := I_n_t16.flat X_t18
          have f_n_t18 := f_n_t16.ex I_n_t16 (X_t18 0)
          have I_m_mdt6_t18 := I_m_mdt6_t16.flat X_t18
          have u_m_mdt6_t18 := u_m_mdt6_t16.ex I_m_mdt6_t16 (X_t18 0)
          have la_n_t18 : m_la t18 n = (m_md t6) + 1 := by rw [j_t18.2.2.1]; exact la_n_t16
          have wl_n_t18 : m_wh t18 ((m_md t6)) = 30 := by rw [j_t18.1]; exact wl_n_t16
          clear la_n_t16 wl_n_t16
          refine Ok_ret (show Ok _ _ _ from ?_)
          refine Ok_ret (show Ok _ _ _ from ?_)
          exact Or.inl ⟨Nat.ne_of_gt (show 0 < m_wr t18 from by omega), by omega, by omega, C_t18.2.2.2.2.2, by omega⟩
    · have w_t5 := Nat.pos_of_ne_zero w_t5
      have I_n_t5 := I_n_t0.flat X_t5
      refine Kp_push C_t5 (by omega) (fun t19 C_t19 X_t19 a_t19 b_t19 d_t19 w_t19 u_t19 v_t19 j_t19 l_t19 => ?_)
      have e_t19 := C_t19.2.2.2.1
      have I_n_t19 := I_n_t5.flat X_t19
      refine Ok_ife (Nat.lt_trans (lo_lt (C_t0.tk hT) _) (by decide)) (by decide) (fun q => absurd q hk1) (fun q => ?_)
      refine Ok_ife (Nat.lt_trans (lo_lt (C_t0.tk hT) _) (by decide)) (by decide) (fun q => absurd q hk2) (fun q => ?_)
      refine Ok_ife (Nat.lt_trans (lo_lt (C_t0.tk hT) _) (by decide)) (by decide) (fun q => absurd q hk3) (fun q => ?_)
      refine Ok_ife (Nat.lt_trans (lo_lt (C_t0.tk hT) _) (by decide)) (by decide) (fun q => absurd q hk4) (fun q => ?_)
      refine Ok_ife (Nat.lt_trans (lo_lt (C_t0.tk hT) _) (by decide)) (by decide) (fun q => absurd q hk5) (fun q => ?_)
      refine Ok_ife (Nat.lt_trans (lo_lt (C_t0.tk hT) _) (by decide)) (by decide) (fun q => absurd q hk6) (fun q => ?_)
      refine Ok_ife (Nat.lt_trans (lo_lt (C_t0.tk hT) _) (by decide)) (by decide) (fun q => absurd q hk7) (fun q => ?_)
      refine Ok_ife (Nat.lt_trans (lo_lt (C_t0.tk hT) _) (by decide)) (by decide) (fun q => absurd q hk8) (fun q => ?_)
      refine Kp_child C_t19 I_n_t19.1 I_n_t19.2.1 I_n_t19.2.2.1 (by omega) (by omega) (by decide) (by decide) (fun t20 C_t20 X_t20 a_t20 b_t20 d_t20 w_t20 u_t20 v_t20 j_t20 l_t20 => ?_)
      have e_t20 := C_t20.2.2.2.1
      have I_n_t20 := I_n_t19.chd X_t20 j_t20
      have f_n_t20 : Fz t20 n := j_t20.2.2.2.2.1
      have I_m_mdt19_t20 : Nq t20 (m_md t19) := Nq.chn j_t20 (by omega) I_n_t19 (by decide)
      have u_m_mdt19_t20 : Up t20 (m_md t19) := Or.inl j_t20.2.1
      have la_n_t20 : m_la t20 n = (m_md t19) + 1 := j_t20.2.2.2.2.2.1
      have wl_n_t20 : m_wh t20 (m_md t19) = 30 := j_t20.1
      refine Kp_at C_t20 (fun t21 C_t21 X_t21 a_t21 b_t21 d_t21 w_t21 u_t21 v_t21 j_t21 l_t21 => ?_)
      have e_t21 := C_t21.2.2.2.1
      have I_n_t21 := I_n_t20.flat X_t21
      have f_n_t21 := f_n_t20.ex I_n_t20 (X_t21 0)
      have I_m_mdt19_t21 := I_m_mdt19_t20.flat X_t21
      have u_m_mdt19_t21 := u_m_mdt19_t20.ex I_m_mdt19_t20 (X_t21 0)
      have la_n_t21 : m_la t21 n = (m_md t19) + 1 := by rw [j_t21.2.2.1]; exact la_n_t20
      have wl_n_t21 : m_wh t21 ((m_md t19)) = 30 := by rw [j_t21.1]; exact wl_n_t20
      clear la_n_t20 wl_n_t20
      refine Kp_look C_t21 hT (by omega) ?_
      refine Ok_ife (Nat.lt_trans (lo_lt (C_t21.tk hT) _) (by decide)) (by decide) (fun q22 => ?_) (fun q22 => ?_)
      · refine Kp_more C_t21 (by omega) (by omega) (fun t23 C_t23 X_t23 a_t23 b_t23 d_t23 w_t23 u_t23 v_t23 j_t23 l_t23 => ?_)
        have e_t23 := C_t23.2.2.2.1
        have w_t23 : 0 < m_wr t23 ∧ m_wr t23 ≤ m_wr t21 + m_at t21 + 1 := by omega
        have I_n_t23 := I_n_t21.flat X_t23
        have f_n_t23 := f_n_t21.ex I_n_t21 (X_t23 0)
        have I_m_mdt19_t23 := I_m_mdt19_t21.flat X_t23
        have u_m_mdt19_t23 := u_m_mdt19_t21.ex I_m_mdt19_t21 (X_t23 0)
        have la_n_t23 : m_la t23 n = (m_md t19) + 1 := by rw [j_t23.2.2.1]; exact la_n_t21
        have wl_n_t23 : m_wh t23 ((m_md t19)) = 30 := by rw [j_t23.1]; exact wl_n_t21
        clear la_n_t21 wl_n_t21
        refine Kp_pass C_t23 hT (by omega) (by decide) (by omega) (fun t24 C_t24 X_t24 a_t24 b_t24 d_t24 w_t24 u_t24 v_t24 j_t24 l_t24 => ?_)
        have e_t24 := C_t24.2.2.2.1
        have w_t24 : 0 < m_wr t24 ∧ m_wr t24 ≤ m_wr t23 + m_at t23 + 1 := by omega
        have I_n_t24 := I_n_t23.flat X_t24
        have f_n_t24 := f_n_t23.ex I_n_t23 (X_t24 0)
        have I_m_mdt19_t24 := I_m_mdt19_t23.flat X_t24
        have u_m_mdt19_t24 := u_m_mdt19_t23.ex I_m_mdt19_t23 (X_t24 0)
        have la_n_t24 : m_la t24 n = (m_md t19) + 1 := by rw [j_t24.2.2.1]; exact la_n_t23
        have wl_n_t24 : m_wh t24 ((m_md t19)) = 30 := by rw [j_t24.1]; exact wl_n_t23
        clear la_n_t23 wl_n_t23
        refine Ok_ife (Nat.lt_trans (lo_lt (C_t0.tk hT) _) (by decide)) (by decide) (fun q => absurd q hk8) (fun q => ?_)
        refine Kp_push C_t24 (by omega) (fun t25 C_t25 X_t25 a_t25 b_t25 d_t25 w_t25 u_t25 v_t25 j_t25 l_t25 => ?_)
        have e_t25 := C_t25.2.2.2.1
        have I_n_t25 := I_n_t24.flat X_t25
        have f_n_t25 := f_n_t24.ex I_n_t24 (X_t25 0)
        have I_m_mdt19_t25 := I_m_mdt19_t24.flat X_t25
        have u_m_mdt19_t25 := u_m_mdt19_t24.ex I_m_mdt19_t24 (X_t25 0)
        have la_n_t25 : m_la t25 n = (m_md t19) + 1 := by rw [j_t25.2.2.1]; exact la_n_t24
        have wl_n_t25 : m_wh t25 ((m_md t19)) = 30 := by rw [j_t25.1]; exact wl_n_t24
        clear la_n_t24 wl_n_t24
        refine Ok_ret (show Ok _ _ _ from ?_)
        refine Ok_ret (show Ok _ _ _ from ?_)
        exact Or.inl ⟨Nat.ne_of_gt (show 0 < m_wr t25 from by omega), by omega, by omega, C_t25.2.2.2.2.2, by omega⟩
      · refine Kp_pass C_t21 hT (by omega) (by decide) (by omega) (fun t26 C_t26 X_t26 a_t26 b_t26 d_t26 w_t26 u_t26 v_t26 j_t26 l_t26 => ?_)
        have e_t26 := C_t26.2.2.2.1
        have w_t26 : 0 < m_wr t26 ∧ m_wr t26 ≤ m_wr t21 + m_at t21 + 1 := by omega
        have I_n_t26 := I_n_t21.flat X_t26
        have f_n_t26 := f_n_t21.ex I_n_t21 (X_t26 0)
        have I_m_mdt19_t26 := I_m_mdt19_t21.flat X_t26
        have u_m_mdt19_t26 := u_m_mdt19_t21.ex I_m_mdt19_t21 (X_t26 0)
        have la_n_t26 : m_la t26 n = (m_md t19) + 1 := by rw [j_t26.2.2.1]; exact la_n_t21
        have wl_n_t26 : m_wh t26 ((m_md t19)) = 30 := by rw [j_t26.1]; exact wl_n_t21
        clear la_n_t21 wl_n_t21
        refine Ok_ife (Nat.lt_trans (lo_lt (C_t0.tk hT) _) (by decide)) (by decide) (fun q => absurd q hk8) (fun q => ?_)
        refine Kp_push C_t26 (by omega) (fun t27 C_t27 X_t27 a_t27 b_t27 d_t27 w_t27 u_t27 v_t27 j_t27 l_t27 => ?_)
        have e_t27 := C_t27.2.2.2.1
        have I_n_t27 := I_n_t26.flat X_t27
        have f_n_t27 := f_n_t26.ex I_n_t26 (X_t27 0)
        have I_m_mdt19_t27 := I_m_mdt19_t26.flat X_t27
        have u_m_mdt19_t27 := u_m_mdt19_t26.ex I_m_mdt19_t26 (X_t27 0)
        have la_n_t27 : m_la t27 n = (m_md t19) + 1 := by rw [j_t27.2.2.1]; exact la_n_t26
        have wl_n_t27 : m_wh t27 ((m_md t19)) = 30 := by rw [j_t27.1]; exact wl_n_t26
        clear la_n_t26 wl_n_t26
        refine Ok_ret (show Ok _ _ _ from ?_)
        refine Ok_ret (show Ok _ _ _ from ?_)
        exact Or.inl ⟨Nat.ne_of_gt (show 0 < m_wr t27 from by omega), by omega, by omega, C_t27.2.2.2.2.2, by omega⟩

theorem S_18 {t0 : Mm} {n t : Nat} {r : List It} (H : Hp t0 (18, n, t) r) {E : Mm → Prop} : Ok (Qh (mz t0 ((18, n, t) :: r))) E (b_X6_step 18 n t t0) := by
  by_cases h1 : lo t0 (m_at t0) = 1
  · exact S_18_t1 H h1
  by_cases h78 : lo t0 (m_at t0) = 78
  · exact S_18_t78 H h78
  by_cases h80 : lo t0 (m_at t0) = 80
  · exact S_18_t80 H h80
  by_cases h26 : lo t0 (m_at t0) = 26
  · exact S_18_t26 H h26
  by_cases h12 : lo t0 (m_at t0) = 12
  · exact S_18_t12 H h12
  by_cases h64 : lo t0 (m_at t0) = 64
  · exact S_18_t64 H h64
  by_cases h42 : lo t0 (m_at t0) = 42
  · exact S_18_t42 H h42
  by_cases h20 : lo t0 (m_at t0) = 20
  · exact S_18_t20 H h20
  by_cases h31 : lo t0 (m_at t0) = 31
  · exact S_18_t31 H h31
  exact S_18_o H h1 h78 h80 h26 h12 h64 h42 h20 h31

theorem S_20 {t0 : Mm} {n t : Nat} {r : List It} (H : Hp t0 (20, n, t) r) {E : Mm → Prop} : Ok (Qh (mz t0 ((20, n, t) :: r))) E (b_X6_step 20 n t t0) := by
  obtain ⟨hK, hT, hc, hw0, ha, hC, hS, hJ, hdp, hdl, hrw, hmd, htd, hln, hm16, hI, hD, hTt⟩ := Hp_out H
  have C_t0 := hC n
  have F0 := C_t0.2.1
  have I_n_t0 : Nq t0 n := ⟨(hI.2.1 rfl).1, (hI.2.1 rfl).2.1, (hI.2.1 rfl).2.2, hI.2.2.2 rfl⟩
  have m_n_t0 := I_n_t0.1
  have ht : t < 4096 := hI.1.1 (show 20 ≠ 42 by decide) (show 20 ≠ 48 by decide)
  have hdp : m_dp t0 = dlt 20 + sD r := hdp
  have hrw : m_rw t0 = rho 20 + sR r := hrw
  have hmd : m_md t0 + mu7 20 + sM r ≤ 3 * m_at t0 + 7 * r.length + 17 := hmd
  have hand : t &&& 1 ≤ 1 := Nat.and_le_right
  have h01 : (0 &&& 1 : Nat) = 0 := rfl
  have h02 : (1 : Nat) * 256 = 256 := rfl
  have hq1 : dlt 20 = 1 := rfl
  have hq2 : rho 20 = 0 := rfl
  have hq3 : mu7 20 = 7 := rfl
  unfold b_X6_step
  refine Ok_ifl (by decide) (by decide) (fun _ => ?_) (fun q => absurd (by decide) q)
  refine Ok_ifl (by decide) (by decide) (fun q => absurd q (by decide)) (fun _ => ?_)
  refine Ok_ifl (by decide) (by decide) (fun _ => ?_) (fun q => absurd (by decide) q)
  refine Ok_bnc ?_
  try unfold b_X6_typing
  refine Ok_ck (by decide) ?_
  refine Ok_ife (by decide) (by decide) (fun q => absurd q (by decide)) (fun _ => ?_)
  refine Ok_ife (by decide) (by decide) (fun q => absurd q (by decide)) (fun _ => ?_)
  refine Ok_ife (by decide) (by decide) (fun _ => ?_) (fun q => absurd (by decide) q)
  refine Ok_bnc ?_
  try unfold b_X6_functionTail
  refine Kp_look C_t0 hT (by omega) ?_
  refine Ok_ife (Nat.lt_trans (lo_lt (C_t0.tk hT) _) (by decide)) (by decide) (fun q3 => ?_) (fun q3 => ?_)
  · refine Ok_ck (show n < 65536 from by omega) ?_
    refine Kp_wh C_t0 (by decide) (by decide) (by decide) (by decide) (fun t4 C_t4 X_t4 a_t4 b_t4 d_t4 w_t4 u_t4 v_t4 j_t4 l_t4 => ?_)
    have e_t4 := C_t4.2.2.2.1
    have I_n_t4 := I_n_t0.flat X_t4
    refine Kp_push C_t4 (by omega) (fun t5 C_t5 X_t5 a_t5 b_t5 d_t5 w_t5 u_t5 v_t5 j_t5 l_t5 => ?_)
    have e_t5 := C_t5.2.2.2.1
    rw [a_t4] at a_t5
    rw [b_t4] at b_t5
    rw [d_t4] at d_t5
    rw [w_t4] at w_t5
    rw [u_t4] at u_t5
    rw [v_t4] at v_t5
    clear d_t4 w_t4 u_t4 v_t4 e_t4 a_t4 b_t4
    have I_n_t5 := I_n_t4.flat X_t5
    refine Ok_bnc ?_
    try unfold b_X6_block
    refine Kp_look C_t5 hT (by omega) ?_
    refine Ok_ife (Nat.lt_trans (lo_lt (C_t5.tk hT) _) (by decide)) (by decide) (fun q7 => ?_) (fun q7 => ?_)
    · refine Kp_child C_t5 I_n_t5.1 I_n_t5.2.1 I_n_t5.2.2.1 (by omega) (by omega) (by decide) (by decide) (fun t8 C_t8 X_t8 a_t8 b_t8 d_t8 w_t8 u_t8 v_t8 j_t8 l_t8 => ?_)
      have e_t8 := C_t8.2.2.2.1
      rw [a_t5] at a_t8
      rw [b_t5] at b_t8
      rw [d_t5] at d_t8
      rw [w_t5] at w_t8
      rw [u_t5] at u_t8
      rw [v_t5] at v_t8
      clear d_t5 w_t5 u_t5 v_t5 e_t5 a_t5
      have I_n_t8 := I_n_t5.chd X_t8 j_t8
      have f_n_t8 : Fz t8 n := j_t8.2.2.2.2.1
      have I_m_mdt5_t8 : Nq t8 (m_md t5) := Nq.chn j_t8 (by omega) I_n_t5 (by decide)
      have u_m_mdt5_t8 : Up t8 (m_md t5) := Or.inl j_t8.2.1
      refine Kp_more C_t8 (by omega) (by omega) (fun t9 C_t9 X_t9 a_t9 b_t9 d_t9 w_t9 u_t9 v_t9 j_t9 l_t9 => ?_)
      have e_t9 := C_t9.2.2.2.1
      rcases w_t9 with ⟨w_t9, y_t9⟩ | ⟨w_t9, wb_t9⟩
      · rw [a_t8] at a_t9
        rw [b_t8] at b_t9
        rw [d_t8] at d_t9
        rw [w_t8] at w_t9
        rw [u_t8] at u_t9
        rw [v_t8] at v_t9
        rw [d_t9] at y_t9
        clear d_t8 w_t8 u_t8 v_t8 e_t8 a_t8 b_t8
        have I_n_t9 := I_n_t8.flat X_t9
        have f_n_t9 := f_n_t8.ex I_n_t8 (X_t9 0)
        have I_m_mdt5_t9 := I_m_mdt5_t8.flat X_t9
        have u_m_mdt5_t9 := u_m_mdt5_t8.ex I_m_mdt5_t8 (X_t9 0)
        have z_t10 : m_at t9 < m_ct t9 := lo_ne (Nat.ne_of_gt (show 0 < lo t9 (m_at t9) from by omega))
        refine Kp_at C_t9 (fun t10 C_t10 X_t10 a_t10 b_t10 d_t10 w_t10 u_t10 v_t10 j_t10 l_t10 => ?_)
        have e_t10 := C_t10.2.2.2.1
        rw [a_t9] at a_t10
        rw [b_t9] at b_t10
        rw [d_t9] at d_t10
        rw [w_t9] at w_t10
        rw [u_t9] at u_t10
        rw [v_t9] at v_t10
        rw [a_t9, e_t9] at z_t10
        clear d_t9 w_t9 u_t9 v_t9 e_t9 a_t9 b_t9
        have I_n_t10 := I_n_t9.flat X_t10
        have f_n_t10 := f_n_t9.ex I_n_t9 (X_t10 0)
        have I_m_mdt5_t10 := I_m_mdt5_t9.flat X_t10
        have u_m_mdt5_t10 := u_m_mdt5_t9.ex I_m_mdt5_t9 (X_t10 0)
        refine Kp_push C_t10 (by omega) (fun t11 C_t11 X_t11 a_t11 b_t11 d_t11 w_t11 u_t11 v_t11 j_t11 l_t11 => ?_)
        have e_t11 := C_t11.2.2.2.1
        rw [a_t10] at a_t11
        rw [b_t10] at b_t11
        rw [d_t10] at d_t11
        rw [w_t10] at w_t11
        rw [u_t10] at u_t11
        rw [v_t10] at v_t11
        clear d_t10 w_t10 u_t10 v_t10 e_t10 a_t10 b_t10
        have I_n_t11 := I_n_t10.flat X_t11
        have f_n_t11 := f_n_t10.ex I_n_t10 (X_t11 0)
        have I_m_mdt5_t11 := I_m_mdt5_t10.flat X_t11
        have u_m_mdt5_t11 := u_m_mdt5_t10.ex I_m_mdt5_t10 (X_t11 0)
        refine Kp_push C_t11 (by omega) (fun t12 C_t12 X_t12 a_t12 b_t12 d_t12 w_t12 u_t12 v_t12 j_t12 l_t12 => ?_)
        have e_t12 := C_t12.2.2.2.1
        rw [a_t11] at a_t12
        rw [b_t11] at b_t12
        rw [d_t11] at d_t12
        rw [w_t11] at w_t12
        rw [u_t11] at u_t12
        rw [v_t11] at v_t12
        clear d_t11 w_t11 u_t11 v_t11 e_t11 a_t11 b_t11
        have I_n_t12 := I_n_t11.flat X_t12
        have f_n_t12 := f_n_t11.ex I_n_t11 (X_t12 0)
        have I_m_mdt5_t12 := I_m_mdt5_t11.flat X_t12
        have u_m_mdt5_t12 := u_m_mdt5_t11.ex I_m_mdt5_t11 (X_t12 0)
        refine Ok_ret (show Ok _ _ _ from ?_)
        refine Ok_ret (show Ok _ _ _ from ?_)
        refine Ok_ret (show Ok _ _ _ from ?_)
        refine Hv_mk (Kv_c (x := (39, m_md t5, 0)) rfl (Kv_c (x := (8, 83, 0)) rfl (Kv_c (x := (6, n, 0)) rfl hK))) (C_t12.1.2.2.2.2.2.2 hTt) C_t12 hT (by omega) (by omega) (by omega) ?_ ?_ ?_ (by omega) ?_ ?_ ?_
        · exact ⟨(Io_n (by decide) (by decide) I_m_mdt5_t12.1 I_m_mdt5_t12.2.1 I_m_mdt5_t12.2.2.1 (fun _ => u_m_mdt5_t12) (fun q => absurd q (by decide)) I_m_mdt5_t12.2.2.2), (Nd_0 (by decide) Mo_nil), ⟨(Io_78 (by decide) (by decide) (by decide)), (Nd_x (by decide)), ⟨(Io_6 (by decide)), (Nd_x (by decide)), Stk_step (N := n) (pop := (20, n, t)) (new := [(6, n, 0), (8, 83, 0), (39, m_md t5, 0)]) F0 C_t12.1.to2 (fun (h : nk 20 = false) => absurd h (by decide)) (fun q _ h => h (20, n, t) rfl) (fun _ => rfl) (fun y hy hk => ⟨rfl, (Mo_cons (fun q => absurd (show nk 6 = true from q) (by decide)) (Mo_cons (fun q => absurd (show nk 8 = true from q) (by decide)) (Mo_cons (fun q => show n ≤ m_md t5 from by omega) Mo_nil))) y hy hk⟩) (fun (h : 20 = 3 ∨ 20 = 18 ∨ 20 = 41) => absurd h (by decide)) (fun (h : 20 = 18) => absurd h (by decide)) (fun (h : 20 = 41 ∨ 20 = 42 ∨ 20 = 43) => absurd h (by decide)) r [] (fun y hy => absurd hy List.not_mem_nil) hS⟩⟩⟩
        · exact (Aj_up (x := (39, m_md t5, 0)) (Aj_up (x := (8, 83, 0)) (Aj_sub (y := (6, n, 0)) hJ (Nat.le_of_ble_eq_true rfl)) (Or.inl (Nat.le_of_ble_eq_true rfl))) (Or.inl (Nat.le_of_ble_eq_true rfl)))
        · show m_dp t12 = (dlt 39 + (dlt 8 + (dlt 6 + sD r)))
          have : dlt 20 = 1 := rfl; have : dlt 39 = 0 := rfl; have : dlt 6 = 1 := rfl; have : dlt 8 = 1 := rfl; omega
        · show m_rw t12 = (rho 39 + (rho 8 + (rho 6 + sR r)))
          have : rho 20 = 0 := rfl; have : rho 39 = 0 := rfl; have : rho 6 = 0 := rfl; have : rho 8 = 0 := rfl; omega
        · show m_md t12 + (mu7 39 + (mu7 8 + (mu7 6 + sM r))) ≤ 3 * m_at t12 + 7 * (r.length + 1 + 1 + 1) + 10
          have : mu7 20 = 7 := rfl; have : mu7 39 = 7 := rfl; have : mu7 6 = 7 := rfl; have : mu7 8 = 4 := rfl; omega
        · show (wt 39 + (wt 8 + (wt 6 + sW r))) + 6 * (4096 - m_at t12) + 4 * (600 - (r.length + 1 + 1 + 1)) < (wt 20 + sW r) + 6 * (4096 - m_at t0) + 4 * (600 - (r.length + 1))
          have : wt 20 = 5 := rfl; have : wt 39 = 9 := rfl; have : wt 6 = 5 := rfl; have : wt 8 = 0 := rfl; omega
      · have w_t9 := Nat.pos_of_ne_zero w_t9
        have I_n_t9 := I_n_t8.flat X_t9
        have f_n_t9 := f_n_t8.ex I_n_t8 (X_t9 0)
        have I_m_mdt5_t9 := I_m_mdt5_t8.flat X_t9
        have u_m_mdt5_t9 := u_m_mdt5_t8.ex I_m_mdt5_t8 (X_t9 0)
        refine Kp_at C_t9 (fun t13 C_t13 X_t13 a_t13 b_t13 d_t13 w_t13 u_t13 v_t13 j_t13 l_t13 => ?_)
        have e_t13 := C_t13.2.2.2.1
        have I_n_t13 := I_n_t9.flat X_t13
        have f_n_t13 := f_n_t9.ex I_n_t9 (X_t13 0)
        have I_m_mdt5_t13 := I_m_mdt5_t9.flat X_t13
        have u_m_mdt5_t13 := u_m_mdt5_t9.ex I_m_mdt5_t9 (X_t13 0)
        refine Kp_push C_t13 (by omega) (fun t14 C_t14 X_t14 a_t14 b_t14 d_t14 w_t14 u_t14 v_t14 j_t14 l_t14 => ?_)
        have e_t14 := C_t14.2.2.2.1
        have I_n_t14 := I_n_t13.flat X_t14
        have f_n_t14 := f_n_t13.ex I_n_t13 (X_t14 0)
        have I_m_mdt5_t14 := I_m_mdt5_t13.flat X_t14
        have u_m_mdt5_t14 := u_m_mdt5_t13.ex I_m_mdt5_t13 (X_t14 0)
        refine Kp_push C_t14 (by omega) (fun t15 C_t15 X_t15 a_t15 b_t15 d_t15 w_t15 u_t15 v_t15 j_t15 l_t15 => ?_)
        have e_t15 := C_t15.2.2.2.1
        have I_n_t15 := I_n_t14.flat X_t15
        have f_n_t15 := f_n_t14.ex I_n_t14 (X_t15 0)
        have I_m_mdt5_t15 := I_m_mdt5_t14.flat X_t15
        have u_m_mdt5_t15 := u_m_mdt5_t14.ex I_m_mdt5_t14 (X_t15 0)
        refine Ok_ret (show Ok _ _ _ from ?_)
        refine Ok_ret (show Ok _ _ _ from ?_)
        refine Ok_ret (show Ok _ _ _ from ?_)
        exact Or.inl ⟨Nat.ne_of_gt (show 0 < m_wr t15 from by omega), by omega, by omega, C_t15.2.2.2.2.2, by omega⟩
    · refine Kp_error C_t5 (by omega) (fun t16 C_t16 X_t16 a_t16 b_t16 d_t16 w_t16 u_t16 v_t16 j_t16 l_t16 => ?_)
      have wb_t16 := w_t16.2
      have w_t16 := Nat.pos_of_ne_zero w_t16.1
      have e_t16 := C_t16.2.2.2.1
      have I_n_t16 := I_n_t5.flat X_t16
      refine Ok_ret (show Ok _ _ _ from ?_)
      refine Ok_ret (show Ok _ _ _ from ?_)
      refine Ok_ret (show Ok _ _ _ from ?_)
      exact Or.inl ⟨Nat.ne_of_gt (show 0 < m_wr t16 from by omega), by omega, by omega, C_t16.2.2.2.2.2, by omega⟩
  · refine Ok_ck (show (m_dp t0) ≠ 0 from by omega) ?_
    refine Kp_dp C_t0 (fun t17 C_t17 X_t17 a_t17 b_t17 d_t17 w_t17 u_t17 v_t17 j_t17 l_t17 => ?_)
    have e_t17 := C_t17.2.2.2.1
    have I_n_t17 := I_n_t0.flat X_t17
    refine Ok_ret (show Ok _ _ _ from ?_)
    refine Ok_ret (show Ok _ _ _ from ?_)
    refine Hv_mk hK (C_t17.1.2.2.2.2.2.2 hTt) C_t17 hT (by omega) (by omega) (by omega) ?_ ?_ ?_ (by omega) ?_ ?_ ?_
    · exact Stk_step (N := n) (pop := (20, n, t)) (new := []) F0 C_t17.1.to2 (fun (h : nk 20 = false) => absurd h (by decide)) (fun q _ h => h (20, n, t) rfl) (fun _ => rfl) (fun y hy hk => ⟨rfl, Mo_nil (n := n) y hy hk⟩) (fun (h : 20 = 3 ∨ 20 = 18 ∨ 20 = 41) => absurd h (by decide)) (fun (h : 20 = 18) => absurd h (by decide)) (fun (h : 20 = 41 ∨ 20 = 42 ∨ 20 = 43) => absurd h (by decide)) r [] (fun y hy => absurd hy List.not_mem_nil) hS
    · exact Aj_tl hJ
    · show m_dp t17 = sD r
      have : dlt 20 = 1 := rfl; omega
    · show m_rw t17 = sR r
      have : rho 20 = 0 := rfl; omega
    · show m_md t17 + sM r ≤ 3 * m_at t17 + 7 * (r.length) + 10
      have : mu7 20 = 7 := rfl; omega
    · show sW r + 6 * (4096 - m_at t17) + 4 * (600 - (r.length)) < (wt 20 + sW r) + 6 * (4096 - m_at t0) + 4 * (600 - (r.length + 1))
      have : wt 20 = 5 := rfl; omega

theorem S_21 {t0 : Mm} {n t : Nat} {r : List It} (H : Hp t0 (21, n, t) r) {E : Mm → Prop} : Ok (Qh (mz t0 ((21, n, t) :: r))) E (b_X6_step 21 n t t0) := by
  obtain ⟨hK, hT, hc, hw0, ha, hC, hS, hJ, hdp, hdl, hrw, hmd, htd, hln, hm16, hI, hD, hTt⟩ := Hp_out H
  have C_t0 := hC n
  have F0 := C_t0.2.1
  have I_n_t0 : Nq t0 n := ⟨(hI.2.1 rfl).1, (hI.2.1 rfl).2.1, (hI.2.1 rfl).2.2, hI.2.2.2 rfl⟩
  have m_n_t0 := I_n_t0.1
  have ht : t < 4096 := hI.1.1 (show 21 ≠ 42 by decide) (show 21 ≠ 48 by decide)
  have hdp : m_dp t0 = dlt 21 + sD r := hdp
  have hrw : m_rw t0 = rho 21 + sR r := hrw
  have hmd : m_md t0 + mu7 21 + sM r ≤ 3 * m_at t0 + 7 * r.length + 17 := hmd
  have hand : t &&& 1 ≤ 1 := Nat.and_le_right
  have h01 : (0 &&& 1 : Nat) = 0 := rfl
  have h02 : (1 : Nat) * 256 = 256 := rfl
  have hq1 : dlt 21 = 0 := rfl
  have hq2 : rho 21 = 0 := rfl
  have hq3 : mu7 21 = 3 := rfl
  unfold b_X6_step
  refine Ok_ifl (by decide) (by decide) (fun _ => ?_) (fun q => absurd (by decide) q)
  refine Ok_ifl (by decide) (by decide) (fun q => absurd q (by decide)) (fun _ => ?_)
  refine Ok_ifl (by decide) (by decide) (fun _ => ?_) (fun q => absurd (by decide) q)
  refine Ok_bnc ?_
  try unfold b_X6_typing
  refine Ok_ck (by decide) ?_
  refine Ok_ife (by decide) (by decide) (fun q => absurd q (by decide)) (fun _ => ?_)
  refine Ok_ife (by decide) (by decide) (fun q => absurd q (by decide)) (fun _ => ?_)
  refine Ok_ife (by decide) (by decide) (fun q => absurd q (by decide)) (fun _ => ?_)
  refine Ok_ife (by decide) (by decide) (fun _ => ?_) (fun q => absurd (by decide) q)
  refine Ok_bnc ?_
  try unfold b_X6_signature
  refine Kp_look C_t0 hT (by omega) ?_
  refine Ok_ife (Nat.lt_trans (lo_lt (C_t0.tk hT) _) (by decide)) (by decide) (fun q3 => ?_) (fun q3 => ?_)
  · refine Kp_child C_t0 I_n_t0.1 I_n_t0.2.1 I_n_t0.2.2.1 (by omega) (by omega) (by decide) (by decide) (fun t4 C_t4 X_t4 a_t4 b_t4 d_t4 w_t4 u_t4 v_t4 j_t4 l_t4 => ?_)
    have e_t4 := C_t4.2.2.2.1
    have I_n_t4 := I_n_t0.chd X_t4 j_t4
    have f_n_t4 : Fz t4 n := j_t4.2.2.2.2.1
    have I_m_mdt0_t4 : Nq t4 (m_md t0) := Nq.chn j_t4 (by omega) I_n_t0 (by decide)
    have u_m_mdt0_t4 : Up t4 (m_md t0) := Or.inl j_t4.2.1
    refine Kp_push C_t4 (by omega) (fun t5 C_t5 X_t5 a_t5 b_t5 d_t5 w_t5 u_t5 v_t5 j_t5 l_t5 => ?_)
    have e_t5 := C_t5.2.2.2.1
    rw [a_t4] at a_t5
    rw [b_t4] at b_t5
    rw [d_t4] at d_t5
    rw [w_t4] at w_t5
    rw [u_t4] at u_t5
    rw [v_t4] at v_t5
    clear d_t4 w_t4 u_t4 v_t4 e_t4 a_t4 b_t4
    have I_n_t5 := I_n_t4.flat X_t5
    have f_n_t5 := f_n_t4.ex I_n_t4 (X_t5 0)
    have I_m_mdt0_t5 := I_m_mdt0_t4.flat X_t5
    have u_m_mdt0_t5 := u_m_mdt0_t4.ex I_m_mdt0_t4 (X_t5 0)
    refine Kp_push C_t5 (by omega) (fun t6 C_t6 X_t6 a_t6 b_t6 d_t6 w_t6 u_t6 v_t6 j_t6 l_t6 => ?_)
    have e_t6 := C_t6.2.2.2.1
    rw [a_t5] at a_t6
    rw [b_t5] at b_t6
    rw [d_t5] at d_t6
    rw [w_t5] at w_t6
    rw [u_t5] at u_t6
    rw [v_t5] at v_t6
    clear d_t5 w_t5 u_t5 v_t5 e_t5 a_t5 b_t5
    have I_n_t6 := I_n_t5.flat X_t6
    have f_n_t6 := f_n_t5.ex I_n_t5 (X_t6 0)
    have I_m_mdt0_t6 := I_m_mdt0_t5.flat X_t6
    have u_m_mdt0_t6 := u_m_mdt0_t5.ex I_m_mdt0_t5 (X_t6 0)
    refine Ok_ret (show Ok _ _ _ from ?_)
    refine Ok_ret (show Ok _ _ _ from ?_)
    refine Hv_mk (Kv_c (x := (23, m_md t0, 0)) rfl (Kv_c (x := (22, m_md t0, 0)) rfl hK)) (C_t6.1.2.2.2.2.2.2 hTt) C_t6 hT (by omega) (by omega) (by omega) ?_ ?_ ?_ (by omega) ?_ ?_ ?_
    · exact ⟨(Io_n (by decide) (by decide) I_m_mdt0_t6.1 I_m_mdt0_t6.2.1 I_m_mdt0_t6.2.2.1 (fun q => absurd q (by decide)) (fun q => absurd q (by decide)) I_m_mdt0_t6.2.2.2), (Nd_23 (Nat.ne_of_gt (show 0 < lo t6 (m_at t6) from by omega))), ⟨(Io_n (by decide) (by decide) I_m_mdt0_t6.1 I_m_mdt0_t6.2.1 I_m_mdt0_t6.2.2.1 (fun q => absurd q (by decide)) (fun q => absurd q (by decide)) I_m_mdt0_t6.2.2.2), (Nd_0 (by decide) (Mo_cons (fun q => show m_md t0 ≤ m_md t0 from by omega) Mo_nil)), Stk_step (N := n) (pop := (21, n, t)) (new := [(22, m_md t0, 0), (23, m_md t0, 0)]) F0 C_t6.1.to2 (fun (h : nk 21 = false) => absurd h (by decide)) (fun q _ h => h (21, n, t) rfl) (fun _ => rfl) (fun y hy hk => ⟨rfl, (Mo_cons (fun q => show n ≤ m_md t0 from by omega) (Mo_cons (fun q => show n ≤ m_md t0 from by omega) Mo_nil)) y hy hk⟩) (fun (h : 21 = 3 ∨ 21 = 18 ∨ 21 = 41) => absurd h (by decide)) (fun (h : 21 = 18) => absurd h (by decide)) (fun (h : 21 = 41 ∨ 21 = 42 ∨ 21 = 43) => absurd h (by decide)) r [] (fun y hy => absurd hy List.not_mem_nil) hS⟩⟩
    · exact (Aj_up (x := (23, m_md t0, 0)) (Aj_sub (y := (22, m_md t0, 0)) hJ (Nat.le_of_ble_eq_true rfl)) (Or.inr (Nat.le_of_ble_eq_true rfl)))
    · show m_dp t6 = (dlt 23 + (dlt 22 + sD r))
      have : dlt 21 = 0 := rfl; have : dlt 22 = 0 := rfl; have : dlt 23 = 0 := rfl; omega
    · show m_rw t6 = (rho 23 + (rho 22 + sR r))
      have : rho 21 = 0 := rfl; have : rho 22 = 0 := rfl; have : rho 23 = 0 := rfl; omega
    · show m_md t6 + (mu7 23 + (mu7 22 + sM r)) ≤ 3 * m_at t6 + 7 * (r.length + 1 + 1) + 10
      have : mu7 21 = 3 := rfl; have : mu7 22 = 7 := rfl; have : mu7 23 = 2 := rfl; omega
    · show (wt 23 + (wt 22 + sW r)) + 6 * (4096 - m_at t6) + 4 * (600 - (r.length + 1 + 1)) < (wt 21 + sW r) + 6 * (4096 - m_at t0) + 4 * (600 - (r.length + 1))
      have : wt 21 = 2 := rfl; have : wt 22 = 5 := rfl; have : wt 23 = 0 := rfl; omega
  · refine Kp_error C_t0 (by omega) (fun t7 C_t7 X_t7 a_t7 b_t7 d_t7 w_t7 u_t7 v_t7 j_t7 l_t7 => ?_)
    have wb_t7 := w_t7.2
    have w_t7 := Nat.pos_of_ne_zero w_t7.1
    have e_t7 := C_t7.2.2.2.1
    have I_n_t7 := I_n_t0.flat X_t7
    refine Ok_ret (show Ok _ _ _ from ?_)
    refine Ok_ret (show Ok _ _ _ from ?_)
    exact Or.inl ⟨Nat.ne_of_gt (show 0 < m_wr t7 from by omega), by omega, by omega, C_t7.2.2.2.2.2, by omega⟩

