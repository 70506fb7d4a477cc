/-! The steps of the reference, one by one. -/
theorem S_54_t33 {t0 : Mm} {n t : Nat} {r : List It} (H : Hp t0 (54, n, t) r) {E : Mm → Prop} (hk0 : lo t0 (m_at t0) = 33) : Ok (Qh (mz t0 ((54, n, t) :: r))) E (b_X6_step 54 n t t0) := by
  obtain ⟨hK, hT, hc, hw0, ha, hC, hS, hJ, hdp, hdl, hrw, hmd, htd, hln, hm16, hI, hD, hTt⟩ := Hp_out H
  have C_t0 := hC n
  have F0 := C_t0.2.1
  have I_n_t0 : Nq t0 n := ⟨(hI.2.1 rfl).1, (hI.2.1 rfl).2.1, (hI.2.1 rfl).2.2, hI.2.2.2 rfl⟩
  have m_n_t0 := I_n_t0.1
  have ht : t < 4096 := hI.1.1 (show 54 ≠ 42 by decide) (show 54 ≠ 48 by decide)
  have hdp : m_dp t0 = dlt 54 + sD r := hdp
  have hrw : m_rw t0 = rho 54 + sR r := hrw
  have hmd : m_md t0 + mu7 54 + sM r ≤ 3 * m_at t0 + 7 * r.length + 17 := hmd
  have hand : t &&& 1 ≤ 1 := Nat.and_le_right
  have h01 : (0 &&& 1 : Nat) = 0 := rfl
  have h02 : (1 : Nat) * 256 = 256 := rfl
  have hq1 : dlt 54 = 0 := rfl
  have hq2 : rho 54 = 0 := rfl
  have hq3 : mu7 54 = 7 := rfl
  unfold b_X6_step
  refine Ok_ifl (by decide) (by decide) (fun _ => ?_) (fun q => absurd (by decide) q)
  refine Ok_ifl (by decide) (by decide) (fun q => absurd q (by decide)) (fun _ => ?_)
  refine Ok_ifl (by decide) (by decide) (fun q => absurd q (by decide)) (fun _ => ?_)
  refine Ok_ifl (by decide) (by decide) (fun q => absurd q (by decide)) (fun _ => ?_)
  refine Ok_bnc ?_
  try unfold b_X6_stating
  refine Ok_ck (by decide) ?_
  refine Ok_ife (by decide) (by decide) (fun q => absurd q (by decide)) (fun _ => ?_)
  refine Ok_ife (by decide) (by decide) (fun q => absurd q (by decide)) (fun _ => ?_)
  refine Ok_ife (by decide) (by decide) (fun q => absurd q (by decide)) (fun _ => ?_)
  refine Ok_ife (by decide) (by decide) (fun q => absurd q (by decide)) (fun _ => ?_)
  refine Ok_ife (by decide) (by decide) (fun q => absurd q (by decide)) (fun _ => ?_)
  refine Ok_ife (by decide) (by decide) (fun q => absurd q (by decide)) (fun _ => ?_)
  refine Ok_ife (by decide) (by decide) (fun q => absurd q (by decide)) (fun _ => ?_)
  refine Ok_ife (by decide) (by decide) (fun q => absurd q (by decide)) (fun _ => ?_)
  refine Ok_ife (by decide) (by decide) (fun q => absurd q (by decide)) (fun _ => ?_)
  refine Ok_ife (by decide) (by decide) (fun q => absurd q (by decide)) (fun _ => ?_)
  refine Ok_ife (by decide) (by decide) (fun q => absurd q (by decide)) (fun _ => ?_)
  refine Ok_ife (by decide) (by decide) (fun q => absurd q (by decide)) (fun _ => ?_)
  refine Ok_ife (by decide) (by decide) (fun q => absurd q (by decide)) (fun _ => ?_)
  refine Ok_ife (by decide) (by decide) (fun _ => ?_) (fun q => absurd (by decide) q)
  refine Ok_bnc ?_
  try unfold b_X6_tops
  refine Ok_ifl (show m_at t0 < 2147483648 from by omega) (show m_ct t0 < 2147483648 from by omega) (fun q3 => ?_) (fun q3 => ?_)
  · refine Kp_look C_t0 hT (by omega) ?_
    refine Kp_push C_t0 (by omega) (fun t4 C_t4 X_t4 a_t4 b_t4 d_t4 w_t4 u_t4 v_t4 j_t4 l_t4 => ?_)
    have e_t4 := C_t4.2.2.2.1
    have I_n_t4 := I_n_t0.flat X_t4
    refine Ok_ife (Nat.lt_trans (lo_lt (C_t0.tk hT) _) (by decide)) (by decide) (fun q => absurd (hk0.symm.trans q) (by decide)) (fun _ => ?_)
    refine Ok_ife (Nat.lt_trans (lo_lt (C_t0.tk hT) _) (by decide)) (by decide) (fun q => ?_) (fun q => absurd hk0 q)
    refine Ok_bnc ?_
    try unfold b_X6_declaration
    refine Kp_look C_t4 hT (by omega) ?_
    refine Ok_ife (Nat.lt_trans (lo_lt (C_t4.tk hT) _) (by decide)) (by decide) (fun q6 => ?_) (fun q6 => ?_)
    · refine Kp_child C_t4 I_n_t4.1 I_n_t4.2.1 I_n_t4.2.2.1 (by omega) (by omega) (by decide) (by decide) (fun t7 C_t7 X_t7 a_t7 b_t7 d_t7 w_t7 u_t7 v_t7 j_t7 l_t7 => ?_)
      have e_t7 := C_t7.2.2.2.1
      rw [a_t4] at a_t7
      rw [b_t4] at b_t7
      rw [d_t4] at d_t7
      rw [w_t4] at w_t7
      rw [u_t4] at u_t7
      rw [v_t4] at v_t7
      clear d_t4 w_t4 u_t4 v_t4 e_t4 a_t4
      have I_n_t7 := I_n_t4.chd X_t7 j_t7
      have f_n_t7 : Fz t7 n := j_t7.2.2.2.2.1
      have I_m_mdt4_t7 : Nq t7 (m_md t4) := Nq.chn j_t7 (by omega) I_n_t4 (by decide)
      have u_m_mdt4_t7 : Up t7 (m_md t4) := Or.inl j_t7.2.1
      have z_t8 : m_at t7 < m_ct t7 := lo_ne (Nat.ne_of_gt (show 0 < lo t7 (m_at t7) from by omega))
      refine Kp_at C_t7 (fun t8 C_t8 X_t8 a_t8 b_t8 d_t8 w_t8 u_t8 v_t8 j_t8 l_t8 => ?_)
      have e_t8 := C_t8.2.2.2.1
      rw [a_t7] at a_t8
      rw [b_t7] at b_t8
      rw [d_t7] at d_t8
      rw [w_t7] at w_t8
      rw [u_t7] at u_t8
      rw [v_t7] at v_t8
      rw [a_t7, e_t7] at z_t8
      clear d_t7 w_t7 u_t7 v_t7 e_t7 a_t7 b_t7
      have I_n_t8 := I_n_t7.flat X_t8
      have f_n_t8 := f_n_t7.ex I_n_t7 (X_t8 0)
      have I_m_mdt4_t8 := I_m_mdt4_t7.flat X_t8
      have u_m_mdt4_t8 := u_m_mdt4_t7.ex I_m_mdt4_t7 (X_t8 0)
      refine Kp_look C_t8 hT (by omega) ?_
      refine Ok_ife (Nat.lt_trans (lo_lt (C_t8.tk hT) _) (by decide)) (by decide) (fun q9 => ?_) (fun q9 => ?_)
      · refine Kp_more C_t8 (by omega) (by omega) (fun t10 C_t10 X_t10 a_t10 b_t10 d_t10 w_t10 u_t10 v_t10 j_t10 l_t10 => ?_)
        have e_t10 := C_t10.2.2.2.1
        rcases w_t10 with ⟨w_t10, y_t10⟩ | ⟨w_t10, wb_t10⟩
        · rw [a_t8] at a_t10
          rw [b_t8] at b_t10
          rw [d_t8] at d_t10
          rw [w_t8] at w_t10
          rw [u_t8] at u_t10
          rw [v_t8] at v_t10
          rw [d_t10] at y_t10
          clear d_t8 w_t8 u_t8 v_t8 e_t8 a_t8 b_t8
          have I_n_t10 := I_n_t8.flat X_t10
          have f_n_t10 := f_n_t8.ex I_n_t8 (X_t10 0)
          have I_m_mdt4_t10 := I_m_mdt4_t8.flat X_t10
          have u_m_mdt4_t10 := u_m_mdt4_t8.ex I_m_mdt4_t8 (X_t10 0)
          have z_t11 : m_at t10 < m_ct t10 := lo_ne (Nat.ne_of_gt (show 0 < lo t10 (m_at t10) from by omega))
          refine Kp_at C_t10 (fun t11 C_t11 X_t11 a_t11 b_t11 d_t11 w_t11 u_t11 v_t11 j_t11 l_t11 => ?_)
          have e_t11 := C_t11.2.2.2.1
          rw [a_t10] at a_t11
          rw [b_t10] at b_t11
          rw [d_t10] at d_t11
          rw [w_t10] at w_t11
          rw [u_t10] at u_t11
          rw [v_t10] at v_t11
          rw [a_t10, e_t10] at z_t11
          clear z_t8
          clear d_t10 w_t10 u_t10 v_t10 e_t10 a_t10 b_t10
          have I_n_t11 := I_n_t10.flat X_t11
          have f_n_t11 := f_n_t10.ex I_n_t10 (X_t11 0)
          have I_m_mdt4_t11 := I_m_mdt4_t10.flat X_t11
          have u_m_mdt4_t11 := u_m_mdt4_t10.ex I_m_mdt4_t10 (X_t11 0)
          refine Kp_push C_t11 (by omega) (fun t12 C_t12 X_t12 a_t12 b_t12 d_t12 w_t12 u_t12 v_t12 j_t12 l_t12 => ?_)
          have e_t12 := C_t12.2.2.2.1
          rw [a_t11] at a_t12
          rw [b_t11] at b_t12
          rw [d_t11] at d_t12
          rw [w_t11] at w_t12
          rw [u_t11] at u_t12
          rw [v_t11] at v_t12
          clear d_t11 w_t11 u_t11 v_t11 e_t11 a_t11 b_t11
          have I_n_t12 := I_n_t11.flat X_t12
          have f_n_t12 := f_n_t11.ex I_n_t11 (X_t12 0)
          have I_m_mdt4_t12 := I_m_mdt4_t11.flat X_t12
          have u_m_mdt4_t12 := u_m_mdt4_t11.ex I_m_mdt4_t11 (X_t12 0)
          refine Ok_ret (show Ok _ _ _ from ?_)
          refine Ok_ret (show Ok _ _ _ from ?_)
          refine Ok_ret (show Ok _ _ _ from ?_)
          refine Hv_mk (Kv_c (x := (34, m_md t4, 6)) rfl (Kv_c (x := (55, n, 0)) rfl hK)) (C_t12.1.2.2.2.2.2.2 hTt) C_t12 hT (by omega) (by omega) (by omega) ?_ ?_ ?_ (by omega) ?_ ?_ ?_
          · exact ⟨(Io_n (by decide) (by decide) I_m_mdt4_t12.1 I_m_mdt4_t12.2.1 I_m_mdt4_t12.2.2.1 (fun q => absurd q (by decide)) (fun _ => show 6 ≤ 8 from by omega) I_m_mdt4_t12.2.2.2), (Nd_0 (by decide) Mo_nil), ⟨(Io_n (by decide) (by decide) I_n_t12.1 I_n_t12.2.1 I_n_t12.2.2.1 (fun q => absurd q (by decide)) (fun q => absurd q (by decide)) I_n_t12.2.2.2), (Nd_0 (by decide) (Mo_cons (fun q => show n ≤ m_md t4 from by omega) Mo_nil)), Stk_step (N := n) (pop := (54, n, t)) (new := [(55, n, 0), (34, m_md t4, 6)]) F0 C_t12.1.to2 (fun (h : nk 54 = false) => absurd h (by decide)) (fun q _ h => h (54, n, t) rfl) (fun _ => rfl) (fun y hy hk => ⟨rfl, (Mo_cons (fun q => show n ≤ n from by omega) (Mo_cons (fun q => show n ≤ m_md t4 from by omega) Mo_nil)) y hy hk⟩) (fun (h : 54 = 3 ∨ 54 = 18 ∨ 54 = 41) => absurd h (by decide)) (fun (h : 54 = 18) => absurd h (by decide)) (fun (h : 54 = 41 ∨ 54 = 42 ∨ 54 = 43) => absurd h (by decide)) r [] (fun y hy => absurd hy List.not_mem_nil) hS⟩⟩
          · exact (Aj_up (x := (34, m_md t4, 6)) (Aj_sub (y := (55, n, 0)) hJ (Nat.le_of_ble_eq_true rfl)) (Or.inr (Nat.le_of_ble_eq_true rfl)))
          · show m_dp t12 = (dlt 34 + (dlt 55 + sD r))
            have : dlt 34 = 1 := rfl; have : dlt 54 = 0 := rfl; have : dlt 55 = 0 := rfl; omega
          · show m_rw t12 = (rho 34 + (rho 55 + sR r))
            have : rho 34 = 0 := rfl; have : rho 54 = 0 := rfl; have : rho 55 = 0 := rfl; omega
          · show m_md t12 + (mu7 34 + (mu7 55 + sM r)) ≤ 3 * m_at t12 + 7 * (r.length + 1 + 1) + 10
            have : mu7 34 = 4 := rfl; have : mu7 54 = 7 := rfl; have : mu7 55 = 4 := rfl; omega
          · show (wt 34 + (wt 55 + sW r)) + 6 * (4096 - m_at t12) + 4 * (600 - (r.length + 1 + 1)) < (wt 54 + sW r) + 6 * (4096 - m_at t0) + 4 * (600 - (r.length + 1))
            have : wt 34 = 0 := rfl; have : wt 54 = 5 := rfl; have : wt 55 = 0 := rfl; omega
        · have w_t10 := Nat.pos_of_ne_zero w_t10
          have I_n_t10 := I_n_t8.flat X_t10
          have f_n_t10 := f_n_t8.ex I_n_t8 (X_t10 0)
          have I_m_mdt4_t10 := I_m_mdt4_t8.flat X_t10
          have u_m_mdt4_t10 := u_m_mdt4_t8.ex I_m_mdt4_t8 (X_t10 0)
          refine Kp_at C_t10 (fun t13 C_t13 X_t13 a_t13 b_t13 d_t13 w_t13 u_t13 v_t13 j_t13 l_t13 => ?_)
          have e_t13 := C_t13.2.2.2.1
          have I_n_t13 := I_n_t10.flat X_t13
          have f_n_t13 := f_n_t10.ex I_n_t10 (X_t13 0)
          have I_m_mdt4_t13 := I_m_mdt4_t10.flat X_t13
          have u_m_mdt4_t13 := u_m_mdt4_t10.ex I_m_mdt4_t10 (X_t13 0)
          refine Kp_push C_t13 (by omega) (fun t14 C_t14 X_t14 a_t14 b_t14 d_t14 w_t14 u_t14 v_t14 j_t14 l_t14 => ?_)
          have e_t14 := C_t14.2.2.2.1
          have I_n_t14 := I_n_t13.flat X_t14
          have f_n_t14 := f_n_t13.ex I_n_t13 (X_t14 0)
          have I_m_mdt4_t14 := I_m_mdt4_t13.flat X_t14
          have u_m_mdt4_t14 := u_m_mdt4_t13.ex I_m_mdt4_t13 (X_t14 0)
          refine Ok_ret (show Ok _ _ _ from ?_)
          refine Ok_ret (show Ok _ _ _ from ?_)
          refine Ok_ret (show Ok _ _ _ from ?_)
          exact Or.inl ⟨Nat.ne_of_gt (show 0 < m_wr t14 from by omega), by omega, by omega, C_t14.2.2.2.2.2, by omega⟩
      · refine Kp_push C_t8 (by omega) (fun t15 C_t15 X_t15 a_t15 b_t15 d_t15 w_t15 u_t15 v_t15 j_t15 l_t15 => ?_)
        have e_t15 := C_t15.2.2.2.1
        rw [a_t8] at a_t15
        rw [b_t8] at b_t15
        rw [d_t8] at d_t15
        rw [w_t8] at w_t15
        rw [u_t8] at u_t15
        rw [v_t8] at v_t15
        clear d_t8 w_t8 u_t8 v_t8 e_t8 a_t8 b_t8
        have I_n_t15 := I_n_t8.flat X_t15
        have f_n_t15 := f_n_t8.ex I_n_t8 (X_t15 0)
        have I_m_mdt4_t15 := I_m_mdt4_t8.flat X_t15
        have u_m_mdt4_t15 := u_m_mdt4_t8.ex I_m_mdt4_t8 (X_t15 0)
        refine Ok_ret (show Ok _ _ _ from ?_)
        refine Ok_ret (show Ok _ _ _ from ?_)
        refine Ok_ret (show Ok _ _ _ from ?_)
        refine Hv_mk (Kv_c (x := (33, m_md t4, 6)) rfl (Kv_c (x := (55, n, 0)) rfl hK)) (C_t15.1.2.2.2.2.2.2 hTt) C_t15 hT (by omega) (by omega) (by omega) ?_ ?_ ?_ (by omega) ?_ ?_ ?_
        · exact ⟨(Io_n (by decide) (by decide) I_m_mdt4_t15.1 I_m_mdt4_t15.2.1 I_m_mdt4_t15.2.2.1 (fun q => absurd q (by decide)) (fun _ => show 6 ≤ 8 from by omega) I_m_mdt4_t15.2.2.2), (Nd_0 (by decide) Mo_nil), ⟨(Io_n (by decide) (by decide) I_n_t15.1 I_n_t15.2.1 I_n_t15.2.2.1 (fun q => absurd q (by decide)) (fun q => absurd q (by decide)) I_n_t15.2.2.2), (Nd_0 (by decide) (Mo_cons (fun q => show n ≤ m_md t4 from by omega) Mo_nil)), Stk_step (N := n) (pop := (54, n, t)) (new := [(55, n, 0), (33, m_md t4, 6)]) F0 C_t15.1.to2 (fun (h : nk 54 = false) => absurd h (by decide)) (fun q _ h => h (54, n, t) rfl) (fun _ => rfl) (fun y hy hk => ⟨rfl, (Mo_cons (fun q => show n ≤ n from by omega) (Mo_cons (fun q => show n ≤ m_md t4 from by omega) Mo_nil)) y hy hk⟩) (fun (h : 54 = 3 ∨ 54 = 18 ∨ 54 = 41) => absurd h (by decide)) (fun (h : 54 = 18) => absurd h (by decide)) (fun (h : 54 = 41 ∨ 54 = 42 ∨ 54 = 43) => absurd h (by decide)) r [] (fun y hy => absurd hy List.not_mem_nil) hS⟩⟩
        · exact (Aj_up (x := (33, m_md t4, 6)) (Aj_sub (y := (55, n, 0)) hJ (Nat.le_of_ble_eq_true rfl)) (Or.inr (Nat.le_of_ble_eq_true rfl)))
        · show m_dp t15 = (dlt 33 + (dlt 55 + sD r))
          have : dlt 33 = 0 := rfl; have : dlt 54 = 0 := rfl; have : dlt 55 = 0 := rfl; omega
        · show m_rw t15 = (rho 33 + (rho 55 + sR r))
          have : rho 33 = 0 := rfl; have : rho 54 = 0 := rfl; have : rho 55 = 0 := rfl; omega
        · show m_md t15 + (mu7 33 + (mu7 55 + sM r)) ≤ 3 * m_at t15 + 7 * (r.length + 1 + 1) + 10
          have : mu7 33 = 7 := rfl; have : mu7 54 = 7 := rfl; have : mu7 55 = 4 := rfl; omega
        · show (wt 33 + (wt 55 + sW r)) + 6 * (4096 - m_at t15) + 4 * (600 - (r.length + 1 + 1)) < (wt 54 + sW r) + 6 * (4096 - m_at t0) + 4 * (600 - (r.length + 1))
          have : wt 33 = 2 := rfl; have : wt 54 = 5 := rfl; have : wt 55 = 0 := rfl; omega
    · refine Kp_look C_t4 hT (by omega) ?_
      refine Ok_ife (Nat.lt_trans (lo_lt (C_t4.tk hT) _) (by decide)) (by decide) (fun q16 => ?_) (fun q16 => ?_)
      · refine Kp_child C_t4 I_n_t4.1 I_n_t4.2.1 I_n_t4.2.2.1 (by omega) (by omega) (by decide) (by decide) (fun t17 C_t17 X_t17 a_t17 b_t17 d_t17 w_t17 u_t17 v_t17 j_t17 l_t17 => ?_)
        have e_t17 := C_t17.2.2.2.1
        rw [a_t4] at a_t17
        rw [b_t4] at b_t17
        rw [d_t4] at d_t17
        rw [w_t4] at w_t17
        rw [u_t4] at u_t17
        rw [v_t4] at v_t17
        clear d_t4 w_t4 u_t4 v_t4 e_t4 a_t4
        have I_n_t17 := I_n_t4.chd X_t17 j_t17
        have f_n_t17 : Fz t17 n := j_t17.2.2.2.2.1
        have I_m_mdt4_t17 : Nq t17 (m_md t4) := Nq.chn j_t17 (by omega) I_n_t4 (by decide)
        have u_m_mdt4_t17 : Up t17 (m_md t4) := Or.inl j_t17.2.1
        have z_t18 : m_at t17 < m_ct t17 := lo_ne (Nat.ne_of_gt (show 0 < lo t17 (m_at t17) from by omega))
        refine Kp_at C_t17 (fun t18 C_t18 X_t18 a_t18 b_t18 d_t18 w_t18 u_t18 v_t18 j_t18 l_t18 => ?_)
        have e_t18 := C_t18.2.2.2.1
        rw [a_t17] at a_t18
        rw [b_t17] at b_t18
        rw [d_t17] at d_t18
        rw [w_t17] at w_t18
        rw [u_t17] at u_t18
        rw [v_t17] at v_t18
        rw [a_t17, e_t17] at z_t18
        clear d_t17 w_t17 u_t17 v_t17 e_t17 a_t17 b_t17
        have I_n_t18 := I_n_t17.flat X_t18
        have f_n_t18 := f_n_t17.ex I_n_t17 (X_t18 0)
        have I_m_mdt4_t18 := I_m_mdt4_t17.flat X_t18
        have u_m_mdt4_t18 := u_m_mdt4_t17.ex I_m_mdt4_t17 (X_t18 0)
        refine Kp_look C_t18 hT (by omega) ?_
        refine Ok_ife (Nat.lt_trans (lo_lt (C_t18.tk hT) _) (by decide)) (by decide) (fun q19 => ?_) (fun q19 => ?_)
        · refine Kp_more C_t18 (by omega) (by omega) (fun t20 C_t20 X_t20 a_t20 b_t20 d_t20 w_t20 u_t20 v_t20 j_t20 l_t20 => ?_)
          have e_t20 := C_t20.2.2.2.1
          rcases w_t20 with ⟨w_t20, y_t20⟩ | ⟨w_t20, wb_t20⟩
          · rw [a_t18] at a_t20
            rw [b_t18] at b_t20
            rw [d_t18] at d_t20
            rw [w_t18] at w_t20
            rw [u_t18] at u_t20
            rw [v_t18] at v_t20
            rw [d_t20] at y_t20
            clear d_t18 w_t18 u_t18 v_t18 e_t18 a_t18 b_t18
            have I_n_t20 := I_n_t18.flat X_t20
            have f_n_t20 := f_n_t18.ex I_n_t18 (X_t20 0)
            have I_m_mdt4_t20 := I_m_mdt4_t18.flat X_t20
            have u_m_mdt4_t20 := u_m_mdt4_t18.ex I_m_mdt4_t18 (X_t20 0)
            have z_t21 : m_at t20 < m_ct t20 := lo_ne (Nat.ne_of_gt (show 0 < lo t20 (m_at t20) from by omega))
            refine Kp_at C_t20 (fun t21 C_t21 X_t21 a_t21 b_t21 d_t21 w_t21 u_t21 v_t21 j_t21 l_t21 => ?_)
            have e_t21 := C_t21.2.2.2.1
            rw [a_t20] at a_t21
            rw [b_t20] at b_t21
            rw [d_t20] at d_t21
            rw [w_t20] at w_t21
            rw [u_t20] at u_t21
            rw [v_t20] at v_t21
            rw [a_t20, e_t20] at z_t21
            clear z_t18
            clear d_t20 w_t20 u_t20 v_t20 e_t20 a_t20 b_t20
            have I_n_t21 := I_n_t20.flat X_t21
            have f_n_t21 := f_n_t20.ex I_n_t20 (X_t21 0)
            have I_m_mdt4_t21 := I_m_mdt4_t20.flat X_t21
            have u_m_mdt4_t21 := u_m_mdt4_t20.ex I_m_mdt4_t20 (X_t21 0)
            refine Kp_push C_t21 (by omega) (fun t22 C_t22 X_t22 a_t22 b_t22 d_t22 w_t22 u_t22 v_t22 j_t22 l_t22 => ?_)
            have e_t22 := C_t22.2.2.2.1
            rw [a_t21] at a_t22
            rw [b_t21] at b_t22
            rw [d_t21] at d_t22
            rw [w_t21] at w_t22
            rw [u_t21] at u_t22
            rw [v_t21] at v_t22
            clear d_t21 w_t21 u_t21 v_t21 e_t21 a_t21 b_t21
            have I_n_t22 := I_n_t21.flat X_t22
            have f_n_t22 := f_n_t21.ex I_n_t21 (X_t22 0)
            have I_m_mdt4_t22 := I_m_mdt4_t21.flat X_t22
            have u_m_mdt4_t22 := u_m_mdt4_t21.ex I_m_mdt4_t21 (X_t22 0)
            refine Ok_ret (show Ok _ _ _ from ?_)
            refine Ok_ret (show Ok _ _ _ from ?_)
            refine Ok_ret (show Ok _ _ _ from ?_)
            refine Hv_mk (Kv_c (x := (34, m_md t4, 7)) rfl (Kv_c (x := (55, n, 0)) rfl hK)) (C_t22.1.2.2.2.2.2.2 hTt) C_t22 hT (by omega) (by omega) (by omega) ?_ ?_ ?_ (by omega) ?_ ?_ ?_
            · exact ⟨(Io_n (by decide) (by decide) I_m_mdt4_t22.1 I_m_mdt4_t22.2.1 I_m_mdt4_t22.2.2.1 (fun q => absurd q (by decide)) (fun _ => show 7 ≤ 8 from by omega) I_m_mdt4_t22.2.2.2), (Nd_0 (by decide) Mo_nil), ⟨(Io_n (by decide) (by decide) I_n_t22.1 I_n_t22.2.1 I_n_t22.2.2.1 (fun q => absurd q (by decide)) (fun q => absurd q (by decide)) I_n_t22.2.2.2), (Nd_0 (by decide) (Mo_cons (fun q => show n ≤ m_md t4 from by omega) Mo_nil)), Stk_step (N := n) (pop := (54, n, t)) (new := [(55, n, 0), (34, m_md t4, 7)]) F0 C_t22.1.to2 (fun (h : nk 54 = false) => absurd h (by decide)) (fun q _ h => h (54, n, t) rfl) (fun _ => rfl) (fun y hy hk => ⟨rfl, (Mo_cons (fun q => show n ≤ n from by omega) (Mo_cons (fun q => show n ≤ m_md t4 from by omega) Mo_nil)) y hy hk⟩) (fun (h : 54 = 3 ∨ 54 = 18 ∨ 54 = 41) => absurd h (by decide)) (fun (h : 54 = 18) => absurd h (by decide)) (fun (h : 54 = 41 ∨ 54 = 42 ∨ 54 = 43) => absurd h (by decide)) r [] (fun y hy => absurd hy List.not_mem_nil) hS⟩⟩
            · exact (Aj_up (x := (34, m_md t4, 7)) (Aj_sub (y := (55, n, 0)) hJ (Nat.le_of_ble_eq_true rfl)) (Or.inr (Nat.le_of_ble_eq_true rfl)))
            · show m_dp t22 = (dlt 34 + (dlt 55 + sD r))
              have : dlt 34 = 1 := rfl; have : dlt 54 = 0 := rfl; have : dlt 55 = 0 := rfl; omega
            · show m_rw t22 = (rho 34 + (rho 55 + sR r))
              have : rho 34 = 0 := rfl; have : rho 54 = 0 := rfl; have : rho 55 = 0 := rfl; omega
            · show m_md t22 + (mu7 34 + (mu7 55 + sM r)) ≤ 3 * m_at t22 + 7 * (r.length + 1 + 1) + 10
              have : mu7 34 = 4 := rfl; have : mu7 54 = 7 := rfl; have : mu7 55 = 4 := rfl; omega
            · show (wt 34 + (wt 55 + sW r)) + 6 * (4096 - m_at t22) + 4 * (600 - (r.length + 1 + 1)) < (wt 54 + sW r) + 6 * (4096 - m_at t0) + 4 * (600 - (r.length + 1))
              have : wt 34 = 0 := rfl; have : wt 54 = 5 := rfl; have : wt 55 = 0 := rfl; omega
          · have w_t20 := Nat.pos_of_ne_zero w_t20
            have I_n_t20 := I_n_t18.flat X_t20
            have f_n_t20 := f_n_t18.ex I_n_t18 (X_t20 0)
            have I_m_mdt4_t20 := I_m_mdt4_t18.flat X_t20
            have u_m_mdt4_t20 := u_m_mdt4_t18.ex I_m_mdt4_t18 (X_t20 0)
            refine Kp_at C_t20 (fun t23 C_t23 X_t23 a_t23 b_t23 d_t23 w_t23 u_t23 v_t23 j_t23 l_t23 => ?_)
            have e_t23 := C_t23.2.2.2.1
            have I_n_t23 := I_n_t20.flat X_t23
            have f_n_t23 := f_n_t20.ex I_n_t20 (X_t23 0)
            have I_m_mdt4_t23 := I_m_mdt4_t20.flat X_t23
            have u_m_mdt4_t23 := u_m_mdt4_t20.ex I_m_mdt4_t20 (X_t23 0)
            refine Kp_push C_t23 (by omega) (fun t24 C_t24 X_t24 a_t24 b_t24 d_t24 w_t24 u_t24 v_t24 j_t24 l_t24 => ?_)
            have e_t24 := C_t24.2.2.2.1
            have I_n_t24 := I_n_t23.flat X_t24
            have f_n_t24 := f_n_t23.ex I_n_t23 (X_t24 0)
            have I_m_mdt4_t24 := I_m_mdt4_t23.flat X_t24
            have u_m_mdt4_t24 := u_m_mdt4_t23.ex I_m_mdt4_t23 (X_t24 0)
            refine Ok_ret (show Ok _ _ _ from ?_)
            refine Ok_ret (show Ok _ _ _ from ?_)
            refine Ok_ret (show Ok _ _ _ from ?_)
            exact Or.inl ⟨Nat.ne_of_gt (show 0 < m_wr t24 from by omega), by omega, by omega, C_t24.2.2.2.2.2, by omega⟩
        · refine Kp_push C_t18 (by omega) (fun t25 C_t25 X_t25 a_t25 b_t25 d_t25 w_t25 u_t25 v_t25 j_t25 l_t25 => ?_)
          have e_t25 := C_t25.2.2.2.1
          rw [a_t18] at a_t25
          rw [b_t18] at b_t25
          rw [d_t18] at d_t25
          rw [w_t18] at w_t25
          rw [u_t18] at u_t25
          rw [v_t18] at v_t25
          clear d_t18 w_t18 u_t18 v_t18 e_t18 a_t18 b_t18
          have I_n_t25 := I_n_t18.flat X_t25
          have f_n_t25 := f_n_t18.ex I_n_t18 (X_t25 0)
          have I_m_mdt4_t25 := I_m_mdt4_t18.flat X_t25
          have u_m_mdt4_t25 := u_m_mdt4_t18.ex I_m_mdt4_t18 (X_t25 0)
          refine Ok_ret (show Ok _ _ _ from ?_)
          refine Ok_ret (show Ok _ _ _ from ?_)
          refine Ok_ret (show Ok _ _ _ from ?_)
          refine Hv_mk (Kv_c (x := (33, m_md t4, 7)) rfl (Kv_c (x := (55, n, 0)) rfl hK)) (C_t25.1.2.2.2.2.2.2 hTt) C_t25 hT (by omega) (by omega) (by omega) ?_ ?_ ?_ (by omega) ?_ ?_ ?_
          · exact ⟨(Io_n (by decide) (by decide) I_m_mdt4_t25.1 I_m_mdt4_t25.2.1 I_m_mdt4_t25.2.2.1 (fun q => absurd q (by decide)) (fun _ => show 7 ≤ 8 from by omega) I_m_mdt4_t25.2.2.2), (Nd_0 (by decide) Mo_nil), ⟨(Io_n (by decide) (by decide) I_n_t25.1 I_n_t25.2.1 I_n_t25.2.2.1 (fun q => absurd q (by decide)) (fun q => absurd q (by decide)) I_n_t25.2.2.2), (Nd_0 (by decide) (Mo_cons (fun q => show n ≤ m_md t4 from by omega) Mo_nil)), Stk_step (N := n) (pop := (54, n, t)) (new := [(55, n, 0), (33, m_md t4, 7)]) F0 C_t25.1.to2 (fun (h : nk 54 = false) => absurd h (by decide)) (fun q _ h => h (54, n, t) rfl) (fun _ => rfl) (fun y hy hk => ⟨rfl, (Mo_cons (fun q => show n ≤ n from by omega) (Mo_cons (fun q => show n ≤ m_md t4 from by omega) Mo_nil)) y hy hk⟩) (fun (h : 54 = 3 ∨ 54 = 18 ∨ 54 = 41) => absurd h (by decide)) (fun (h : 54 = 18) => absurd h (by decide)) (fun (h : 54 = 41 ∨ 54 = 42 ∨ 54 = 43) => absurd h (by decide)) r [] (fun y hy => absurd hy List.not_mem_nil) hS⟩⟩
          · exact (Aj_up (x := (33, m_md t4, 7)) (Aj_sub (y := (55, n, 0)) hJ (Nat.le_of_ble_eq_true rfl)) (Or.inr (Nat.le_of_ble_eq_true rfl)))
          · show m_dp t25 = (dlt 33 + (dlt 55 + sD r))
            have : dlt 33 = 0 := rfl; have : dlt 54 = 0 := rfl; have : dlt 55 = 0 := rfl; omega
          · show m_rw t25 = (rho 33 + (rho 55 + sR r))
            have : rho 33 = 0 := rfl; have : rho 54 = 0 := rfl; have : rho 55 = 0 := rfl; omega
          · show m_md t25 + (mu7 33 + (mu7 55 + sM r)) ≤ 3 * m_at t25 + 7 * (r.length + 1 + 1) + 10
            have : mu7 33 = 7 := rfl; have : mu7 54 = 7 := rfl; have : mu7 55 = 4 := rfl; omega
          · show (wt 33 + (wt 55 + sW r)) + 6 * (4096 - m_at t25) + 4 * (600 - (r.length + 1 + 1)) < (wt 54 + sW r) + 6 * (4096 - m_at t0) + 4 * (600 - (r.length + 1))
            have : wt 33 = 2 := rfl; have : wt 54 = 5 := rfl; have : wt 55 = 0 := rfl; omega
      · refine Kp_child C_t4 I_n_t4.1 I_n_t4.2.1 I_n_t4.2.2.1 (by omega) (by omega) (by decide) (by decide) (fun t26 C_t26 X_t26 a_t26 b_t26 d_t26 w_t26 u_t26 v_t26 j_t26 l_t26 => ?_)
        have e_t26 := C_t26.2.2.2.1
        rw [a_t4] at a_t26
        rw [b_t4] at b_t26
        rw [d_t4] at d_t26
        rw [w_t4] at w_t26
        rw [u_t4] at u_t26
        rw [v_t4] at v_t26
        clear d_t4 w_t4 u_t4 v_t4 e_t4 a_t4
        have I_n_t26 := I_n_t4.chd X_t26 j_t26
        have f_n_t26 : Fz t26 n := j_t26.2.2.2.2.1
        have I_m_mdt4_t26 : Nq t26 (m_md t4) := Nq.chn j_t26 (by omega) I_n_t4 (by decide)
        have u_m_mdt4_t26 : Up t26 (m_md t4) := Or.inl j_t26.2.1
        have z_t27 : m_at t26 < m_ct t26 := lo_ne (Nat.ne_of_gt (show 0 < lo t26 (m_at t26) from by omega))
        refine Kp_at C_t26 (fun t27 C_t27 X_t27 a_t27 b_t27 d_t27 w_t27 u_t27 v_t27 j_t27 l_t27 => ?_)
        have e_t27 := C_t27.2.2.2.1
        rw [a_t26] at a_t27
        rw [b_t26] at b_t27
        rw [d_t26] at d_t27
        rw [w_t26] at w_t27
        rw [u_t26] at u_t27
        rw [v_t26] at v_t27
        rw [a_t26, e_t26] at z_t27
        clear d_t26 w_t26 u_t26 v_t26 e_t26 a_t26 b_t26
        have I_n_t27 := I_n_t26.flat X_t27
        have f_n_t27 := f_n_t26.ex I_n_t26 (X_t27 0)
        have I_m_mdt4_t27 := I_m_mdt4_t26.flat X_t27
        have u_m_mdt4_t27 := u_m_mdt4_t26.ex I_m_mdt4_t26 (X_t27 0)
        refine Kp_look C_t27 hT (by omega) ?_
        refine Ok_ife (Nat.lt_trans (lo_lt (C_t27.tk hT) _) (by decide)) (by decide) (fun q28 => ?_) (fun q28 => ?_)
        · refine Kp_more C_t27 (by omega) (by omega) (fun t29 C_t29 X_t29 a_t29 b_t29 d_t29 w_t29 u_t29 v_t29 j_t29 l_t29 => ?_)
          have e_t29 := C_t29.2.2.2.1
          rcases w_t29 with ⟨w_t29, y_t29⟩ | ⟨w_t29, wb_t29⟩
          · rw [a_t27] at a_t29
            rw [b_t27] at b_t29
            rw [d_t27] at d_t29
            rw [w_t27] at w_t29
            rw [u_t27] at u_t29
            rw [v_t27] at v_t29
            rw [d_t29] at y_t29
            clear d_t27 w_t27 u_t27 v_t27 e_t27 a_t27 b_t27
            have I_n_t29 := I_n_t27.flat X_t29
            have f_n_t29 := f_n_t27.ex I_n_t27 (X_t29 0)
            have I_m_mdt4_t29 := I_m_mdt4_t27.flat X_t29
            have u_m_mdt4_t29 := u_m_mdt4_t27.ex I_m_mdt4_t27 (X_t29 0)
            have z_t30 : m_at t29 < m_ct t29 := lo_ne (Nat.ne_of_gt (show 0 < lo t29 (m_at t29) from by omega))
            refine Kp_at C_t29 (fun t30 C_t30 X_t30 a_t30 b_t30 d_t30 w_t30 u_t30 v_t30 j_t30 l_t30 => ?_)
            have e_t30 := C_t30.2.2.2.1
            rw [a_t29] at a_t30
            rw [b_t29] at b_t30
            rw [d_t29] at d_t30
            rw [w_t29] at w_t30
            rw [u_t29] at u_t30
            rw [v_t29] at v_t30
            rw [a_t29, e_t29] at z_t30
            clear z_t27
            clear d_t29 w_t29 u_t29 v_t29 e_t29 a_t29 b_t29
            have I_n_t30 := I_n_t29.flat X_t30
            have f_n_t30 := f_n_t29.ex I_n_t29 (X_t30 0)
            have I_m_mdt4_t30 := I_m_mdt4_t29.flat X_t30
            have u_m_mdt4_t30 := u_m_mdt4_t29.ex I_m_mdt4_t29 (X_t30 0)
            refine Kp_push C_t30 (by omega) (fun t31 C_t31 X_t31 a_t31 b_t31 d_t31 w_t31 u_t31 v_t31 j_t31 l_t31 => ?_)
            have e_t31 := C_t31.2.2.2.1
            rw [a_t30] at a_t31
            rw [b_t30] at b_t31
            rw [d_t30] at d_t31
            rw [w_t30] at w_t31
            rw [u_t30] at u_t31
            rw [v_t30] at v_t31
            clear d_t30 w_t30 u_t30 v_t30 e_t30 a_t30 b_t30
            have I_n_t31 := I_n_t30.flat X_t31
            have f_n_t31 := f_n_t30.ex I_n_t30 (X_t31 0)
            have I_m_mdt4_t31 := I_m_mdt4_t30.flat X_t31
            have u_m_mdt4_t31 := u_m_mdt4_t30.ex I_m_mdt4_t30 (X_t31 0)
            refine Ok_ret (show Ok _ _ _ from ?_)
            refine Ok_ret (show Ok _ _ _ from ?_)
            refine Ok_ret (show Ok _ _ _ from ?_)
            refine Hv_mk (Kv_c (x := (34, m_md t4, 8)) rfl (Kv_c (x := (55, n, 0)) rfl hK)) (C_t31.1.2.2.2.2.2.2 hTt) C_t31 hT (by omega) (by omega) (by omega) ?_ ?_ ?_ (by omega) ?_ ?_ ?_
            · exact ⟨(Io_n (by decide) (by decide) I_m_mdt4_t31.1 I_m_mdt4_t31.2.1 I_m_mdt4_t31.2.2.1 (fun q => absurd q (by decide)) (fun _ => show 8 ≤ 8 from by omega) I_m_mdt4_t31.2.2.2), (Nd_0 (by decide) Mo_nil), ⟨(Io_n (by decide) (by decide) I_n_t31.1 I_n_t31.2.1 I_n_t31.2.2.1 (fun q => absurd q (by decide)) (fun q => absurd q (by decide)) I_n_t31.2.2.2), (Nd_0 (by decide) (Mo_cons (fun q => show n ≤ m_md t4 from by omega) Mo_nil)), Stk_step (N := n) (pop := (54, n, t)) (new := [(55, n, 0), (34, m_md t4, 8)]) F0 C_t31.1.to2 (fun (h : nk 54 = false) => absurd h (by decide)) (fun q _ h => h (54, n, t) rfl) (fun _ => rfl) (fun y hy hk => ⟨rfl, (Mo_cons (fun q => show n ≤ n from by omega) (Mo_cons (fun q => show n ≤ m_md t4 from by omega) Mo_nil)) y hy hk⟩) (fun (h : 54 = 3 ∨ 54 = 18 ∨ 54 = 41) => absurd h (by decide)) (fun (h : 54 = 18) => absurd h (by decide)) (fun (h : 54 = 41 ∨ 54 = 42 ∨ 54 = 43) => absurd h (by decide)) r [] (fun y hy => absurd hy List.not_mem_nil) hS⟩⟩
            · exact (Aj_up (x := (34, m_md t4, 8)) (Aj_sub (y := (55, n, 0)) hJ (Nat.le_of_ble_eq_true rfl)) (Or.inr (Nat.le_of_ble_eq_true rfl)))
            · show m_dp t31 = (dlt 34 + (dlt 55 + sD r))
              have : dlt 34 = 1 := rfl; have : dlt 54 = 0 := rfl; have : dlt 55 = 0 := rfl; omega
            · show m_rw t31 = (rho 34 + (rho 55 + sR r))
              have : rho 34 = 0 := rfl; have : rho 54 = 0 := rfl; have : rho 55 = 0 := rfl; omega
            · show m_md t31 + (mu7 34 + (mu7 55 + sM r)) ≤ 3 * m_at t31 + 7 * (r.length + 1 + 1) + 10
              have : mu7 34 = 4 := rfl; have : mu7 54 = 7 := rfl; have : mu7 55 = 4 := rfl; omega
            · show (wt 34 + (wt 55 + sW r)) + 6 * (4096 - m_at t31) + 4 * (600 - (r.length + 1 + 1)) < (wt 54 + sW r) + 6 * (4096 - m_at t0) + 4 * (600 - (r.length + 1))
              have : wt 34 = 0 := rfl; have : wt 54 = 5 := rfl; have : wt 55 = 0 := rfl; omega
          · have w_t29 := Nat.pos_of_ne_zero w_t29
            have I_n_t29 := I_n_t27.flat X_t29
            have f_n_t29 := f_n_t27.ex I_n_t27 (X_t29 0)
            have I_m_mdt4_t29 := I_m_mdt4_t27.flat X_t29
            have u_m_mdt4_t29 := u_m_mdt4_t27.ex I_m_mdt4_t27 (X_t29 0)
            refine Kp_at C_t29 (fun t32 C_t32 X_t32 a_t32 b_t32 d_t32 w_t32 u_t32 v_t32 j_t32 l_t32 => ?_)
            have e_t32 := C_t32.2.2.2.1
            have I_n_t32 := I_n_t29.flat X_t32
            have f_n_t32 := f_n_t29.ex I_n_t29 (X_t32 0)
            have I_m_mdt4_t32 := I_m_mdt4_t29.flat X_t32
            have u_m_mdt4_t32 := u_m_mdt4_t29.ex I_m_mdt4_t29 (X_t32 0)
            refine Kp_push C_t32 (by omega) (fun t33 C_t33 X_t33 a_t33 b_t33 d_t33 w_t33 u_t33 v_t33 j_t33 l_t33 => ?_)
            have e_t33 := C_t33.2.2.2.1
            have I_n_t33 := I_n_t32.flat X_t33
            have f_n_t33 := f_n_t32.ex I_n_t32 (X_t33 0)
            have I_m_mdt4_t33 := I_m_mdt4_t32.flat X_t33
            have u_m_mdt4_t33 := u_m_mdt4_t32.ex I_m_mdt4_t32 (X_t33 0)
            refine Ok_ret (show Ok _ _ _ from ?_)
            refine Ok_ret (show Ok _ _ _ from ?_)
            refine Ok_ret (show Ok _ _ _ from ?_)
            exact Or.inl ⟨Nat.ne_of_gt (show 0 < m_wr t33 from by omega), by omega, by omega, C_t33.2.2.2.2.2, by omega⟩
        · refine Kp_push C_t27 (by omega) (fun t34 C_t34 X_t34 a_t34 b_t34 d_t34 w_t34 u_t34 v_t34 j_t34 l_t34 => ?_)
          have e_t34 := C_t34.2.2.2.1
          rw [a_t27] at a_t34
          rw [b_t27] at b_t34
          rw [d_t27] at d_t34
          rw [w_t27] at w_t34
          rw [u_t27] at u_t34
          rw [v_t27] at v_t34
          clear d_t27 w_t27 u_t27 v_t27 e_t27 a_t27 b_t27
          have I_n_t34 := I_n_t27.flat X_t34
          have f_n_t34 := f_n_t27.ex I_n_t27 (X_t34 0)
          have I_m_mdt4_t34 := I_m_mdt4_t27.flat X_t34
          have u_m_mdt4_t34 := u_m_mdt4_t27.ex I_m_mdt4_t27 (X_t34 0)
          refine Ok_ret (show Ok _ _ _ from ?_)
          refine Ok_ret (show Ok _ _ _ from ?_)
          refine Ok_ret (show Ok _ _ _ from ?_)
          refine Hv_mk (Kv_c (x := (33, m_md t4, 8)) rfl (Kv_c (x := (55, n, 0)) rfl hK)) (C_t34.1.2.2.2.2.2.2 hTt) C_t34 hT (by omega) (by omega) (by omega) ?_ ?_ ?_ (by omega) ?_ ?_ ?_
          · exact ⟨(Io_n (by decide) (by decide) I_m_mdt4_t34.1 I_m_mdt4_t34.2.1 I_m_mdt4_t34.2.2.1 (fun q => absurd q (by decide)) (fun _ => show 8 ≤ 8 from by omega) I_m_mdt4_t34.2.2.2), (Nd_0 (by decide) Mo_nil), ⟨(Io_n (by decide) (by decide) I_n_t34.1 I_n_t34.2.1 I_n_t34.2.2.1 (fun q => absurd q (by decide)) (fun q => absurd q (by decide)) I_n_t34.2.2.2), (Nd_0 (by decide) (Mo_cons (fun q => show n ≤ m_md t4 from by omega) Mo_nil)), Stk_step (N := n) (pop := (54, n, t)) (new := [(55, n, 0), (33, m_md t4, 8)]) F0 C_t34.1.to2 (fun (h : nk 54 = false) => absurd h (by decide)) (fun q _ h => h (54, n, t) rfl) (fun _ => rfl) (fun y hy hk => ⟨rfl, (Mo_cons (fun q => show n ≤ n from by omega) (Mo_cons (fun q => show n ≤ m_md t4 from by omega) Mo_nil)) y hy hk⟩) (fun (h : 54 = 3 ∨ 54 = 18 ∨ 54 = 41) => absurd h (by decide)) (fun (h : 54 = 18) => absurd h (by decide)) (fun (h : 54 = 41 ∨ 54 = 42 ∨ 54 = 43) => absurd h (by decide)) r [] (fun y hy => absurd hy List.not_mem_nil) hS⟩⟩
          · exact (Aj_up (x := (33, m_md t4, 8)) (Aj_sub (y := (55, n, 0)) hJ (Nat.le_of_ble_eq_true rfl)) (Or.inr (Nat.le_of_ble_eq_true rfl)))
          · show m_dp t34 = (dlt 33 + (dlt 55 + sD r))
            have : dlt 33 = 0 := rfl; have : dlt 54 = 0 := rfl; have : dlt 55 = 0 := rfl; omega
          · show m_rw t34 = (rho 33 + (rho 55 + sR r))
            have : rho 33 = 0 := rfl; have : rho 54 = 0 := rfl; have : rho 55 = 0 := rfl; omega
          · show m_md t34 + (mu7 33 + (mu7 55 + sM r)) ≤ 3 * m_at t34 + 7 * (r.length + 1 + 1) + 10
            have : mu7 33 = 7 := rfl; have : mu7 54 = 7 := rfl; have : mu7 55 = 4 := rfl; omega
          · show (wt 33 + (wt 55 + sW r)) + 6 * (4096 - m_at t34) + 4 * (600 - (r.length + 1 + 1)) < (wt 54 + sW r) + 6 * (4096 - m_at t0) + 4 * (600 - (r.length + 1))
            have : wt 33 = 2 := rfl; have : wt 54 = 5 := rfl; have : wt 55 = 0 := rfl; omega
  · refine Ok_ret (show Ok _ _ _ from ?_)
    refine Ok_ret (show Ok _ _ _ from ?_)
    refine Hv_mk hK (C_t0.1.2.2.2.2.2.2 hTt) C_t0 hT (by omega) (by omega) (by omega) ?_ ?_ ?_ (by omega) ?_ ?_ ?_
    · exact Stk_step (N := n) (pop := (54, n, t)) (new := []) F0 C_t0.1.to2 (fun (h : nk 54 = false) => absurd h (by decide)) (fun q _ h => h (54, n, t) rfl) (fun _ => rfl) (fun y hy hk => ⟨rfl, Mo_nil (n := n) y hy hk⟩) (fun (h : 54 = 3 ∨ 54 = 18 ∨ 54 = 41) => absurd h (by decide)) (fun (h : 54 = 18) => absurd h (by decide)) (fun (h : 54 = 41 ∨ 54 = 42 ∨ 54 = 43) => absurd h (by decide)) r [] (fun y hy => absurd hy List.not_mem_nil) hS
    · exact Aj_tl hJ
    · show m_dp t0 = sD r
      have : dlt 54 = 0 := rfl; omega
    · show m_rw t0 = sR r
      have : rho 54 = 0 := rfl; omega
    · show m_md t0 + sM r ≤ 3 * m_at t0 + 7 * (r.length) + 10
      have : mu7 54 = 7 := rfl; omega
    · show sW r + 6 * (4096 - m_at t0) + 4 * (600 - (r.length)) < (wt 54 + sW r) + 6 * (4096 - m_at t0) + 4 * (600 - (r.length + 1))
      have : wt 54 = 5 := rfl; omega

theorem S_54_t34 {t0 : Mm} {n t : Nat} {r : List It} (H : Hp t0 (54, n, t) r) {E : Mm → Prop} (hk0 : lo t0 (m_at t0) = 34) : Ok (Qh (mz t0 ((54, n, t) :: r))) E (b_X6_step 54 n t t0) := by
  obtain ⟨hK, hT, hc, hw0, ha, hC, hS, hJ, hdp, hdl, hrw, hmd, htd, hln, hm16, hI, hD, hTt⟩ := Hp_out H
  have C_t0 := hC n
  have F0 := C_t0.2.1
  have I_n_t0 : Nq t0 n := ⟨(hI.2.1 rfl).1, (hI.2.1 rfl).2.1, (hI.2.1 rfl).2.2, hI.2.2.2 rfl⟩
  have m_n_t0 := I_n_t0.1
  have ht : t < 4096 := hI.1.1 (show 54 ≠ 42 by decide) (show 54 ≠ 48 by decide)
  have hdp : m_dp t0 = dlt 54 + sD r := hdp
  have hrw : m_rw t0 = rho 54 + sR r := hrw
  have hmd : m_md t0 + mu7 54 + sM r ≤ 3 * m_at t0 + 7 * r.length + 17 := hmd
  have hand : t &&& 1 ≤ 1 := Nat.and_le_right
  have h01 : (0 &&& 1 : Nat) = 0 := rfl
  have h02 : (1 : Nat) * 256 = 256 := rfl
  have hq1 : dlt 54 = 0 := rfl
  have hq2 : rho 54 = 0 := rfl
  have hq3 : mu7 54 = 7 := rfl
  unfold b_X6_step
  refine Ok_ifl (by decide) (by decide) (fun _ => ?_) (fun q => absurd (by decide) q)
  refine Ok_ifl (by decide) (by decide) (fun q => absurd q (by decide)) (fun _ => ?_)
  refine Ok_ifl (by decide) (by decide) (fun q => absurd q (by decide)) (fun _ => ?_)
  refine Ok_ifl (by decide) (by decide) (fun q => absurd q (by decide)) (fun _ => ?_)
  refine Ok_bnc ?_
  try unfold b_X6_stating
  refine Ok_ck (by decide) ?_
  refine Ok_ife (by decide) (by decide) (fun q => absurd q (by decide)) (fun _ => ?_)
  refine Ok_ife (by decide) (by decide) (fun q => absurd q (by decide)) (fun _ => ?_)
  refine Ok_ife (by decide) (by decide) (fun q => absurd q (by decide)) (fun _ => ?_)
  refine Ok_ife (by decide) (by decide) (fun q => absurd q (by decide)) (fun _ => ?_)
  refine Ok_ife (by decide) (by decide) (fun q => absurd q (by decide)) (fun _ => ?_)
  refine Ok_ife (by decide) (by decide) (fun q => absurd q (by decide)) (fun _ => ?_)
  refine Ok_ife (by decide) (by decide) (fun q => absurd q (by decide)) (fun _ => ?_)
  refine Ok_ife (by decide) (by decide) (fun q => absurd q (by decide)) (fun _ => ?_)
  refine Ok_ife (by decide) (by decide) (fun q => absurd q (by decide)) (fun _ => ?_)
  refine Ok_ife (by decide) (by decide) (fun q => absurd q (by decide)) (fun _ => ?_)
  refine Ok_ife (by decide) (by decide) (fun q => absurd q (by decide)) (fun _ => ?_)
  refine Ok_ife (by decide) (by decide) (fun q => absurd q (by decide)) (fun _ => ?_)
  refine Ok_ife (by decide) (by decide) (fun q => absurd q (by decide)) (fun _ => ?_)
  refine Ok_ife (by decide) (by decide) (fun _ => ?_) (fun q => absurd (by decide) q)
  refine Ok_bnc ?_
  try unfold b_X6_tops
  refine Ok_ifl (show m_at t0 < 2147483648 from by omega) (show m_ct t0 < 2147483648 from by omega) (fun q3 => ?_) (fun q3 => ?_)
  · refine Kp_look C_t0 hT (by omega) ?_
    refine Kp_push C_t0 (by omega) (fun t4 C_t4 X_t4 a_t4 b_t4 d_t4 w_t4 u_t4 v_t4 j_t4 l_t4 => ?_)
    have e_t4 := C_t4.2.2.2.1
    have I_n_t4 := I_n_t0.flat X_t4
    refine Ok_ife (Nat.lt_trans (lo_lt (C_t0.tk hT) _) (by decide)) (by decide) (fun q => absurd (hk0.symm.trans q) (by decide)) (fun _ => ?_)
    refine Ok_ife (Nat.lt_trans (lo_lt (C_t0.tk hT) _) (by decide)) (by decide) (fun q => absurd (hk0.symm.trans q) (by decide)) (fun _ => ?_)
    refine Ok_ife (Nat.lt_trans (lo_lt (C_t0.tk hT) _) (by decide)) (by decide) (fun q => ?_) (fun q => absurd hk0 q)
    refine Ok_bnc ?_
    try unfold b_X6_declaration
    refine Kp_look C_t4 hT (by omega) ?_
    refine Ok_ife (Nat.lt_trans (lo_lt (C_t4.tk hT) _) (by decide)) (by decide) (fun q6 => ?_) (fun q6 => ?_)
    · refine Kp_child C_t4 I_n_t4.1 I_n_t4.2.1 I_n_t4.2.2.1 (by omega) (by omega) (by decide) (by decide) (fun t7 C_t7 X_t7 a_t7 b_t7 d_t7 w_t7 u_t7 v_t7 j_t7 l_t7 => ?_)
      have e_t7 := C_t7.2.2.2.1
      rw [a_t4] at a_t7
      rw [b_t4] at b_t7
      rw [d_t4] at d_t7
      rw [w_t4] at w_t7
      rw [u_t4] at u_t7
      rw [v_t4] at v_t7
      clear d_t4 w_t4 u_t4 v_t4 e_t4 a_t4
      have I_n_t7 := I_n_t4.chd X_t7 j_t7
      have f_n_t7 : Fz t7 n := j_t7.2.2.2.2.1
      have I_m_mdt4_t7 : Nq t7 (m_md t4) := Nq.chn j_t7 (by omega) I_n_t4 (by decide)
      have u_m_mdt4_t7 : Up t7 (m_md t4) := Or.inl j_t7.2.1
      have z_t8 : m_at t7 < m_ct t7 := lo_ne (Nat.ne_of_gt (show 0 < lo t7 (m_at t7) from by omega))
      refine Kp_at C_t7 (fun t8 C_t8 X_t8 a_t8 b_t8 d_t8 w_t8 u_t8 v_t8 j_t8 l_t8 => ?_)
      have e_t8 := C_t8.2.2.2.1
      rw [a_t7] at a_t8
      rw [b_t7] at b_t8
      rw [d_t7] at d_t8
      rw [w_t7] at w_t8
      rw [u_t7] at u_t8
      rw [v_t7] at v_t8
      rw [a_t7, e_t7] at z_t8
      clear d_t7 w_t7 u_t7 v_t7 e_t7 a_t7 b_t7
      have I_n_t8 := I_n_t7.flat X_t8
      have f_n_t8 := f_n_t7.ex I_n_t7 (X_t8 0)
      have I_m_mdt4_t8 := I_m_mdt4_t7.flat X_t8
      have u_m_mdt4_t8 := u_m_mdt4_t7.ex I_m_mdt4_t7 (X_t8 0)
      refine Kp_look C_t8 hT (by omega) ?_
      refine Ok_ife (Nat.lt_trans (lo_lt (C_t8.tk hT) _) (by decide)) (by decide) (fun q9 => ?_) (fun q9 => ?_)
      · refine Kp_more C_t8 (by omega) (by omega) (fun t10 C_t10 X_t10 a_t10 b_t10 d_t10 w_t10 u_t10 v_t10 j_t10 l_t10 => ?_)
        have e_t10 := C_t10.2.2.2.1
        rcases w_t10 with ⟨w_t10, y_t10⟩ | ⟨w_t10, wb_t10⟩
        · rw [a_t8] at a_t10
          rw [b_t8] at b_t10
          rw [d_t8] at d_t10
          rw [w_t8] at w_t10
          rw [u_t8] at u_t10
          rw [v_t8] at v_t10
          rw [d_t10] at y_t10
          clear d_t8 w_t8 u_t8 v_t8 e_t8 a_t8 b_t8
          have I_n_t10 := I_n_t8.flat X_t10
          have f_n_t10 := f_n_t8.ex I_n_t8 (X_t10 0)
          have I_m_mdt4_t10 := I_m_mdt4_t8.flat X_t10
          have u_m_mdt4_t10 := u_m_mdt4_t8.ex I_m_mdt4_t8 (X_t10 0)
          have z_t11 : m_at t10 < m_ct t10 := lo_ne (Nat.ne_of_gt (show 0 < lo t10 (m_at t10) from by omega))
          refine Kp_at C_t10 (fun t11 C_t11 X_t11 a_t11 b_t11 d_t11 w_t11 u_t11 v_t11 j_t11 l_t11 => ?_)
          have e_t11 := C_t11.2.2.2.1
          rw [a_t10] at a_t11
          rw [b_t10] at b_t11
          rw [d_t10] at d_t11
          rw [w_t10] at w_t11
          rw [u_t10] at u_t11
          rw [v_t10] at v_t11
          rw [a_t10, e_t10] at z_t11
          clear z_t8
          clear d_t10 w_t10 u_t10 v_t10 e_t10 a_t10 b_t10
          have I_n_t11 := I_n_t10.flat X_t11
          have f_n_t11 := f_n_t10.ex I_n_t10 (X_t11 0)
          have I_m_mdt4_t11 := I_m_mdt4_t10.flat X_t11
          have u_m_mdt4_t11 := u_m_mdt4_t10.ex I_m_mdt4_t10 (X_t11 0)
          refine Kp_push C_t11 (by omega) (fun t12 C_t12 X_t12 a_t12 b_t12 d_t12 w_t12 u_t12 v_t12 j_t12 l_t12 => ?_)
          have e_t12 := C_t12.2.2.2.1
          rw [a_t11] at a_t12
          rw [b_t11] at b_t12
          rw [d_t11] at d_t12
          rw [w_t11] at w_t12
          rw [u_t11] at u_t12
          rw [v_t11] at v_t12
          clear d_t11 w_t11 u_t11 v_t11 e_t11 a_t11 b_t11
          have I_n_t12 := I_n_t11.flat X_t12
          have f_n_t12 := f_n_t11.ex I_n_t11 (X_t12 0)
          have I_m_mdt4_t12 := I_m_mdt4_t11.flat X_t12
          have u_m_mdt4_t12 := u_m_mdt4_t11.ex I_m_mdt4_t11 (X_t12 0)
          refine Ok_ret (show Ok _ _ _ from ?_)
          refine Ok_ret (show Ok _ _ _ from ?_)
          refine Ok_ret (show Ok _ _ _ from ?_)
          refine Hv_mk (Kv_c (x := (34, m_md t4, 6)) rfl (Kv_c (x := (55, n, 0)) rfl hK)) (C_t12.1.2.2.2.2.2.2 hTt) C_t12 hT (by omega) (by omega) (by omega) ?_ ?_ ?_ (by omega) ?_ ?_ ?_
          · exact ⟨(Io_n (by decide) (by decide) I_m_mdt4_t12.1 I_m_mdt4_t12.2.1 I_m_mdt4_t12.2.2.1 (fun q => absurd q (by decide)) (fun _ => show 6 ≤ 8 from by omega) I_m_mdt4_t12.2.2.2), (Nd_0 (by decide) Mo_nil), ⟨(Io_n (by decide) (by decide) I_n_t12.1 I_n_t12.2.1 I_n_t12.2.2.1 (fun q => absurd q (by decide)) (fun q => absurd q (by decide)) I_n_t12.2.2.2), (Nd_0 (by decide) (Mo_cons (fun q => show n ≤ m_md t4 from by omega) Mo_nil)), Stk_step (N := n) (pop := (54, n, t)) (new := [(55, n, 0), (34, m_md t4, 6)]) F0 C_t12.1.to2 (fun (h : nk 54 = false) => absurd h (by decide)) (fun q _ h => h (54, n, t) rfl) (fun _ => rfl) (fun y hy hk => ⟨rfl, (Mo_cons (fun q => show n ≤ n from by omega) (Mo_cons (fun q => show n ≤ m_md t4 from by omega) Mo_nil)) y hy hk⟩) (fun (h : 54 = 3 ∨ 54 = 18 ∨ 54 = 41) => absurd h (by decide)) (fun (h : 54 = 18) => absurd h (by decide)) (fun (h : 54 = 41 ∨ 54 = 42 ∨ 54 = 43) => absurd h (by decide)) r [] (fun y hy => absurd hy List.not_mem_nil) hS⟩⟩
          · exact (Aj_up (x := (34, m_md t4, 6)) (Aj_sub (y := (55, n, 0)) hJ (Nat.le_of_ble_eq_true rfl)) (Or.inr (Nat.le_of_ble_eq_true rfl)))
          · show m_dp t12 = (dlt 34 + (dlt 55 + sD r))
            have : dlt 34 = 1 := rfl; have : dlt 54 = 0 := rfl; have : dlt 55 = 0 := rfl; omega
          · show m_rw t12 = (rho 34 + (rho 55 + sR r))
            have : rho 34 = 0 := rfl; have : rho 54 = 0 := rfl; have : rho 55 = 0 := rfl; omega
          · show m_md t12 + (mu7 34 + (mu7 55 + sM r)) ≤ 3 * m_at t12 + 7 * (r.length + 1 + 1) + 10
            have : mu7 34 = 4 := rfl; have : mu7 54 = 7 := rfl; have : mu7 55 = 4 := rfl; omega
          · show (wt 34 + (wt 55 + sW r)) + 6 * (4096 - m_at t12) + 4 * (600 - (r.length + 1 + 1)) < (wt 54 + sW r) + 6 * (4096 - m_at t0) + 4 * (600 - (r.length + 1))
            have : wt 34 = 0 := rfl; have : wt 54 = 5 := rfl; have : wt 55 = 0 := rfl; omega
        · have w_t10 := Nat.pos_of_ne_zero w_t10
          have I_n_t10 := I_n_t8.flat X_t10
          have f_n_t10 := f_n_t8.ex I_n_t8 (X_t10 0)
          have I_m_mdt4_t10 := I_m_mdt4_t8.flat X_t10
          have u_m_mdt4_t10 := u_m_mdt4_t8.ex I_m_mdt4_t8 (X_t10 0)
          refine Kp_at C_t10 (fun t13 C_t13 X_t13 a_t13 b_t13 d_t13 w_t13 u_t13 v_t13 j_t13 l_t13 => ?_)
          have e_t13 := C_t13.2.2.2.1
          have I_n_t13 := I_n_t10.flat X_t13
          have f_n_t13 := f_n_t10.ex I_n_t10 (X_t13 0)
          have I_m_mdt4_t13 := I_m_mdt4_t10.flat X_t13
          have u_m_mdt4_t13 := u_m_mdt4_t10.ex I_m_mdt4_t10 (X_t13 0)
          refine Kp_push C_t13 (by omega) (fun t14 C_t14 X_t14 a_t14 b_t14 d_t14 w_t14 u_t14 v_t14 j_t14 l_t14 => ?_)
          have e_t14 := C_t14.2.2.2.1
          have I_n_t14 := I_n_t13.flat X_t14
          have f_n_t14 := f_n_t13.ex I_n_t13 (X_t14 0)
          have I_m_mdt4_t14 := I_m_mdt4_t13.flat X_t14
          have u_m_mdt4_t14 := u_m_mdt4_t13.ex I_m_mdt4_t13 (X_t14 0)
          refine Ok_ret (show Ok _ _ _ from ?_)
          refine Ok_ret (show Ok _ _ _ from ?_)
          refine Ok_ret (show Ok _ _ _ from ?_)
          exact Or.inl ⟨Nat.ne_of_gt (show 0 < m_wr t14 from by omega), by omega, by omega, C_t14.2.2.2.2.2, by omega⟩
      · refine Kp_push C_t8 (by omega) (fun t15 C_t15 X_t15 a_t15 b_t15 d_t15 w_t15 u_t15 v_t15 j_t15 l_t15 => ?_)
        have e_t15 := C_t15.2.2.2.1
        rw [a_t8] at a_t15
        rw [b_t8] at b_t15
        rw [d_t8] at d_t15
        rw [w_t8] at w_t15
        rw [u_t8] at u_t15
        rw [v_t8] at v_t15
        clear d_t8 w_t8 u_t8 v_t8 e_t8 a_t8 b_t8
        have I_n_t15 := I_n_t8.flat X_t15
        have f_n_t15 := f_n_t8.ex I_n_t8 (X_t15 0)
        have I_m_mdt4_t15 := I_m_mdt4_t8.flat X_t15
        have u_m_mdt4_t15 := u_m_mdt4_t8.ex I_m_mdt4_t8 (X_t15 0)
        refine Ok_ret (show Ok _ _ _ from ?_)
        refine Ok_ret (show Ok _ _ _ from ?_)
        refine Ok_ret (show Ok _ _ _ from ?_)
        refine Hv_mk (Kv_c (x := (33, m_md t4, 6)) rfl (Kv_c (x := (55, n, 0)) rfl hK)) (C_t15.1.2.2.2.2.2.2 hTt) C_t15 hT (by omega) (by omega) (by omega) ?_ ?_ ?_ (by omega) ?_ ?_ ?_
        · exact ⟨(Io_n (by decide) (by decide) I_m_mdt4_t15.1 I_m_mdt4_t15.2.1 I_m_mdt4_t15.2.2.1 (fun q => absurd q (by decide)) (fun _ => show 6 ≤ 8 from by omega) I_m_mdt4_t15.2.2.2), (Nd_0 (by decide) Mo_nil), ⟨(Io_n (by decide) (by decide) I_n_t15.1 I_n_t15.2.1 I_n_t15.2.2.1 (fun q => absurd q (by decide)) (fun q => absurd q (by decide)) I_n_t15.2.2.2), (Nd_0 (by decide) (Mo_cons (fun q => show n ≤ m_md t4 from by omega) Mo_nil)), Stk_step (N := n) (pop := (54, n, t)) (new := [(55, n, 0), (33, m_md t4, 6)]) F0 C_t15.1.to2 (fun (h : nk 54 = false) => absurd h (by decide)) (fun q _ h => h (54, n, t) rfl) (fun _ => rfl) (fun y hy hk => ⟨rfl, (Mo_cons (fun q => show n ≤ n from by omega) (Mo_cons (fun q => show n ≤ m_md t4 from by omega) Mo_nil)) y hy hk⟩) (fun (h : 54 = 3 ∨ 54 = 18 ∨ 54 = 41) => absurd h (by decide)) (fun (h : 54 = 18) => absurd h (by decide)) (fun (h : 54 = 41 ∨ 54 = 42 ∨ 54 = 43) => absurd h (by decide)) r [] (fun y hy => absurd hy List.not_mem_nil) hS⟩⟩
        · exact (Aj_up (x := (33, m_md t4, 6)) (Aj_sub (y := (55, n, 0)) hJ (Nat.le_of_ble_eq_true rfl)) (Or.inr (Nat.le_of_ble_eq_true rfl)))
        · show m_dp t15 = (dlt 33 + (dlt 55 + sD r))
          have : dlt 33 = 0 := rfl; have : dlt 54 = 0 := rfl; have : dlt 55 = 0 := rfl; omega
        · show m_rw t15 = (rho 33 + (rho 55 + sR r))
          have : rho 33 = 0 := rfl; have : rho 54 = 0 := rfl; have : rho 55 = 0 := rfl; omega
        · show m_md t15 + (mu7 33 + (mu7 55 + sM r)) ≤ 3 * m_at t15 + 7 * (r.length + 1 + 1) + 10
          have : mu7 33 = 7 := rfl; have : mu7 54 = 7 := rfl; have : mu7 55 = 4 := rfl; omega
        · show (wt 33 + (wt 55 + sW r)) + 6 * (4096 - m_at t15) + 4 * (600 - (r.length + 1 + 1)) < (wt 54 + sW r) + 6 * (4096 - m_at t0) + 4 * (600 - (r.length + 1))
          have : wt 33 = 2 := rfl; have : wt 54 = 5 := rfl; have : wt 55 = 0 := rfl; omega
    · refine Kp_look C_t4 hT (by omega) ?_
      refine Ok_ife (Nat.lt_trans (lo_lt (C_t4.tk hT) _) (by decide)) (by decide) (fun q16 => ?_) (fun q16 => ?_)
      · refine Kp_child C_t4 I_n_t4.1 I_n_t4.2.1 I_n_t4.2.2.1 (by omega) (by omega) (by decide) (by decide) (fun t17 C_t17 X_t17 a_t17 b_t17 d_t17 w_t17 u_t17 v_t17 j_t17 l_t17 => ?_)
        have e_t17 := C_t17.2.2.2.1
        rw [a_t4] at a_t17
        rw [b_t4] at b_t17
        rw [d_t4] at d_t17
        rw [w_t4] at w_t17
        rw [u_t4] at u_t17
        rw [v_t4] at v_t17
        clear d_t4 w_t4 u_t4 v_t4 e_t4 a_t4
        have I_n_t17 := I_n_t4.chd X_t17 j_t17
        have f_n_t17 : Fz t17 n := j_t17.2.2.2.2.1
        have I_m_mdt4_t17 : Nq t17 (m_md t4) := Nq.chn j_t17 (by omega) I_n_t4 (by decide)
        have u_m_mdt4_t17 : Up t17 (m_md t4) := Or.inl j_t17.2.1
        have z_t18 : m_at t17 < m_ct t17 := lo_ne (Nat.ne_of_gt (show 0 < lo t17 (m_at t17) from by omega))
        refine Kp_at C_t17 (fun t18 C_t18 X_t18 a_t18 b_t18 d_t18 w_t18 u_t18 v_t18 j_t18 l_t18 => ?_)
        have e_t18 := C_t18.2.2.2.1
        rw [a_t17] at a_t18
        rw [b_t17] at b_t18
        rw [d_t17] at d_t18
        rw [w_t17] at w_t18
        rw [u_t17] at u_t18
        rw [v_t17] at v_t18
        rw [a_t17, e_t17] at z_t18
        clear d_t17 w_t17 u_t17 v_t17 e_t17 a_t17 b_t17
        have I_n_t18 := I_n_t17.flat X_t18
        have f_n_t18 := f_n_t17.ex I_n_t17 (X_t18 0)
        have I_m_mdt4_t18 := I_m_mdt4_t17.flat X_t18
        have u_m_mdt4_t18 := u_m_mdt4_t17.ex I_m_mdt4_t17 (X_t18 0)
        refine Kp_look C_t18 hT (by omega) ?_
        refine Ok_ife (Nat.lt_trans (lo_lt (C_t18.tk hT) _) (by decide)) (by decide) (fun q19 => ?_) (fun q19 => ?_)
        · refine Kp_more C_t18 (by omega) (by omega) (fun t20 C_t20 X_t20 a_t20 b_t20 d_t20 w_t20 u_t20 v_t20 j_t20 l_t20 => ?_)
          have e_t20 := C_t20.2.2.2.1
          rcases w_t20 with ⟨w_t20, y_t20⟩ | ⟨w_t20, wb_t20⟩
          · rw [a_t18] at a_t20
            rw [b_t18] at b_t20
            rw [d_t18] at d_t20
            rw [w_t18] at w_t20
            rw [u_t18] at u_t20
            rw [v_t18] at v_t20
            rw [d_t20] at y_t20
            clear d_t18 w_t18 u_t18 v_t18 e_t18 a_t18 b_t18
            have I_n_t20 := I_n_t18.flat X_t20
            have f_n_t20 := f_n_t18.ex I_n_t18 (X_t20 0)
            have I_m_mdt4_t20 := I_m_mdt4_t18.flat X_t20
            have u_m_mdt4_t20 := u_m_mdt4_t18.ex I_m_mdt4_t18 (X_t20 0)
            have z_t21 : m_at t20 < m_ct t20 := lo_ne (Nat.ne_of_gt (show 0 < lo t20 (m_at t20) from by omega))
            refine Kp_at C_t20 (fun t21 C_t21 X_t21 a_t21 b_t21 d_t21 w_t21 u_t21 v_t21 j_t21 l_t21 => ?_)
            have e_t21 := C_t21.2.2.2.1
            rw [a_t20] at a_t21
            rw [b_t20] at b_t21
            rw [d_t20] at d_t21
            rw [w_t20] at w_t21
            rw [u_t20] at u_t21
            rw [v_t20] at v_t21
            rw [a_t20, e_t20] at z_t21
            clear z_t18
            clear d_t20 w_t20 u_t20 v_t20 e_t20 a_t20 b_t20
            have I_n_t21 := I_n_t20.flat X_t21
            have f_n_t21 := f_n_t20.ex I_n_t20 (X_t21 0)
            have I_m_mdt4_t21 := I_m_mdt4_t20.flat X_t21
            have u_m_mdt4_t21 := u_m_mdt4_t20.ex I_m_mdt4_t20 (X_t21 0)
            refine Kp_push C_t21 (by omega) (fun t22 C_t22 X_t22 a_t22 b_t22 d_t22 w_t22 u_t22 v_t22 j_t22 l_t22 => ?_)
            have e_t22 := C_t22.2.2.2.1
            rw [a_t21] at a_t22
            rw [b_t21] at b_t22
            rw [d_t21] at d_t22
            rw [w_t21] at w_t22
            rw [u_t21] at u_t22
            rw [v_t21] at v_t22
            clear d_t21 w_t21 u_t21 v_t21 e_t21 a_t21 b_t21
            have I_n_t22 := I_n_t21.flat X_t22
            have f_n_t22 := f_n_t21.ex I_n_t21 (X_t22 0)
            have I_m_mdt4_t22 := I_m_mdt4_t21.flat X_t22
            have u_m_mdt4_t22 := u_m_mdt4_t21.ex I_m_mdt4_t21 (X_t22 0)
            refine Ok_ret (show Ok _ _ _ from ?_)
            refine Ok_ret (show Ok _ _ _ from ?_)
            refine Ok_ret (show Ok _ _ _ from ?_)
            refine Hv_mk (Kv_c (x := (34, m_md t4, 7)) rfl (Kv_c (x := (55, n, 0)) rfl hK)) (C_t22.1.2.2.2.2.2.2 hTt) C_t22 hT (by omega) (by omega) (by omega) ?_ ?_ ?_ (by omega) ?_ ?_ ?_
            · exact ⟨(Io_n (by decide) (by decide) I_m_mdt4_t22.1 I_m_mdt4_t22.2.1 I_m_mdt4_t22.2.2.1 (fun q => absurd q (by decide)) (fun _ => show 7 ≤ 8 from by omega) I_m_mdt4_t22.2.2.2), (Nd_0 (by decide) Mo_nil), ⟨(Io_n (by decide) (by decide) I_n_t22.1 I_n_t22.2.1 I_n_t22.2.2.1 (fun q => absurd q (by decide)) (fun q => absurd q (by decide)) I_n_t22.2.2.2), (Nd_0 (by decide) (Mo_cons (fun q => show n ≤ m_md t4 from by omega) Mo_nil)), Stk_step (N := n) (pop := (54, n, t)) (new := [(55, n, 0), (34, m_md t4, 7)]) F0 C_t22.1.to2 (fun (h : nk 54 = false) => absurd h (by decide)) (fun q _ h => h (54, n, t) rfl) (fun _ => rfl) (fun y hy hk => ⟨rfl, (Mo_cons (fun q => show n ≤ n from by omega) (Mo_cons (fun q => show n ≤ m_md t4 from by omega) Mo_nil)) y hy hk⟩) (fun (h : 54 = 3 ∨ 54 = 18 ∨ 54 = 41) => absurd h (by decide)) (fun (h : 54 = 18) => absurd h (by decide)) (fun (h : 54 = 41 ∨ 54 = 42 ∨ 54 = 43) => absurd h (by decide)) r [] (fun y hy => absurd hy List.not_mem_nil) hS⟩⟩
            · exact (Aj_up (x := (34, m_md t4, 7)) (Aj_sub (y := (55, n, 0)) hJ (Nat.le_of_ble_eq_true rfl)) (Or.inr (Nat.le_of_ble_eq_true rfl)))
            · show m_dp t22 = (dlt 34 + (dlt 55 + sD r))
              have : dlt 34 = 1 := rfl; have : dlt 54 = 0 := rfl; have : dlt 55 = 0 := rfl; omega
            · show m_rw t22 = (rho 34 + (rho 55 + sR r))
              have : rho 34 = 0 := rfl; have : rho 54 = 0 := rfl; have : rho 55 = 0 := rfl; omega
            · show m_md t22 + (mu7 34 + (mu7 55 + sM r)) ≤ 3 * m_at t22 + 7 * (r.length + 1 + 1) + 10
              have : mu7 34 = 4 := rfl; have : mu7 54 = 7 := rfl; have : mu7 55 = 4 := rfl; omega
            · show (wt 34 + (wt 55 + sW r)) + 6 * (4096 - m_at t22) + 4 * (600 - (r.length + 1 + 1)) < (wt 54 + sW r) + 6 * (4096 - m_at t0) + 4 * (600 - (r.length + 1))
              have : wt 34 = 0 := rfl; have : wt 54 = 5 := rfl; have : wt 55 = 0 := rfl; omega
          · have w_t20 := Nat.pos_of_ne_zero w_t20
            have I_n_t20 := I_n_t18.flat X_t20
            have f_n_t20 := f_n_t18.ex I_n_t18 (X_t20 0)
            have I_m_mdt4_t20 := I_m_mdt4_t18.flat X_t20
            have u_m_mdt4_t20 := u_m_mdt4_t18.ex I_m_mdt4_t18 (X_t20 0)
            refine Kp_at C_t20 (fun t23 C_t23 X_t23 a_t23 b_t23 d_t23 w_t23 u_t23 v_t23 j_t23 l_t23 => ?_)
            have e_t23 := C_t23.2.2.2.1
            have I_n_t23 := I_n_t20.flat X_t23
            have f_n_t23 := f_n_t20.ex I_n_t20 (X_t23 0)
            have I_m_mdt4_t23 := I_m_mdt4_t20.flat X_t23
            have u_m_mdt4_t23 := u_m_mdt4_t20.ex I_m_mdt4_t20 (X_t23 0)
            refine Kp_push C_t23 (by omega) (fun t24 C_t24 X_t24 a_t24 b_t24 d_t24 w_t24 u_t24 v_t24 j_t24 l_t24 => ?_)
            have e_t24 := C_t24.2.2.2.1
            have I_n_t24 := I_n_t23.flat X_t24
            have f_n_t24 := f_n_t23.ex I_n_t23 (X_t24 0)
            have I_m_mdt4_t24 := I_m_mdt4_t23.flat X_t24
            have u_m_mdt4_t24 := u_m_mdt4_t23.ex I_m_mdt4_t23 (X_t24 0)
            refine Ok_ret (show Ok _ _ _ from ?_)
            refine Ok_ret (show Ok _ _ _ from ?_)
            refine Ok_ret (show Ok _ _ _ from ?_)
            exact Or.inl ⟨Nat.ne_of_gt (show 0 < m_wr t24 from by omega), by omega, by omega, C_t24.2.2.2.2.2, by omega⟩
        · refine Kp_push C_t18 (by omega) (fun t25 C_t25 X_t25 a_t25 b_t25 d_t25 w_t25 u_t25 v_t25 j_t25 l_t25 => ?_)
          have e_t25 := C_t25.2.2.2.1
          rw [a_t18] at a_t25
          rw [b_t18] at b_t25
          rw [d_t18] at d_t25
          rw [w_t18] at w_t25
          rw [u_t18] at u_t25
          rw [v_t18] at v_t25
          clear d_t18 w_t18 u_t18 v_t18 e_t18 a_t18 b_t18
          have I_n_t25 := I_n_t18.flat X_t25
          have f_n_t25 := f_n_t18.ex I_n_t18 (X_t25 0)
          have I_m_mdt4_t25 := I_m_mdt4_t18.flat X_t25
          have u_m_mdt4_t25 := u_m_mdt4_t18.ex I_m_mdt4_t18 (X_t25 0)
          refine Ok_ret (show Ok _ _ _ from ?_)
          refine Ok_ret (show Ok _ _ _ from ?_)
          refine Ok_ret (show Ok _ _ _ from ?_)
          refine Hv_mk (Kv_c (x := (33, m_md t4, 7)) rfl (Kv_c (x := (55, n, 0)) rfl hK)) (C_t25.1.2.2.2.2.2.2 hTt) C_t25 hT (by omega) (by omega) (by omega) ?_ ?_ ?_ (by omega) ?_ ?_ ?_
          · exact ⟨(Io_n (by decide) (by decide) I_m_mdt4_t25.1 I_m_mdt4_t25.2.1 I_m_mdt4_t25.2.2.1 (fun q => absurd q (by decide)) (fun _ => show 7 ≤ 8 from by omega) I_m_mdt4_t25.2.2.2), (Nd_0 (by decide) Mo_nil), ⟨(Io_n (by decide) (by decide) I_n_t25.1 I_n_t25.2.1 I_n_t25.2.2.1 (fun q => absurd q (by decide)) (fun q => absurd q (by decide)) I_n_t25.2.2.2), (Nd_0 (by decide) (Mo_cons (fun q => show n ≤ m_md t4 from by omega) Mo_nil)), Stk_step (N := n) (pop := (54, n, t)) (new := [(55, n, 0), (33, m_md t4, 7)]) F0 C_t25.1.to2 (fun (h : nk 54 = false) => absurd h (by decide)) (fun q _ h => h (54, n, t) rfl) (fun _ => rfl) (fun y hy hk => ⟨rfl, (Mo_cons (fun q => show n ≤ n from by omega) (Mo_cons (fun q => show n ≤ m_md t4 from by omega) Mo_nil)) y hy hk⟩) (fun (h : 54 = 3 ∨ 54 = 18 ∨ 54 = 41) => absurd h (by decide)) (fun (h : 54 = 18) => absurd h (by decide)) (fun (h : 54 = 41 ∨ 54 = 42 ∨ 54 = 43) => absurd h (by decide)) r [] (fun y hy => absurd hy List.not_mem_nil) hS⟩⟩
          · exact (Aj_up (x := (33, m_md t4, 7)) (Aj_sub (y := (55, n, 0)) hJ (Nat.le_of_ble_eq_true rfl)) (Or.inr (Nat.le_of_ble_eq_true rfl)))
          · show m_dp t25 = (dlt 33 + (dlt 55 + sD r))
            have : dlt 33 = 0 := rfl; have : dlt 54 = 0 := rfl; have : dlt 55 = 0 := rfl; omega
          · show m_rw t25 = (rho 33 + (rho 55 + sR r))
            have : rho 33 = 0 := rfl; have : rho 54 = 0 := rfl; have : rho 55 = 0 := rfl; omega
          · show m_md t25 + (mu7 33 + (mu7 55 + sM r)) ≤ 3 * m_at t25 + 7 * (r.length + 1 + 1) + 10
            have : mu7 33 = 7 := rfl; have : mu7 54 = 7 := rfl; have : mu7 55 = 4 := rfl; omega
          · show (wt 33 + (wt 55 + sW r)) + 6 * (4096 - m_at t25) + 4 * (600 - (r.length + 1 + 1)) < (wt 54 + sW r) + 6 * (4096 - m_at t0) + 4 * (600 - (r.length + 1))
            have : wt 33 = 2 := rfl; have : wt 54 = 5 := rfl; have : wt 55 = 0 := rfl; omega
      · refine Kp_child C_t4 I_n_t4.1 I_n_t4.2.1 I_n_t4.2.2.1 (by omega) (by omega) (by decide) (by decide) (fun t26 C_t26 X_t26 a_t26 b_t26 d_t26 w_t26 u_t26 v_t26 j_t26 l_t26 => ?_)
        have e_t26 := C_t26.2.2.2.1
        rw [a_t4] at a_t26
        rw [b_t4] at b_t26
        rw [d_t4] at d_t26
        rw [w_t4] at w_t26
        rw [u_t4] at u_t26
        rw [v_t4] at v_t26
        clear d_t4 w_t4 u_t4 v_t4 e_t4 a_t4
        have I_n_t26 := I_n_t4.chd X_t26 j_t26
        have f_n_t26 : Fz t26 n := j_t26.2.2.2.2.1
        have I_m_mdt4_t26 : Nq t26 (m_md t4) := Nq.chn j_t26 (by omega) I_n_t4 (by decide)
        have u_m_mdt4_t26 : Up t26 (m_md t4) := Or.inl j_t26.2.1
        have z_t27 : m_at t26 < m_ct t26 := lo_ne (Nat.ne_of_gt (show 0 < lo t26 (m_at t26) from by omega))
        refine Kp_at C_t26 (fun t27 C_t27 X_t27 a_t27 b_t27 d_t27 w_t27 u_t27 v_t27 j_t27 l_t27 => ?_)
        have e_t27 := C_t27.2.2.2.1
        rw [a_t26] at a_t27
        rw [b_t26] at b_t27
        rw [d_t26] at d_t27
        rw [w_t26] at w_t27
        rw [u_t26] at u_t27
        rw [v_t26] at v_t27
        rw [a_t26, e_t26] at z_t27
        clear d_t26 w_t26 u_t26 v_t26 e_t26 a_t26 b_t26
        have I_n_t27 := I_n_t26.flat X_t27
        have f_n_t27 := f_n_t26.ex I_n_t26 (X_t27 0)
        have I_m_mdt4_t27 := I_m_mdt4_t26.flat X_t27
        have u_m_mdt4_t27 := u_m_mdt4_t26.ex I_m_mdt4_t26 (X_t27 0)
        refine Kp_look C_t27 hT (by omega) ?_
        refine Ok_ife (Nat.lt_trans (lo_lt (C_t27.tk hT) _) (by decide)) (by decide) (fun q28 => ?_) (fun q28 => ?_)
        · refine Kp_more C_t27 (by omega) (by omega) (fun t29 C_t29 X_t29 a_t29 b_t29 d_t29 w_t29 u_t29 v_t29 j_t29 l_t29 => ?_)
          have e_t29 := C_t29.2.2.2.1
          rcases w_t29 with ⟨w_t29, y_t29⟩ | ⟨w_t29, wb_t29⟩
          · rw [a_t27] at a_t29
            rw [b_t27] at b_t29
            rw [d_t27] at d_t29
            rw [w_t27] at w_t29
            rw [u_t27] at u_t29
            rw [v_t27] at v_t29
            rw [d_t29] at y_t29
            clear d_t27 w_t27 u_t27 v_t27 e_t27 a_t27 b_t27
            have I_n_t29 := I_n_t27.flat X_t29
            have f_n_t29 := f_n_t27.ex I_n_t27 (X_t29 0)
            have I_m_mdt4_t29 := I_m_mdt4_t27.flat X_t29
            have u_m_mdt4_t29 := u_m_mdt4_t27.ex I_m_mdt4_t27 (X_t29 0)
            have z_t30 : m_at t29 < m_ct t29 := lo_ne (Nat.ne_of_gt (show 0 < lo t29 (m_at t29) from by omega))
            refine Kp_at C_t29 (fun t30 C_t30 X_t30 a_t30 b_t30 d_t30 w_t30 u_t30 v_t30 j_t30 l_t30 => ?_)
            have e_t30 := C_t30.2.2.2.1
            rw [a_t29] at a_t30
            rw [b_t29] at b_t30
            rw [d_t29] at d_t30
            rw [w_t29] at w_t30
            rw [u_t29] at u_t30
            rw [v_t29] at v_t30
            rw [a_t29, e_t29] at z_t30
            clear z_t27
            clear d_t29 w_t29 u_t29 v_t29 e_t29 a_t29 b_t29
            have I_n_t30 := I_n_t29.flat X_t30
            have f_n_t30 := f_n_t29.ex I_n_t29 (X_t30 0)
            have I_m_mdt4_t30 := I_m_mdt4_t29.flat X_t30
            have u_m_mdt4_t30 := u_m_mdt4_t29.ex I_m_mdt4_t29 (X_t30 0)
            refine Kp_push C_t30 (by omega) (fun t31 C_t31 X_t31 a_t31 b_t31 d_t31 w_t31 u_t31 v_t31 j_t31 l_t31 => ?_)
            have e_t31 := C_t31.2.2.2.1
            rw [a_t30] at a_t31
            rw [b_t30] at b_t31
            rw [d_t30] at d_t31
            rw [w_t30] at w_t31
            rw [u_t30] at u_t31
            rw [v_t30] at v_t31
            clear d_t30 w_t30 u_t30 v_t30 e_t30 a_t30 b_t30
            have I_n_t31 := I_n_t30.flat X_t31
            have f_n_t31 := f_n_t30.ex I_n_t30 (X_t31 0)
            have I_m_mdt4_t31 := I_m_mdt4_t30.flat X_t31
            have u_m_mdt4_t31 := u_m_mdt4_t30.ex I_m_mdt4_t30 (X_t31 0)
            refine Ok_ret (show Ok _ _ _ from ?_)
            refine Ok_ret (show Ok _ _ _ from ?_)
            refine Ok_ret (show Ok _ _ _ from ?_)
            refine Hv_mk (Kv_c (x := (34, m_md t4, 8)) rfl (Kv_c (x := (55, n, 0)) rfl hK)) (C_t31.1.2.2.2.2.2.2 hTt) C_t31 hT (by omega) (by omega) (by omega) ?_ ?_ ?_ (by omega) ?_ ?_ ?_
            · exact ⟨(Io_n (by decide) (by decide) I_m_mdt4_t31.1 I_m_mdt4_t31.2.1 I_m_mdt4_t31.2.2.1 (fun q => absurd q (by decide)) (fun _ => show 8 ≤ 8 from by omega) I_m_mdt4_t31.2.2.2), (Nd_0 (by decide) Mo_nil), ⟨(Io_n (by decide) (by decide) I_n_t31.1 I_n_t31.2.1 I_n_t31.2.2.1 (fun q => absurd q (by decide)) (fun q => absurd q (by decide)) I_n_t31.2.2.2), (Nd_0 (by decide) (Mo_cons (fun q => show n ≤ m_md t4 from by omega) Mo_nil)), Stk_step (N := n) (pop := (54, n, t)) (new := [(55, n, 0), (34, m_md t4, 8)]) F0 C_t31.1.to2 (fun (h : nk 54 = false) => absurd h (by decide)) (fun q _ h => h (54, n, t) rfl) (fun _ => rfl) (fun y hy hk => ⟨rfl, (Mo_cons (fun q => show n ≤ n from by omega) (Mo_cons (fun q => show n ≤ m_md t4 from by omega) Mo_nil)) y hy hk⟩) (fun (h : 54 = 3 ∨ 54 = 18 ∨ 54 = 41) => absurd h (by decide)) (fun (h : 54 = 18) => absurd h (by decide)) (fun (h : 54 = 41 ∨ 54 = 42 ∨ 54 = 43) => absurd h (by decide)) r [] (fun y hy => absurd hy List.not_mem_nil) hS⟩⟩
            · exact (Aj_up (x := (34, m_md t4, 8)) (Aj_sub (y := (55, n, 0)) hJ (Nat.le_of_ble_eq_true rfl)) (Or.inr (Nat.le_of_ble_eq_true rfl)))
            · show m_dp t31 = (dlt 34 + (dlt 55 + sD r))
              have : dlt 34 = 1 := rfl; have : dlt 54 = 0 := rfl; have : dlt 55 = 0 := rfl; omega
            · show m_rw t31 = (rho 34 + (rho 55 + sR r))
              have : rho 34 = 0 := rfl; have : rho 54 = 0 := rfl; have : rho 55 = 0 := rfl; omega
            · show m_md t31 + (mu7 34 + (mu7 55 + sM r)) ≤ 3 * m_at t31 + 7 * (r.length + 1 + 1) + 10
              have : mu7 34 = 4 := rfl; have : mu7 54 = 7 := rfl; have : mu7 55 = 4 := rfl; omega
            · show (wt 34 + (wt 55 + sW r)) + 6 * (4096 - m_at t31) + 4 * (600 - (r.length + 1 + 1)) < (wt 54 + sW r) + 6 * (4096 - m_at t0) + 4 * (600 - (r.length + 1))
              have : wt 34 = 0 := rfl; have : wt 54 = 5 := rfl; have : wt 55 = 0 := rfl; omega
          · have w_t29 := Nat.pos_of_ne_zero w_t29
            have I_n_t29 := I_n_t27.flat X_t29
            have f_n_t29 := f_n_t27.ex I_n_t27 (X_t29 0)
            have I_m_mdt4_t29 := I_m_mdt4_t27.flat X_t29
            have u_m_mdt4_t29 := u_m_mdt4_t27.ex I_m_mdt4_t27 (X_t29 0)
            refine Kp_at C_t29 (fun t32 C_t32 X_t32 a_t32 b_t32 d_t32 w_t32 u_t32 v_t32 j_t32 l_t32 => ?_)
            have e_t32 := C_t32.2.2.2.1
            have I_n_t32 := I_n_t29.flat X_t32
            have f_n_t32 := f_n_t29.ex I_n_t29 (X_t32 0)
            have I_m_mdt4_t32 := I_m_mdt4_t29.flat X_t32
            have u_m_mdt4_t32 := u_m_mdt4_t29.ex I_m_mdt4_t29 (X_t32 0)
            refine Kp_push C_t32 (by omega) (fun t33 C_t33 X_t33 a_t33 b_t33 d_t33 w_t33 u_t33 v_t33 j_t33 l_t33 => ?_)
            have e_t33 := C_t33.2.2.2.1
            have I_n_t33 := I_n_t32.flat X_t33
            have f_n_t33 := f_n_t32.ex I_n_t32 (X_t33 0)
            have I_m_mdt4_t33 := I_m_mdt4_t32.flat X_t33
            have u_m_mdt4_t33 := u_m_mdt4_t32.ex I_m_mdt4_t32 (X_t33 0)
            refine Ok_ret (show Ok _ _ _ from ?_)
            refine Ok_ret (show Ok _ _ _ from ?_)
            refine Ok_ret (show Ok _ _ _ from ?_)
            exact Or.inl ⟨Nat.ne_of_gt (show 0 < m_wr t33 from by omega), by omega, by omega, C_t33.2.2.2.2.2, by omega⟩
        · refine Kp_push C_t27 (by omega) (fun t34 C_t34 X_t34 a_t34 b_t34 d_t34 w_t34 u_t34 v_t34 j_t34 l_t34 => ?_)
          have e_t34 := C_t34.2.2.2.1
          rw [a_t27] at a_t34
          rw [b_t27] at b_t34
          rw [d_t27] at d_t34
          rw [w_t27] at w_t34
          rw [u_t27] at u_t34
          rw [v_t27] at v_t34
          clear d_t27 w_t27 u_t27 v_t27 e_t27 a_t27 b_t27
          have I_n_t34 := I_n_t27.flat X_t34
          have f_n_t34 := f_n_t27.ex I_n_t27 (X_t34 0)
          have I_m_mdt4_t34 := I_m_mdt4_t27.flat X_t34
          have u_m_mdt4_t34 := u_m_mdt4_t27.ex I_m_mdt4_t27 (X_t34 0)
          refine Ok_ret (show Ok _ _ _ from ?_)
          refine Ok_ret (show Ok _ _ _ from ?_)
          refine Ok_ret (show Ok _ _ _ from ?_)
          refine Hv_mk (Kv_c (x := (33, m_md t4, 8)) rfl (Kv_c (x := (55, n, 0)) rfl hK)) (C_t34.1.2.2.2.2.2.2 hTt) C_t34 hT (by omega) (by omega) (by omega) ?_ ?_ ?_ (by omega) ?_ ?_ ?_
          · exact ⟨(Io_n (by decide) (by decide) I_m_mdt4_t34.1 I_m_mdt4_t34.2.1 I_m_mdt4_t34.2.2.1 (fun q => absurd q (by decide)) (fun _ => show 8 ≤ 8 from by omega) I_m_mdt4_t34.2.2.2), (Nd_0 (by decide) Mo_nil), ⟨(Io_n (by decide) (by decide) I_n_t34.1 I_n_t34.2.1 I_n_t34.2.2.1 (fun q => absurd q (by decide)) (fun q => absurd q (by decide)) I_n_t34.2.2.2), (Nd_0 (by decide) (Mo_cons (fun q => show n ≤ m_md t4 from by omega) Mo_nil)), Stk_step (N := n) (pop := (54, n, t)) (new := [(55, n, 0), (33, m_md t4, 8)]) F0 C_t34.1.to2 (fun (h : nk 54 = false) => absurd h (by decide)) (fun q _ h => h (54, n, t) rfl) (fun _ => rfl) (fun y hy hk => ⟨rfl, (Mo_cons (fun q => show n ≤ n from by omega) (Mo_cons (fun q => show n ≤ m_md t4 from by omega) Mo_nil)) y hy hk⟩) (fun (h : 54 = 3 ∨ 54 = 18 ∨ 54 = 41) => absurd h (by decide)) (fun (h : 54 = 18) => absurd h (by decide)) (fun (h : 54 = 41 ∨ 54 = 42 ∨ 54 = 43) => absurd h (by decide)) r [] (fun y hy => absurd hy List.not_mem_nil) hS⟩⟩
          · exact (Aj_up (x := (33, m_md t4, 8)) (Aj_sub (y := (55, n, 0)) hJ (Nat.le_of_ble_eq_true rfl)) (Or.inr (Nat.le_of_ble_eq_true rfl)))
          · show m_dp t34 = (dlt 33 + (dlt 55 + sD r))
            have : dlt 33 = 0 := rfl; have : dlt 54 = 0 := rfl; have : dlt 55 = 0 := rfl; omega
          · show m_rw t34 = (rho 33 + (rho 55 + sR r))
            have : rho 33 = 0 := rfl; have : rho 54 = 0 := rfl; have : rho 55 = 0 := rfl; omega
          · show m_md t34 + (mu7 33 + (mu7 55 + sM r)) ≤ 3 * m_at t34 + 7 * (r.length + 1 + 1) + 10
            have : mu7 33 = 7 := rfl; have : mu7 54 = 7 := rfl; have : mu7 55 = 4 := rfl; omega
          · show (wt 33 + (wt 55 + sW r)) + 6 * (4096 - m_at t34) + 4 * (600 - (r.length + 1 + 1)) < (wt 54 + sW r) + 6 * (4096 - m_at t0) + 4 * (600 - (r.length + 1))
            have : wt 33 = 2 := rfl; have : wt 54 = 5 := rfl; have : wt 55 = 0 := rfl; omega
  · refine Ok_ret (show Ok _ _ _ from ?_)
    refine Ok_ret (show Ok _ _ _ from ?_)
    refine Hv_mk hK (C_t0.1.2.2.2.2.2.2 hTt) C_t0 hT (by omega) (by omega) (by omega) ?_ ?_ ?_ (by omega) ?_ ?_ ?_
    · exact Stk_step (N := n) (pop := (54, n, t)) (new := []) F0 C_t0.1.to2 (fun (h : nk 54 = false) => absurd h (by decide)) (fun q _ h => h (54, n, t) rfl) (fun _ => rfl) (fun y hy hk => ⟨rfl, Mo_nil (n := n) y hy hk⟩) (fun (h : 54 = 3 ∨ 54 = 18 ∨ 54 = 41) => absurd h (by decide)) (fun (h : 54 = 18) => absurd h (by decide)) (fun (h : 54 = 41 ∨ 54 = 42 ∨ 54 = 43) => absurd h (by decide)) r [] (fun y hy => absurd hy List.not_mem_nil) hS
    · exact Aj_tl hJ
    · show m_dp t0 = sD r
      have : dlt 54 = 0 := rfl; omega
    · show m_rw t0 = sR r
      have : rho 54 = 0 := rfl; omega
    · show m_md t0 + sM r ≤ 3 * m_at t0 + 7 * (r.length) + 10
      have : mu7 54 = 7 := rfl; omega
    · show sW r + 6 * (4096 - m_at t0) + 4 * (600 - (r.length)) < (wt 54 + sW r) + 6 * (4096 - m_at t0) + 4 * (600 - (r.length + 1))
      have : wt 54 = 5 := rfl; omega

