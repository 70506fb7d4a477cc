/-! The steps of the reference, one by one. -/
theorem S_54_t20 {t0 : Mm} {n t : Nat} {r : List It} (H : Hp t0 (54, n, t) r) {E : Mm → Prop} (hk0 : lo t0 (m_at t0) = 20) : Ok (Qh (mz t0 ((54, n, t) :: r))) E (b_X6_step 54 n t t0) := by
  obtain ⟨hK, hT, hc, hw0, ha, hC, hS, hJ, hdp, hdl, hrw, hmd, htd, hln, hm16, hI, hD, hTt⟩ := Hp_out H
  have C_t0 := hC n
  have F0 := C_t0.2.1
  have I_n_t0 : Nq t0 n := ⟨(hI.2.1 rfl).1, (hI.2.1 rfl).2.1, (hI.2.1 rfl).2.2, hI.2.2.2 rfl⟩
  have m_n_t0 := I_n_t0.1
  have ht : t < 4096 := hI.1.1 (show 54 ≠ 42 by decide) (show 54 ≠ 48 by decide)
  have hdp : m_dp t0 = dlt 54 + sD r := hdp
  have hrw : m_rw t0 = rho 54 + sR r := hrw
  have hmd : m_md t0 + mu7 54 + sM r ≤ 3 * m_at t0 + 7 * r.length + 17 := hmd
  have hand : t &&& 1 ≤ 1 := Nat.and_le_right
  have h01 : (0 &&& 1 : Nat) = 0 := rfl
  have h02 : (1 : Nat) * 256 = 256 := rfl
  have hq1 : dlt 54 = 0 := rfl
  have hq2 : rho 54 = 0 := rfl
  have hq3 : mu7 54 = 7 := rfl
  unfold b_X6_step
  refine Ok_ifl (by decide) (by decide) (fun _ => ?_) (fun q => absurd (by decide) q)
  refine Ok_ifl (by decide) (by decide) (fun q => absurd q (by decide)) (fun _ => ?_)
  refine Ok_ifl (by decide) (by decide) (fun q => absurd q (by decide)) (fun _ => ?_)
  refine Ok_ifl (by decide) (by decide) (fun q => absurd q (by decide)) (fun _ => ?_)
  refine Ok_bnc ?_
  try unfold b_X6_stating
  refine Ok_ck (by decide) ?_
  refine Ok_ife (by decide) (by decide) (fun q => absurd q (by decide)) (fun _ => ?_)
  refine Ok_ife (by decide) (by decide) (fun q => absurd q (by decide)) (fun _ => ?_)
  refine Ok_ife (by decide) (by decide) (fun q => absurd q (by decide)) (fun _ => ?_)
  refine Ok_ife (by decide) (by decide) (fun q => absurd q (by decide)) (fun _ => ?_)
  refine Ok_ife (by decide) (by decide) (fun q => absurd q (by decide)) (fun _ => ?_)
  refine Ok_ife (by decide) (by decide) (fun q => absurd q (by decide)) (fun _ => ?_)
  refine Ok_ife (by decide) (by decide) (fun q => absurd q (by decide)) (fun _ => ?_)
  refine Ok_ife (by decide) (by decide) (fun q => absurd q (by decide)) (fun _ => ?_)
  refine Ok_ife (by decide) (by decide) (fun q => absurd q (by decide)) (fun _ => ?_)
  refine Ok_ife (by decide) (by decide) (fun q => absurd q (by decide)) (fun _ => ?_)
  refine Ok_ife (by decide) (by decide) (fun q => absurd q (by decide)) (fun _ => ?_)
  refine Ok_ife (by decide) (by decide) (fun q => absurd q (by decide)) (fun _ => ?_)
  refine Ok_ife (by decide) (by decide) (fun q => absurd q (by decide)) (fun _ => ?_)
  refine Ok_ife (by decide) (by decide) (fun _ => ?_) (fun q => absurd (by decide) q)
  refine Ok_bnc ?_
  try unfold b_X6_tops
  refine Ok_ifl (show m_at t0 < 2147483648 from by omega) (show m_ct t0 < 2147483648 from by omega) (fun q3 => ?_) (fun q3 => ?_)
  · refine Kp_look C_t0 hT (by omega) ?_
    refine Kp_push C_t0 (by omega) (fun t4 C_t4 X_t4 a_t4 b_t4 d_t4 w_t4 u_t4 v_t4 j_t4 l_t4 => ?_)
    have e_t4 := C_t4.2.2.2.1
    have I_n_t4 := I_n_t0.flat X_t4
    refine Ok_ife (Nat.lt_trans (lo_lt (C_t0.tk hT) _) (by decide)) (by decide) (fun q => absurd (hk0.symm.trans q) (by decide)) (fun _ => ?_)
    refine Ok_ife (Nat.lt_trans (lo_lt (C_t0.tk hT) _) (by decide)) (by decide) (fun q => absurd (hk0.symm.trans q) (by decide)) (fun _ => ?_)
    refine Ok_ife (Nat.lt_trans (lo_lt (C_t0.tk hT) _) (by decide)) (by decide) (fun q => absurd (hk0.symm.trans q) (by decide)) (fun _ => ?_)
    refine Ok_ife (Nat.lt_trans (lo_lt (C_t0.tk hT) _) (by decide)) (by decide) (fun q => ?_) (fun q => absurd hk0 q)
    refine Ok_bnc ?_
    try unfold b_X6_function
    refine Kp_ahead C_t4 hT (by omega) ?_
    refine Ok_ife (Nat.lt_trans (lo_lt (C_t4.tk hT) _) (by decide)) (by decide) (fun q6 => ?_) (fun q6 => ?_)
    · refine Kp_child C_t4 I_n_t4.1 I_n_t4.2.1 I_n_t4.2.2.1 (by omega) (by omega) (by decide) (by decide) (fun t7 C_t7 X_t7 a_t7 b_t7 d_t7 w_t7 u_t7 v_t7 j_t7 l_t7 => ?_)
      have e_t7 := C_t7.2.2.2.1
      rw [a_t4] at a_t7
      rw [b_t4] at b_t7
      rw [d_t4] at d_t7
      rw [w_t4] at w_t7
      rw [u_t4] at u_t7
      rw [v_t4] at v_t7
      clear d_t4 w_t4 u_t4 v_t4 e_t4
      have I_n_t7 := I_n_t4.chd X_t7 j_t7
      have f_n_t7 : Fz t7 n := j_t7.2.2.2.2.1
      have I_m_mdt4_t7 : Nq t7 (m_md t4) := Nq.chn j_t7 (by omega) I_n_t4 (by decide)
      have u_m_mdt4_t7 : Up t7 (m_md t4) := Or.inl j_t7.2.1
      have y9_t8 : m_at t7 = m_at t4 + 1 → lo t7 (m_at t7) = lo t4 (m_at t4 + 1) := fun h => lo_2 C_t7 C_t4 h
      have z_t8 : m_at t7 < m_ct t7 := lo_ne (Nat.ne_of_gt (show 0 < lo t7 (m_at t7) from by omega))
      refine Kp_at C_t7 (fun t8 C_t8 X_t8 a_t8 b_t8 d_t8 w_t8 u_t8 v_t8 j_t8 l_t8 => ?_)
      have e_t8 := C_t8.2.2.2.1
      rw [a_t7] at a_t8
      rw [b_t7] at b_t8
      rw [d_t7] at d_t8
      rw [w_t7] at w_t8
      rw [u_t7] at u_t8
      rw [v_t7] at v_t8
      rw [a_t7, e_t7] at z_t8
      clear d_t7 w_t7 u_t7 v_t7 e_t7 a_t7 b_t7
      have I_n_t8 := I_n_t7.flat X_t8
      have f_n_t8 := f_n_t7.ex I_n_t7 (X_t8 0)
      have I_m_mdt4_t8 := I_m_mdt4_t7.flat X_t8
      have u_m_mdt4_t8 := u_m_mdt4_t7.ex I_m_mdt4_t7 (X_t8 0)
      refine Kp_push C_t8 (by omega) (fun t9 C_t9 X_t9 a_t9 b_t9 d_t9 w_t9 u_t9 v_t9 j_t9 l_t9 => ?_)
      have e_t9 := C_t9.2.2.2.1
      rw [a_t8] at a_t9
      rw [b_t8] at b_t9
      rw [d_t8] at d_t9
      rw [w_t8] at w_t9
      rw [u_t8] at u_t9
      rw [v_t8] at v_t9
      clear d_t8 w_t8 u_t8 v_t8 e_t8 a_t8 b_t8
      have I_n_t9 := I_n_t8.flat X_t9
      have f_n_t9 := f_n_t8.ex I_n_t8 (X_t9 0)
      have I_m_mdt4_t9 := I_m_mdt4_t8.flat X_t9
      have u_m_mdt4_t9 := u_m_mdt4_t8.ex I_m_mdt4_t8 (X_t9 0)
      refine Kp_push C_t9 (by omega) (fun t10 C_t10 X_t10 a_t10 b_t10 d_t10 w_t10 u_t10 v_t10 j_t10 l_t10 => ?_)
      have e_t10 := C_t10.2.2.2.1
      rw [a_t9] at a_t10
      rw [b_t9] at b_t10
      rw [d_t9] at d_t10
      rw [w_t9] at w_t10
      rw [u_t9] at u_t10
      rw [v_t9] at v_t10
      clear d_t9 w_t9 u_t9 v_t9 e_t9 a_t9 b_t9
      have I_n_t10 := I_n_t9.flat X_t10
      have f_n_t10 := f_n_t9.ex I_n_t9 (X_t10 0)
      have I_m_mdt4_t10 := I_m_mdt4_t9.flat X_t10
      have u_m_mdt4_t10 := u_m_mdt4_t9.ex I_m_mdt4_t9 (X_t10 0)
      refine Kp_child C_t10 I_m_mdt4_t10.1 I_m_mdt4_t10.2.1 I_m_mdt4_t10.2.2.1 (by omega) (by omega) (by decide) (by decide) (fun t11 C_t11 X_t11 a_t11 b_t11 d_t11 w_t11 u_t11 v_t11 j_t11 l_t11 => ?_)
      have e_t11 := C_t11.2.2.2.1
      rw [a_t10] at a_t11
      rw [b_t10] at b_t11
      rw [d_t10] at d_t11
      rw [w_t10] at w_t11
      rw [u_t10] at u_t11
      rw [v_t10] at v_t11
      clear d_t10 w_t10 u_t10 v_t10 e_t10 a_t10
      have I_n_t11 := I_n_t10.chd X_t11 j_t11
      have f_n_t11 := f_n_t10.ex I_n_t10 (X_t11 0 (Nat.zero_le _))
      have I_m_mdt4_t11 := I_m_mdt4_t10.chd X_t11 j_t11
      have u_m_mdt4_t11 := u_m_mdt4_t10.ex I_m_mdt4_t10 (X_t11 0 (Nat.zero_le _))
      have f_m_mdt4_t11 : Fz t11 (m_md t4) := j_t11.2.2.2.2.1
      have I_m_mdt10_t11 : Nq t11 (m_md t10) := Nq.chn j_t11 (by omega) I_m_mdt4_t10 (by decide)
      have u_m_mdt10_t11 : Up t11 (m_md t10) := Or.inl j_t11.2.1
      refine Kp_more C_t11 (by omega) (by omega) (fun t12 C_t12 X_t12 a_t12 b_t12 d_t12 w_t12 u_t12 v_t12 j_t12 l_t12 => ?_)
      have e_t12 := C_t12.2.2.2.1
      rcases w_t12 with ⟨w_t12, y_t12⟩ | ⟨w_t12, wb_t12⟩
      · rw [a_t11] at a_t12
        rw [b_t11] at b_t12
        rw [d_t11] at d_t12
        rw [w_t11] at w_t12
        rw [u_t11] at u_t12
        rw [v_t11] at v_t12
        rw [d_t12] at y_t12
        clear d_t11 w_t11 u_t11 v_t11 e_t11 a_t11 b_t11
        have I_n_t12 := I_n_t11.flat X_t12
        have f_n_t12 := f_n_t11.ex I_n_t11 (X_t12 0)
        have I_m_mdt4_t12 := I_m_mdt4_t11.flat X_t12
        have f_m_mdt4_t12 := f_m_mdt4_t11.ex I_m_mdt4_t11 (X_t12 0)
        have u_m_mdt4_t12 := u_m_mdt4_t11.ex I_m_mdt4_t11 (X_t12 0)
        have I_m_mdt10_t12 := I_m_mdt10_t11.flat X_t12
        have u_m_mdt10_t12 := u_m_mdt10_t11.ex I_m_mdt10_t11 (X_t12 0)
        have y9_t13 : m_at t12 = m_at t4 + 1 → lo t12 (m_at t12) = lo t4 (m_at t4 + 1) := fun h => lo_2 C_t12 C_t4 h
        have y8_t13 : lo t12 (m_at t12) = lo t4 (m_at t4 + 1) := y9_t13 (by omega)
        have z_t13 : m_at t12 < m_ct t12 := lo_ne (Nat.ne_of_gt (show 0 < lo t12 (m_at t12) from by omega))
        refine Kp_at C_t12 (fun t13 C_t13 X_t13 a_t13 b_t13 d_t13 w_t13 u_t13 v_t13 j_t13 l_t13 => ?_)
        have e_t13 := C_t13.2.2.2.1
        rw [a_t12] at a_t13
        rw [b_t12] at b_t13
        rw [d_t12] at d_t13
        rw [w_t12] at w_t13
        rw [u_t12] at u_t13
        rw [v_t12] at v_t13
        rw [a_t12, e_t12] at z_t13
        clear z_t8
        clear d_t12 w_t12 u_t12 v_t12 e_t12 a_t12 b_t12
        have I_n_t13 := I_n_t12.flat X_t13
        have f_n_t13 := f_n_t12.ex I_n_t12 (X_t13 0)
        have I_m_mdt4_t13 := I_m_mdt4_t12.flat X_t13
        have f_m_mdt4_t13 := f_m_mdt4_t12.ex I_m_mdt4_t12 (X_t13 0)
        have u_m_mdt4_t13 := u_m_mdt4_t12.ex I_m_mdt4_t12 (X_t13 0)
        have I_m_mdt10_t13 := I_m_mdt10_t12.flat X_t13
        have u_m_mdt10_t13 := u_m_mdt10_t12.ex I_m_mdt10_t12 (X_t13 0)
        refine Kp_push C_t13 (by omega) (fun t14 C_t14 X_t14 a_t14 b_t14 d_t14 w_t14 u_t14 v_t14 j_t14 l_t14 => ?_)
        have e_t14 := C_t14.2.2.2.1
        rw [a_t13] at a_t14
        rw [b_t13] at b_t14
        rw [d_t13] at d_t14
        rw [w_t13] at w_t14
        rw [u_t13] at u_t14
        rw [v_t13] at v_t14
        clear d_t13 w_t13 u_t13 v_t13 e_t13 a_t13 b_t13
        have I_n_t14 := I_n_t13.flat X_t14
        have f_n_t14 := f_n_t13.ex I_n_t13 (X_t14 0)
        have I_m_mdt4_t14 := I_m_mdt4_t13.flat X_t14
        have f_m_mdt4_t14 := f_m_mdt4_t13.ex I_m_mdt4_t13 (X_t14 0)
        have u_m_mdt4_t14 := u_m_mdt4_t13.ex I_m_mdt4_t13 (X_t14 0)
        have I_m_mdt10_t14 := I_m_mdt10_t13.flat X_t14
        have u_m_mdt10_t14 := u_m_mdt10_t13.ex I_m_mdt10_t13 (X_t14 0)
        refine Kp_push C_t14 (by omega) (fun t15 C_t15 X_t15 a_t15 b_t15 d_t15 w_t15 u_t15 v_t15 j_t15 l_t15 => ?_)
        have e_t15 := C_t15.2.2.2.1
        rw [a_t14] at a_t15
        rw [b_t14] at b_t15
        rw [d_t14] at d_t15
        rw [w_t14] at w_t15
        rw [u_t14] at u_t15
        rw [v_t14] at v_t15
        clear d_t14 w_t14 u_t14 v_t14 e_t14 a_t14 b_t14
        have I_n_t15 := I_n_t14.flat X_t15
        have f_n_t15 := f_n_t14.ex I_n_t14 (X_t15 0)
        have I_m_mdt4_t15 := I_m_mdt4_t14.flat X_t15
        have f_m_mdt4_t15 := f_m_mdt4_t14.ex I_m_mdt4_t14 (X_t15 0)
        have u_m_mdt4_t15 := u_m_mdt4_t14.ex I_m_mdt4_t14 (X_t15 0)
        have I_m_mdt10_t15 := I_m_mdt10_t14.flat X_t15
        have u_m_mdt10_t15 := u_m_mdt10_t14.ex I_m_mdt10_t14 (X_t15 0)
        refine Kp_push C_t15 (by omega) (fun t16 C_t16 X_t16 a_t16 b_t16 d_t16 w_t16 u_t16 v_t16 j_t16 l_t16 => ?_)
        have e_t16 := C_t16.2.2.2.1
        rw [a_t15] at a_t16
        rw [b_t15] at b_t16
        rw [d_t15] at d_t16
        rw [w_t15] at w_t16
        rw [u_t15] at u_t16
        rw [v_t15] at v_t16
        clear d_t15 w_t15 u_t15 v_t15 e_t15 a_t15 b_t15
        have I_n_t16 := I_n_t15.flat X_t16
        have f_n_t16 := f_n_t15.ex I_n_t15 (X_t16 0)
        have I_m_mdt4_t16 := I_m_mdt4_t15.flat X_t16
        have f_m_mdt4_t16 := f_m_mdt4_t15.ex I_m_mdt4_t15 (X_t16 0)
        have u_m_mdt4_t16 := u_m_mdt4_t15.ex I_m_mdt4_t15 (X_t16 0)
        have I_m_mdt10_t16 := I_m_mdt10_t15.flat X_t16
        have u_m_mdt10_t16 := u_m_mdt10_t15.ex I_m_mdt10_t15 (X_t16 0)
        refine Kp_look C_t16 hT (by omega) ?_
        refine Ok_ife (Nat.lt_trans (lo_lt (C_t16.tk hT) _) (by decide)) (by decide) (fun q17 => ?_) (fun q17 => ?_)
        · refine Kp_ahead C_t16 hT (by omega) ?_
          refine Ok_ife (Nat.lt_trans (lo_lt (C_t16.tk hT) _) (by decide)) (by decide) (fun q18 => ?_) (fun q18 => ?_)
          · refine Ok_ret (show Ok _ _ _ from ?_)
            refine Ok_ret (show Ok _ _ _ from ?_)
            refine Ok_ret (show Ok _ _ _ from ?_)
            refine Hv_mk (Kv_c (x := (18, m_md t10, 0)) rfl (Kv_c (x := (8, 79, 0)) rfl (Kv_c (x := (57, m_md t4, 0)) rfl (Kv_c (x := (21, m_md t4, 0)) rfl (Kv_c (x := (38, m_md t4, 0)) rfl (Kv_c (x := (55, n, 0)) rfl hK)))))) (C_t16.1.2.2.2.2.2.2 hTt) C_t16 hT (by omega) (by omega) (by omega) ?_ ?_ ?_ (by omega) ?_ ?_ ?_
            · exact ⟨(Io_n (by decide) (by decide) I_m_mdt10_t16.1 I_m_mdt10_t16.2.1 I_m_mdt10_t16.2.2.1 (fun q => absurd q (by decide)) (fun q => absurd q (by decide)) I_m_mdt10_t16.2.2.2), (Nd_0 (by decide) Mo_nil), ⟨(Io_78 (by decide) (by decide) (by decide)), (Nd_x (by decide)), ⟨(Io_n (by decide) (by decide) I_m_mdt4_t16.1 I_m_mdt4_t16.2.1 I_m_mdt4_t16.2.2.1 (fun q => absurd q (by decide)) (fun q => absurd q (by decide)) I_m_mdt4_t16.2.2.2), (Nd_0 (by decide) (Mo_cons (fun q => absurd (show nk 8 = true from q) (by decide)) (Mo_cons (fun q => show m_md t4 ≤ m_md t10 from by omega) Mo_nil))), ⟨(Io_n (by decide) (by decide) I_m_mdt4_t16.1 I_m_mdt4_t16.2.1 I_m_mdt4_t16.2.2.1 (fun q => absurd q (by decide)) (fun q => absurd q (by decide)) I_m_mdt4_t16.2.2.2), (Nd_0 (by decide) (Mo_cons (fun q => show m_md t4 ≤ m_md t4 from by omega) (Mo_cons (fun q => absurd (show nk 8 = true from q) (by decide)) (Mo_cons (fun q => show m_md t4 ≤ m_md t10 from by omega) Mo_nil)))), ⟨(Io_n (by decide) (by decide) I_m_mdt4_t16.1 I_m_mdt4_t16.2.1 I_m_mdt4_t16.2.2.1 (fun q => absurd q (by decide)) (fun q => absurd q (by decide)) I_m_mdt4_t16.2.2.2), (Nd_0 (by decide) (Mo_cons (fun q => show m_md t4 ≤ m_md t4 from by omega) (Mo_cons (fun q => show m_md t4 ≤ m_md t4 from by omega) (Mo_cons (fun q => absurd (show nk 8 = true from q) (by decide)) (Mo_cons (fun q => show m_md t4 ≤ m_md t10 from by omega) Mo_nil))))), ⟨(Io_n (by decide) (by decide) I_n_t16.1 I_n_t16.2.1 I_n_t16.2.2.1 (fun q => absurd q (by decide)) (fun q => absurd q (by decide)) I_n_t16.2.2.2), (Nd_0 (by decide) (Mo_cons (fun q => show n ≤ m_md t4 from by omega) (Mo_cons (fun q => show n ≤ m_md t4 from by omega) (Mo_cons (fun q => show n ≤ m_md t4 from by omega) (Mo_cons (fun q => absurd (show nk 8 = true from q) (by decide)) (Mo_cons (fun q => show n ≤ m_md t10 from by omega) Mo_nil)))))), Stk_step (N := n) (pop := (54, n, t)) (new := [(55, n, 0), (38, m_md t4, 0), (21, m_md t4, 0), (57, m_md t4, 0), (8, 79, 0), (18, m_md t10, 0)]) F0 C_t16.1.to2 (fun (h : nk 54 = false) => absurd h (by decide)) (fun q _ h => h (54, n, t) rfl) (fun _ => rfl) (fun y hy hk => ⟨rfl, (Mo_cons (fun q => show n ≤ n from by omega) (Mo_cons (fun q => show n ≤ m_md t4 from by omega) (Mo_cons (fun q => show n ≤ m_md t4 from by omega) (Mo_cons (fun q => show n ≤ m_md t4 from by omega) (Mo_cons (fun q => absurd (show nk 8 = true from q) (by decide)) (Mo_cons (fun q => show n ≤ m_md t10 from by omega) Mo_nil)))))) y hy hk⟩) (fun (h : 54 = 3 ∨ 54 = 18 ∨ 54 = 41) => absurd h (by decide)) (fun (h : 54 = 18) => absurd h (by decide)) (fun (h : 54 = 41 ∨ 54 = 42 ∨ 54 = 43) => absurd h (by decide)) r [] (fun y hy => absurd hy List.not_mem_nil) hS⟩⟩⟩⟩⟩⟩
            · exact (Aj_up (x := (18, m_md t10, 0)) (Aj_up (x := (8, 79, 0)) (Aj_up (x := (57, m_md t4, 0)) (Aj_up (x := (21, m_md t4, 0)) (Aj_up (x := (38, m_md t4, 0)) (Aj_sub (y := (55, n, 0)) hJ (Nat.le_of_ble_eq_true rfl)) (Or.inr (Nat.le_of_ble_eq_true rfl))) (Or.inr (Nat.le_of_ble_eq_true rfl))) (Or.inr (Nat.le_of_ble_eq_true rfl))) (Or.inr (Nat.le_of_ble_eq_true rfl))) (Or.inl (Nat.le_of_ble_eq_true rfl)))
            · show m_dp t16 = (dlt 18 + (dlt 8 + (dlt 57 + (dlt 21 + (dlt 38 + (dlt 55 + sD r))))))
              have : dlt 18 = 0 := rfl; have : dlt 21 = 0 := rfl; have : dlt 38 = 0 := rfl; have : dlt 54 = 0 := rfl; have : dlt 55 = 0 := rfl; have : dlt 57 = 0 := rfl; have : dlt 8 = 1 := rfl; omega
            · show m_rw t16 = (rho 18 + (rho 8 + (rho 57 + (rho 21 + (rho 38 + (rho 55 + sR r))))))
              have : rho 18 = 0 := rfl; have : rho 21 = 0 := rfl; have : rho 38 = 0 := rfl; have : rho 54 = 0 := rfl; have : rho 55 = 0 := rfl; have : rho 57 = 0 := rfl; have : rho 8 = 0 := rfl; omega
            · show m_md t16 + (mu7 18 + (mu7 8 + (mu7 57 + (mu7 21 + (mu7 38 + (mu7 55 + sM r)))))) ≤ 3 * m_at t16 + 7 * (r.length + 1 + 1 + 1 + 1 + 1 + 1) + 10
              have : mu7 18 = 5 := rfl; have : mu7 21 = 3 := rfl; have : mu7 38 = 2 := rfl; have : mu7 54 = 7 := rfl; have : mu7 55 = 4 := rfl; have : mu7 57 = 5 := rfl; have : mu7 8 = 4 := rfl; omega
            · show (wt 18 + (wt 8 + (wt 57 + (wt 21 + (wt 38 + (wt 55 + sW r)))))) + 6 * (4096 - m_at t16) + 4 * (600 - (r.length + 1 + 1 + 1 + 1 + 1 + 1)) < (wt 54 + sW r) + 6 * (4096 - m_at t0) + 4 * (600 - (r.length + 1))
              have : wt 18 = 0 := rfl; have : wt 21 = 2 := rfl; have : wt 38 = 0 := rfl; have : wt 54 = 5 := rfl; have : wt 55 = 0 := rfl; have : wt 57 = 0 := rfl; have : wt 8 = 0 := rfl; omega
          · refine Ok_bnc ?_
            try unfold b_X6_name
            refine Kp_look C_t16 hT (by omega) ?_
            refine Ok_ife (Nat.lt_trans (lo_lt (C_t16.tk hT) _) (by decide)) (by decide) (fun q => ?_) (fun q => absurd q17 q)
            refine Kp_child C_t16 I_m_mdt10_t16.1 I_m_mdt10_t16.2.1 I_m_mdt10_t16.2.2.1 (by omega) (by omega) (by decide) (by decide) (fun t20 C_t20 X_t20 a_t20 b_t20 d_t20 w_t20 u_t20 v_t20 j_t20 l_t20 => ?_)
            have e_t20 := C_t20.2.2.2.1
            rw [a_t16] at a_t20
            rw [b_t16] at b_t20
            rw [d_t16] at d_t20
            rw [w_t16] at w_t20
            rw [u_t16] at u_t20
            rw [v_t16] at v_t20
            clear d_t16 w_t16 u_t16 v_t16 e_t16
            have I_n_t20 := I_n_t16.chd X_t20 j_t20
            have f_n_t20 := f_n_t16.ex I_n_t16 (X_t20 0 (Nat.zero_le _))
            have I_m_mdt4_t20 := I_m_mdt4_t16.chd X_t20 j_t20
            have f_m_mdt4_t20 := f_m_mdt4_t16.ex I_m_mdt4_t16 (X_t20 0 (Nat.zero_le _))
            have u_m_mdt4_t20 := u_m_mdt4_t16.ex I_m_mdt4_t16 (X_t20 0 (Nat.zero_le _))
            have I_m_mdt10_t20 := I_m_mdt10_t16.chd X_t20 j_t20
            have u_m_mdt10_t20 := u_m_mdt10_t16.ex I_m_mdt10_t16 (X_t20 0 (Nat.zero_le _))
            have f_m_mdt10_t20 : Fz t20 (m_md t10) := j_t20.2.2.2.2.1
            have I_m_mdt16_t20 : Nq t20 (m_md t16) := Nq.chn j_t20 (by omega) I_m_mdt10_t16 (by decide)
            have u_m_mdt16_t20 : Up t20 (m_md t16) := Or.inl j_t20.2.1
            have y9_t21 : m_at t20 = m_at t4 + 1 → lo t20 (m_at t20) = lo t4 (m_at t4 + 1) := fun h => lo_2 C_t20 C_t4 h
            have z_t21 : m_at t20 < m_ct t20 := lo_ne (Nat.ne_of_gt (show 0 < lo t20 (m_at t20) from by omega))
            refine Kp_at C_t20 (fun t21 C_t21 X_t21 a_t21 b_t21 d_t21 w_t21 u_t21 v_t21 j_t21 l_t21 => ?_)
            have e_t21 := C_t21.2.2.2.1
            rw [a_t20] at a_t21
            rw [b_t20] at b_t21
            rw [d_t20] at d_t21
            rw [w_t20] at w_t21
            rw [u_t20] at u_t21
            rw [v_t20] at v_t21
            rw [a_t20, e_t20] at z_t21
            clear z_t13
            clear d_t20 w_t20 u_t20 v_t20 e_t20 a_t20 b_t20
            have I_n_t21 := I_n_t20.flat X_t21
            have f_n_t21 := f_n_t20.ex I_n_t20 (X_t21 0)
            have I_m_mdt4_t21 := I_m_mdt4_t20.flat X_t21
            have f_m_mdt4_t21 := f_m_mdt4_t20.ex I_m_mdt4_t20 (X_t21 0)
            have u_m_mdt4_t21 := u_m_mdt4_t20.ex I_m_mdt4_t20 (X_t21 0)
            have I_m_mdt10_t21 := I_m_mdt10_t20.flat X_t21
            have f_m_mdt10_t21 := f_m_mdt10_t20.ex I_m_mdt10_t20 (X_t21 0)
            have u_m_mdt10_t21 := u_m_mdt10_t20.ex I_m_mdt10_t20 (X_t21 0)
            have I_m_mdt16_t21 := I_m_mdt16_t20.flat X_t21
            have u_m_mdt16_t21 := u_m_mdt16_t20.ex I_m_mdt16_t20 (X_t21 0)
            refine Ok_ret (show Ok _ _ _ from ?_)
            refine Ok_ret (show Ok _ _ _ from ?_)
            refine Ok_ret (show Ok _ _ _ from ?_)
            refine Ok_ret (show Ok _ _ _ from ?_)
            refine Hv_mk (Kv_c (x := (18, m_md t10, 0)) rfl (Kv_c (x := (8, 79, 0)) rfl (Kv_c (x := (57, m_md t4, 0)) rfl (Kv_c (x := (21, m_md t4, 0)) rfl (Kv_c (x := (38, m_md t4, 0)) rfl (Kv_c (x := (55, n, 0)) rfl hK)))))) (C_t21.1.2.2.2.2.2.2 hTt) C_t21 hT (by omega) (by omega) (by omega) ?_ ?_ ?_ (by omega) ?_ ?_ ?_
            · exact ⟨(Io_n (by decide) (by decide) I_m_mdt10_t21.1 I_m_mdt10_t21.2.1 I_m_mdt10_t21.2.2.1 (fun q => absurd q (by decide)) (fun q => absurd q (by decide)) I_m_mdt10_t21.2.2.2), (Nd_0 (by decide) Mo_nil), ⟨(Io_78 (by decide) (by decide) (by decide)), (Nd_x (by decide)), ⟨(Io_n (by decide) (by decide) I_m_mdt4_t21.1 I_m_mdt4_t21.2.1 I_m_mdt4_t21.2.2.1 (fun q => absurd q (by decide)) (fun q => absurd q (by decide)) I_m_mdt4_t21.2.2.2), (Nd_0 (by decide) (Mo_cons (fun q => absurd (show nk 8 = true from q) (by decide)) (Mo_cons (fun q => show m_md t4 ≤ m_md t10 from by omega) Mo_nil))), ⟨(Io_n (by decide) (by decide) I_m_mdt4_t21.1 I_m_mdt4_t21.2.1 I_m_mdt4_t21.2.2.1 (fun q => absurd q (by decide)) (fun q => absurd q (by decide)) I_m_mdt4_t21.2.2.2), (Nd_0 (by decide) (Mo_cons (fun q => show m_md t4 ≤ m_md t4 from by omega) (Mo_cons (fun q => absurd (show nk 8 = true from q) (by decide)) (Mo_cons (fun q => show m_md t4 ≤ m_md t10 from by omega) Mo_nil)))), ⟨(Io_n (by decide) (by decide) I_m_mdt4_t21.1 I_m_mdt4_t21.2.1 I_m_mdt4_t21.2.2.1 (fun q => absurd q (by decide)) (fun q => absurd q (by decide)) I_m_mdt4_t21.2.2.2), (Nd_0 (by decide) (Mo_cons (fun q => show m_md t4 ≤ m_md t4 from by omega) (Mo_cons (fun q => show m_md t4 ≤ m_md t4 from by omega) (Mo_cons (fun q => absurd (show nk 8 = true from q) (by decide)) (Mo_cons (fun q => show m_md t4 ≤ m_md t10 from by omega) Mo_nil))))), ⟨(Io_n (by decide) (by decide) I_n_t21.1 I_n_t21.2.1 I_n_t21.2.2.1 (fun q => absurd q (by decide)) (fun q => absurd q (by decide)) I_n_t21.2.2.2), (Nd_0 (by decide) (Mo_cons (fun q => show n ≤ m_md t4 from by omega) (Mo_cons (fun q => show n ≤ m_md t4 from by omega) (Mo_cons (fun q => show n ≤ m_md t4 from by omega) (Mo_cons (fun q => absurd (show nk 8 = true from q) (by decide)) (Mo_cons (fun q => show n ≤ m_md t10 from by omega) Mo_nil)))))), Stk_step (N := n) (pop := (54, n, t)) (new := [(55, n, 0), (38, m_md t4, 0), (21, m_md t4, 0), (57, m_md t4, 0), (8, 79, 0), (18, m_md t10, 0)]) F0 C_t21.1.to2 (fun (h : nk 54 = false) => absurd h (by decide)) (fun q _ h => h (54, n, t) rfl) (fun _ => rfl) (fun y hy hk => ⟨rfl, (Mo_cons (fun q => show n ≤ n from by omega) (Mo_cons (fun q => show n ≤ m_md t4 from by omega) (Mo_cons (fun q => show n ≤ m_md t4 from by omega) (Mo_cons (fun q => show n ≤ m_md t4 from by omega) (Mo_cons (fun q => absurd (show nk 8 = true from q) (by decide)) (Mo_cons (fun q => show n ≤ m_md t10 from by omega) Mo_nil)))))) y hy hk⟩) (fun (h : 54 = 3 ∨ 54 = 18 ∨ 54 = 41) => absurd h (by decide)) (fun (h : 54 = 18) => absurd h (by decide)) (fun (h : 54 = 41 ∨ 54 = 42 ∨ 54 = 43) => absurd h (by decide)) r [] (fun y hy => absurd hy List.not_mem_nil) hS⟩⟩⟩⟩⟩⟩
            · exact (Aj_up (x := (18, m_md t10, 0)) (Aj_up (x := (8, 79, 0)) (Aj_up (x := (57, m_md t4, 0)) (Aj_up (x := (21, m_md t4, 0)) (Aj_up (x := (38, m_md t4, 0)) (Aj_sub (y := (55, n, 0)) hJ (Nat.le_of_ble_eq_true rfl)) (Or.inr (Nat.le_of_ble_eq_true rfl))) (Or.inr (Nat.le_of_ble_eq_true rfl))) (Or.inr (Nat.le_of_ble_eq_true rfl))) (Or.inr (Nat.le_of_ble_eq_true rfl))) (Or.inl (Nat.le_of_ble_eq_true rfl)))
            · show m_dp t21 = (dlt 18 + (dlt 8 + (dlt 57 + (dlt 21 + (dlt 38 + (dlt 55 + sD r))))))
              have : dlt 18 = 0 := rfl; have : dlt 21 = 0 := rfl; have : dlt 38 = 0 := rfl; have : dlt 54 = 0 := rfl; have : dlt 55 = 0 := rfl; have : dlt 57 = 0 := rfl; have : dlt 8 = 1 := rfl; omega
            · show m_rw t21 = (rho 18 + (rho 8 + (rho 57 + (rho 21 + (rho 38 + (rho 55 + sR r))))))
              have : rho 18 = 0 := rfl; have : rho 21 = 0 := rfl; have : rho 38 = 0 := rfl; have : rho 54 = 0 := rfl; have : rho 55 = 0 := rfl; have : rho 57 = 0 := rfl; have : rho 8 = 0 := rfl; omega
            · show m_md t21 + (mu7 18 + (mu7 8 + (mu7 57 + (mu7 21 + (mu7 38 + (mu7 55 + sM r)))))) ≤ 3 * m_at t21 + 7 * (r.length + 1 + 1 + 1 + 1 + 1 + 1) + 10
              have : mu7 18 = 5 := rfl; have : mu7 21 = 3 := rfl; have : mu7 38 = 2 := rfl; have : mu7 54 = 7 := rfl; have : mu7 55 = 4 := rfl; have : mu7 57 = 5 := rfl; have : mu7 8 = 4 := rfl; omega
            · show (wt 18 + (wt 8 + (wt 57 + (wt 21 + (wt 38 + (wt 55 + sW r)))))) + 6 * (4096 - m_at t21) + 4 * (600 - (r.length + 1 + 1 + 1 + 1 + 1 + 1)) < (wt 54 + sW r) + 6 * (4096 - m_at t0) + 4 * (600 - (r.length + 1))
              have : wt 18 = 0 := rfl; have : wt 21 = 2 := rfl; have : wt 38 = 0 := rfl; have : wt 54 = 5 := rfl; have : wt 55 = 0 := rfl; have : wt 57 = 0 := rfl; have : wt 8 = 0 := rfl; omega
        · refine Ok_ret (show Ok _ _ _ from ?_)
          refine Ok_ret (show Ok _ _ _ from ?_)
          refine Ok_ret (show Ok _ _ _ from ?_)
          refine Hv_mk (Kv_c (x := (18, m_md t10, 0)) rfl (Kv_c (x := (8, 79, 0)) rfl (Kv_c (x := (57, m_md t4, 0)) rfl (Kv_c (x := (21, m_md t4, 0)) rfl (Kv_c (x := (38, m_md t4, 0)) rfl (Kv_c (x := (55, n, 0)) rfl hK)))))) (C_t16.1.2.2.2.2.2.2 hTt) C_t16 hT (by omega) (by omega) (by omega) ?_ ?_ ?_ (by omega) ?_ ?_ ?_
          · exact ⟨(Io_n (by decide) (by decide) I_m_mdt10_t16.1 I_m_mdt10_t16.2.1 I_m_mdt10_t16.2.2.1 (fun q => absurd q (by decide)) (fun q => absurd q (by decide)) I_m_mdt10_t16.2.2.2), (Nd_0 (by decide) Mo_nil), ⟨(Io_78 (by decide) (by decide) (by decide)), (Nd_x (by decide)), ⟨(Io_n (by decide) (by decide) I_m_mdt4_t16.1 I_m_mdt4_t16.2.1 I_m_mdt4_t16.2.2.1 (fun q => absurd q (by decide)) (fun q => absurd q (by decide)) I_m_mdt4_t16.2.2.2), (Nd_0 (by decide) (Mo_cons (fun q => absurd (show nk 8 = true from q) (by decide)) (Mo_cons (fun q => show m_md t4 ≤ m_md t10 from by omega) Mo_nil))), ⟨(Io_n (by decide) (by decide) I_m_mdt4_t16.1 I_m_mdt4_t16.2.1 I_m_mdt4_t16.2.2.1 (fun q => absurd q (by decide)) (fun q => absurd q (by decide)) I_m_mdt4_t16.2.2.2), (Nd_0 (by decide) (Mo_cons (fun q => show m_md t4 ≤ m_md t4 from by omega) (Mo_cons (fun q => absurd (show nk 8 = true from q) (by decide)) (Mo_cons (fun q => show m_md t4 ≤ m_md t10 from by omega) Mo_nil)))), ⟨(Io_n (by decide) (by decide) I_m_mdt4_t16.1 I_m_mdt4_t16.2.1 I_m_mdt4_t16.2.2.1 (fun q => absurd q (by decide)) (fun q => absurd q (by decide)) I_m_mdt4_t16.2.2.2), (Nd_0 (by decide) (Mo_cons (fun q => show m_md t4 ≤ m_md t4 from by omega) (Mo_cons (fun q => show m_md t4 ≤ m_md t4 from by omega) (Mo_cons (fun q => absurd (show nk 8 = true from q) (by decide)) (Mo_cons (fun q => show m_md t4 ≤ m_md t10 from by omega) Mo_nil))))), ⟨(Io_n (by decide) (by decide) I_n_t16.1 I_n_t16.2.1 I_n_t16.2.2.1 (fun q => absurd q (by decide)) (fun q => absurd q (by decide)) I_n_t16.2.2.2), (Nd_0 (by decide) (Mo_cons (fun q => show n ≤ m_md t4 from by omega) (Mo_cons (fun q => show n ≤ m_md t4 from by omega) (Mo_cons (fun q => show n ≤ m_md t4 from by omega) (Mo_cons (fun q => absurd (show nk 8 = true from q) (by decide)) (Mo_cons (fun q => show n ≤ m_md t10 from by omega) Mo_nil)))))), Stk_step (N := n) (pop := (54, n, t)) (new := [(55, n, 0), (38, m_md t4, 0), (21, m_md t4, 0), (57, m_md t4, 0), (8, 79, 0), (18, m_md t10, 0)]) F0 C_t16.1.to2 (fun (h : nk 54 = false) => absurd h (by decide)) (fun q _ h => h (54, n, t) rfl) (fun _ => rfl) (fun y hy hk => ⟨rfl, (Mo_cons (fun q => show n ≤ n from by omega) (Mo_cons (fun q => show n ≤ m_md t4 from by omega) (Mo_cons (fun q => show n ≤ m_md t4 from by omega) (Mo_cons (fun q => show n ≤ m_md t4 from by omega) (Mo_cons (fun q => absurd (show nk 8 = true from q) (by decide)) (Mo_cons (fun q => show n ≤ m_md t10 from by omega) Mo_nil)))))) y hy hk⟩) (fun (h : 54 = 3 ∨ 54 = 18 ∨ 54 = 41) => absurd h (by decide)) (fun (h : 54 = 18) => absurd h (by decide)) (fun (h : 54 = 41 ∨ 54 = 42 ∨ 54 = 43) => absurd h (by decide)) r [] (fun y hy => absurd hy List.not_mem_nil) hS⟩⟩⟩⟩⟩⟩
          · exact (Aj_up (x := (18, m_md t10, 0)) (Aj_up (x := (8, 79, 0)) (Aj_up (x := (57, m_md t4, 0)) (Aj_up (x := (21, m_md t4, 0)) (Aj_up (x := (38, m_md t4, 0)) (Aj_sub (y := (55, n, 0)) hJ (Nat.le_of_ble_eq_true rfl)) (Or.inr (Nat.le_of_ble_eq_true rfl))) (Or.inr (Nat.le_of_ble_eq_true rfl))) (Or.inr (Nat.le_of_ble_eq_true rfl))) (Or.inr (Nat.le_of_ble_eq_true rfl))) (Or.inl (Nat.le_of_ble_eq_true rfl)))
          · show m_dp t16 = (dlt 18 + (dlt 8 + (dlt 57 + (dlt 21 + (dlt 38 + (dlt 55 + sD r))))))
            have : dlt 18 = 0 := rfl; have : dlt 21 = 0 := rfl; have : dlt 38 = 0 := rfl; have : dlt 54 = 0 := rfl; have : dlt 55 = 0 := rfl; have : dlt 57 = 0 := rfl; have : dlt 8 = 1 := rfl; omega
          · show m_rw t16 = (rho 18 + (rho 8 + (rho 57 + (rho 21 + (rho 38 + (rho 55 + sR r))))))
            have : rho 18 = 0 := rfl; have : rho 21 = 0 := rfl; have : rho 38 = 0 := rfl; have : rho 54 = 0 := rfl; have : rho 55 = 0 := rfl; have : rho 57 = 0 := rfl; have : rho 8 = 0 := rfl; omega
          · show m_md t16 + (mu7 18 + (mu7 8 + (mu7 57 + (mu7 21 + (mu7 38 + (mu7 55 + sM r)))))) ≤ 3 * m_at t16 + 7 * (r.length + 1 + 1 + 1 + 1 + 1 + 1) + 10
            have : mu7 18 = 5 := rfl; have : mu7 21 = 3 := rfl; have : mu7 38 = 2 := rfl; have : mu7 54 = 7 := rfl; have : mu7 55 = 4 := rfl; have : mu7 57 = 5 := rfl; have : mu7 8 = 4 := rfl; omega
          · show (wt 18 + (wt 8 + (wt 57 + (wt 21 + (wt 38 + (wt 55 + sW r)))))) + 6 * (4096 - m_at t16) + 4 * (600 - (r.length + 1 + 1 + 1 + 1 + 1 + 1)) < (wt 54 + sW r) + 6 * (4096 - m_at t0) + 4 * (600 - (r.length + 1))
            have : wt 18 = 0 := rfl; have : wt 21 = 2 := rfl; have : wt 38 = 0 := rfl; have : wt 54 = 5 := rfl; have : wt 55 = 0 := rfl; have : wt 57 = 0 := rfl; have : wt 8 = 0 := rfl; omega
      · have w_t12 := Nat.pos_of_ne_zero w_t12
        have I_n_t12 := I_n_t11.flat X_t12
        have f_n_t12 := f_n_t11.ex I_n_t11 (X_t12 0)
        have I_m_mdt4_t12 := I_m_mdt4_t11.flat X_t12
        have f_m_mdt4_t12 := f_m_mdt4_t11.ex I_m_mdt4_t11 (X_t12 0)
        have u_m_mdt4_t12 := u_m_mdt4_t11.ex I_m_mdt4_t11 (X_t12 0)
        have I_m_mdt10_t12 := I_m_mdt10_t11.flat X_t12
        have u_m_mdt10_t12 := u_m_mdt10_t11.ex I_m_mdt10_t11 (X_t12 0)
        refine Kp_at C_t12 (fun t22 C_t22 X_t22 a_t22 b_t22 d_t22 w_t22 u_t22 v_t22 j_t22 l_t22 => ?_)
        have e_t22 := C_t22.2.2.2.1
        have I_n_t22 := I_n_t12.flat X_t22
        have f_n_t22 := f_n_t12.ex I_n_t12 (X_t22 0)
        have I_m_mdt4_t22 := I_m_mdt4_t12.flat X_t22
        have f_m_mdt4_t22 := f_m_mdt4_t12.ex I_m_mdt4_t12 (X_t22 0)
        have u_m_mdt4_t22 := u_m_mdt4_t12.ex I_m_mdt4_t12 (X_t22 0)
        have I_m_mdt10_t22 := I_m_mdt10_t12.flat X_t22
        have u_m_mdt10_t22 := u_m_mdt10_t12.ex I_m_mdt10_t12 (X_t22 0)
        refine Kp_push C_t22 (by omega) (fun t23 C_t23 X_t23 a_t23 b_t23 d_t23 w_t23 u_t23 v_t23 j_t23 l_t23 => ?_)
        have e_t23 := C_t23.2.2.2.1
        have I_n_t23 := I_n_t22.flat X_t23
        have f_n_t23 := f_n_t22.ex I_n_t22 (X_t23 0)
        have I_m_mdt4_t23 := I_m_mdt4_t22.flat X_t23
        have f_m_mdt4_t23 := f_m_mdt4_t22.ex I_m_mdt4_t22 (X_t23 0)
        have u_m_mdt4_t23 := u_m_mdt4_t22.ex I_m_mdt4_t22 (X_t23 0)
        have I_m_mdt10_t23 := I_m_mdt10_t22.flat X_t23
        have u_m_mdt10_t23 := u_m_mdt10_t22.ex I_m_mdt10_t22 (X_t23 0)
        refine Kp_push C_t23 (by omega) (fun t24 C_t24 X_t24 a_t24 b_t24 d_t24 w_t24 u_t24 v_t24 j_t24 l_t24 => ?_)
        have e_t24 := C_t24.2.2.2.1
        have I_n_t24 := I_n_t23.flat X_t24
        have f_n_t24 := f_n_t23.ex I_n_t23 (X_t24 0)
        have I_m_mdt4_t24 := I_m_mdt4_t23.flat X_t24
        have f_m_mdt4_t24 := f_m_mdt4_t23.ex I_m_mdt4_t23 (X_t24 0)
        have u_m_mdt4_t24 := u_m_mdt4_t23.ex I_m_mdt4_t23 (X_t24 0)
        have I_m_mdt10_t24 := I_m_mdt10_t23.flat X_t24
        have u_m_mdt10_t24 := u_m_mdt10_t23.ex I_m_mdt10_t23 (X_t24 0)
        refine Kp_push C_t24 (by omega) (fun t25 C_t25 X_t25 a_t25 b_t25 d_t25 w_t25 u_t25 v_t25 j_t25 l_t25 => ?_)
        have e_t25 := C_t25.2.2.2.1
        have I_n_t25 := I_n_t24.flat X_t25
        have f_n_t25 := f_n_t24.ex I_n_t24 (X_t25 0)
        have I_m_mdt4_t25 := I_m_mdt4_t24.flat X_t25
        have f_m_mdt4_t25 := f_m_mdt4_t24.ex I_m_mdt4_t24 (X_t25 0)
        have u_m_mdt4_t25 := u_m_mdt4_t24.ex I_m_mdt4_t24 (X_t25 0)
        have I_m_mdt10_t25 := I_m_mdt10_t24.flat X_t25
        have u_m_mdt10_t25 := u_m_mdt10_t24.ex I_m_mdt10_t24 (X_t25 0)
        refine Kp_look C_t25 hT (by omega) ?_
        refine Ok_ife (Nat.lt_trans (lo_lt (C_t25.tk hT) _) (by decide)) (by decide) (fun q26 => ?_) (fun q26 => ?_)
        · refine Kp_ahead C_t25 hT (by omega) ?_
          refine Ok_ife (Nat.lt_trans (lo_lt (C_t25.tk hT) _) (by decide)) (by decide) (fun q27 => ?_) (fun q27 => ?_)
          · refine Ok_ret (show Ok _ _ _ from ?_)
            refine Ok_ret (show Ok _ _ _ from ?_)
            refine Ok_ret (show Ok _ _ _ from ?_)
            exact Or.inl ⟨Nat.ne_of_gt (show 0 < m_wr t25 from by omega), by omega, by omega, C_t25.2.2.2.2.2, by omega⟩
          · refine Ok_bnc ?_
            try unfold b_X6_name
            refine Kp_look C_t25 hT (by omega) ?_
            refine Ok_ife (Nat.lt_trans (lo_lt (C_t25.tk hT) _) (by decide)) (by decide) (fun q => ?_) (fun q => absurd q26 q)
            refine Kp_child C_t25 I_m_mdt10_t25.1 I_m_mdt10_t25.2.1 I_m_mdt10_t25.2.2.1 (by omega) (by omega) (by decide) (by decide) (fun t29 C_t29 X_t29 a_t29 b_t29 d_t29 w_t29 u_t29 v_t29 j_t29 l_t29 => ?_)
            have e_t29 := C_t29.2.2.2.1
            have I_n_t29 := I_n_t25.chd X_t29 j_t29
            have f_n_t29 := f_n_t25.ex I_n_t25 (X_t29 0 (Nat.zero_le _))
            have I_m_mdt4_t29 := I_m_mdt4_t25.chd X_t29 j_t29
            have f_m_mdt4_t29 := f_m_mdt4_t25.ex I_m_mdt4_t25 (X_t29 0 (Nat.zero_le _))
            have u_m_mdt4_t29 := u_m_mdt4_t25.ex I_m_mdt4_t25 (X_t29 0 (Nat.zero_le _))
            have I_m_mdt10_t29 := I_m_mdt10_t25.chd X_t29 j_t29
            have u_m_mdt10_t29 := u_m_mdt10_t25.ex I_m_mdt10_t25 (X_t29 0 (Nat.zero_le _))
            have f_m_mdt10_t29 : Fz t29 (m_md t10) := j_t29.2.2.2.2.1
            have I_m_mdt25_t29 : Nq t29 (m_md t25) := Nq.chn j_t29 (by omega) I_m_mdt10_t25 (by decide)
            have u_m_mdt25_t29 : Up t29 (m_md t25) := Or.inl j_t29.2.1
            refine Kp_at C_t29 (fun t30 C_t30 X_t30 a_t30 b_t30 d_t30 w_t30 u_t30 v_t30 j_t30 l_t30 => ?_)
            have e_t30 := C_t30.2.2.2.1
            have I_n_t30 := I_n_t29.flat X_t30
            have f_n_t30 := f_n_t29.ex I_n_t29 (X_t30 0)
            have I_m_mdt4_t30 := I_m_mdt4_t29.flat X_t30
            have f_m_mdt4_t30 := f_m_mdt4_t29.ex I_m_mdt4_t29 (X_t30 0)
            have u_m_mdt4_t30 := u_m_mdt4_t29.ex I_m_mdt4_t29 (X_t30 0)
            have I_m_mdt10_t30 := I_m_mdt10_t29.flat X_t30
            have f_m_mdt10_t30 := f_m_mdt10_t29.ex I_m_mdt10_t29 (X_t30 0)
            have u_m_mdt10_t30 := u_m_mdt10_t29.ex I_m_mdt10_t29 (X_t30 0)
            have I_m_mdt25_t30 := I_m_mdt25_t29.flat X_t30
            have u_m_mdt25_t30 := u_m_mdt25_t29.ex I_m_mdt25_t29 (X_t30 0)
            refine Ok_ret (show Ok _ _ _ from ?_)
            refine Ok_ret (show Ok _ _ _ from ?_)
            refine Ok_ret (show Ok _ _ _ from ?_)
            refine Ok_ret (show Ok _ _ _ from ?_)
            exact Or.inl ⟨Nat.ne_of_gt (show 0 < m_wr t30 from by omega), by omega, by omega, C_t30.2.2.2.2.2, by omega⟩
        · refine Ok_ret (show Ok _ _ _ from ?_)
          refine Ok_ret (show Ok _ _ _ from ?_)
          refine Ok_ret (show Ok _ _ _ from ?_)
          exact Or.inl ⟨Nat.ne_of_gt (show 0 < m_wr t25 from by omega), by omega, by omega, C_t25.2.2.2.2.2, by omega⟩
    · refine Kp_child C_t4 I_n_t4.1 I_n_t4.2.1 I_n_t4.2.2.1 (by omega) (by omega) (by decide) (by decide) (fun t31 C_t31 X_t31 a_t31 b_t31 d_t31 w_t31 u_t31 v_t31 j_t31 l_t31 => ?_)
      have e_t31 := C_t31.2.2.2.1
      rw [a_t4] at a_t31
      rw [b_t4] at b_t31
      rw [d_t4] at d_t31
      rw [w_t4] at w_t31
      rw [u_t4] at u_t31
      rw [v_t4] at v_t31
      clear d_t4 w_t4 u_t4 v_t4 e_t4
      have I_n_t31 := I_n_t4.chd X_t31 j_t31
      have f_n_t31 : Fz t31 n := j_t31.2.2.2.2.1
      have I_m_mdt4_t31 : Nq t31 (m_md t4) := Nq.chn j_t31 (by omega) I_n_t4 (by decide)
      have u_m_mdt4_t31 : Up t31 (m_md t4) := Or.inl j_t31.2.1
      have z_t32 : m_at t31 < m_ct t31 := lo_ne (Nat.ne_of_gt (show 0 < lo t31 (m_at t31) from by omega))
      refine Kp_at C_t31 (fun t32 C_t32 X_t32 a_t32 b_t32 d_t32 w_t32 u_t32 v_t32 j_t32 l_t32 => ?_)
      have e_t32 := C_t32.2.2.2.1
      rw [a_t31] at a_t32
      rw [b_t31] at b_t32
      rw [d_t31] at d_t32
      rw [w_t31] at w_t32
      rw [u_t31] at u_t32
      rw [v_t31] at v_t32
      rw [a_t31, e_t31] at z_t32
      clear d_t31 w_t31 u_t31 v_t31 e_t31 a_t31 b_t31
      have I_n_t32 := I_n_t31.flat X_t32
      have f_n_t32 := f_n_t31.ex I_n_t31 (X_t32 0)
      have I_m_mdt4_t32 := I_m_mdt4_t31.flat X_t32
      have u_m_mdt4_t32 := u_m_mdt4_t31.ex I_m_mdt4_t31 (X_t32 0)
      refine Kp_push C_t32 (by omega) (fun t33 C_t33 X_t33 a_t33 b_t33 d_t33 w_t33 u_t33 v_t33 j_t33 l_t33 => ?_)
      have e_t33 := C_t33.2.2.2.1
      rw [a_t32] at a_t33
      rw [b_t32] at b_t33
      rw [d_t32] at d_t33
      rw [w_t32] at w_t33
      rw [u_t32] at u_t33
      rw [v_t32] at v_t33
      clear d_t32 w_t32 u_t32 v_t32 e_t32 a_t32 b_t32
      have I_n_t33 := I_n_t32.flat X_t33
      have f_n_t33 := f_n_t32.ex I_n_t32 (X_t33 0)
      have I_m_mdt4_t33 := I_m_mdt4_t32.flat X_t33
      have u_m_mdt4_t33 := u_m_mdt4_t32.ex I_m_mdt4_t32 (X_t33 0)
      refine Kp_push C_t33 (by omega) (fun t34 C_t34 X_t34 a_t34 b_t34 d_t34 w_t34 u_t34 v_t34 j_t34 l_t34 => ?_)
      have e_t34 := C_t34.2.2.2.1
      rw [a_t33] at a_t34
      rw [b_t33] at b_t34
      rw [d_t33] at d_t34
      rw [w_t33] at w_t34
      rw [u_t33] at u_t34
      rw [v_t33] at v_t34
      clear d_t33 w_t33 u_t33 v_t33 e_t33 a_t33 b_t33
      have I_n_t34 := I_n_t33.flat X_t34
      have f_n_t34 := f_n_t33.ex I_n_t33 (X_t34 0)
      have I_m_mdt4_t34 := I_m_mdt4_t33.flat X_t34
      have u_m_mdt4_t34 := u_m_mdt4_t33.ex I_m_mdt4_t33 (X_t34 0)
      refine Ok_bnc ?_
      try unfold b_X6_name
      refine Kp_look C_t34 hT (by omega) ?_
      refine Ok_ife (Nat.lt_trans (lo_lt (C_t34.tk hT) _) (by decide)) (by decide) (fun q36 => ?_) (fun q36 => ?_)
      · refine Kp_child C_t34 I_m_mdt4_t34.1 I_m_mdt4_t34.2.1 I_m_mdt4_t34.2.2.1 (by omega) (by omega) (by decide) (by decide) (fun t37 C_t37 X_t37 a_t37 b_t37 d_t37 w_t37 u_t37 v_t37 j_t37 l_t37 => ?_)
        have e_t37 := C_t37.2.2.2.1
        rw [a_t34] at a_t37
        rw [b_t34] at b_t37
        rw [d_t34] at d_t37
        rw [w_t34] at w_t37
        rw [u_t34] at u_t37
        rw [v_t34] at v_t37
        clear d_t34 w_t34 u_t34 v_t34 e_t34 a_t34
        have I_n_t37 := I_n_t34.chd X_t37 j_t37
        have f_n_t37 := f_n_t34.ex I_n_t34 (X_t37 0 (Nat.zero_le _))
        have I_m_mdt4_t37 := I_m_mdt4_t34.chd X_t37 j_t37
        have u_m_mdt4_t37 := u_m_mdt4_t34.ex I_m_mdt4_t34 (X_t37 0 (Nat.zero_le _))
        have f_m_mdt4_t37 : Fz t37 (m_md t4) := j_t37.2.2.2.2.1
        have I_m_mdt34_t37 : Nq t37 (m_md t34) := Nq.chn j_t37 (by omega) I_m_mdt4_t34 (by decide)
        have u_m_mdt34_t37 : Up t37 (m_md t34) := Or.inl j_t37.2.1
        have z_t38 : m_at t37 < m_ct t37 := lo_ne (Nat.ne_of_gt (show 0 < lo t37 (m_at t37) from by omega))
        refine Kp_at C_t37 (fun t38 C_t38 X_t38 a_t38 b_t38 d_t38 w_t38 u_t38 v_t38 j_t38 l_t38 => ?_)
        have e_t38 := C_t38.2.2.2.1
        rw [a_t37] at a_t38
        rw [b_t37] at b_t38
        rw [d_t37] at d_t38
        rw [w_t37] at w_t38
        rw [u_t37] at u_t38
        rw [v_t37] at v_t38
        rw [a_t37, e_t37] at z_t38
        clear z_t32
        clear d_t37 w_t37 u_t37 v_t37 e_t37 a_t37 b_t37
        have I_n_t38 := I_n_t37.flat X_t38
        have f_n_t38 := f_n_t37.ex I_n_t37 (X_t38 0)
        have I_m_mdt4_t38 := I_m_mdt4_t37.flat X_t38
        have f_m_mdt4_t38 := f_m_mdt4_t37.ex I_m_mdt4_t37 (X_t38 0)
        have u_m_mdt4_t38 := u_m_mdt4_t37.ex I_m_mdt4_t37 (X_t38 0)
        have I_m_mdt34_t38 := I_m_mdt34_t37.flat X_t38
        have u_m_mdt34_t38 := u_m_mdt34_t37.ex I_m_mdt34_t37 (X_t38 0)
        refine Ok_ret (show Ok _ _ _ from ?_)
        refine Ok_ret (show Ok _ _ _ from ?_)
        refine Ok_ret (show Ok _ _ _ from ?_)
        refine Ok_ret (show Ok _ _ _ from ?_)
        refine Hv_mk (Kv_c (x := (21, m_md t4, 0)) rfl (Kv_c (x := (38, m_md t4, 0)) rfl (Kv_c (x := (55, n, 0)) rfl hK))) (C_t38.1.2.2.2.2.2.2 hTt) C_t38 hT (by omega) (by omega) (by omega) ?_ ?_ ?_ (by omega) ?_ ?_ ?_
        · exact ⟨(Io_n (by decide) (by decide) I_m_mdt4_t38.1 I_m_mdt4_t38.2.1 I_m_mdt4_t38.2.2.1 (fun q => absurd q (by decide)) (fun q => absurd q (by decide)) I_m_mdt4_t38.2.2.2), (Nd_0 (by decide) Mo_nil), ⟨(Io_n (by decide) (by decide) I_m_mdt4_t38.1 I_m_mdt4_t38.2.1 I_m_mdt4_t38.2.2.1 (fun q => absurd q (by decide)) (fun q => absurd q (by decide)) I_m_mdt4_t38.2.2.2), (Nd_0 (by decide) (Mo_cons (fun q => show m_md t4 ≤ m_md t4 from by omega) Mo_nil)), ⟨(Io_n (by decide) (by decide) I_n_t38.1 I_n_t38.2.1 I_n_t38.2.2.1 (fun q => absurd q (by decide)) (fun q => absurd q (by decide)) I_n_t38.2.2.2), (Nd_0 (by decide) (Mo_cons (fun q => show n ≤ m_md t4 from by omega) (Mo_cons (fun q => show n ≤ m_md t4 from by omega) Mo_nil))), Stk_step (N := n) (pop := (54, n, t)) (new := [(55, n, 0), (38, m_md t4, 0), (21, m_md t4, 0)]) F0 C_t38.1.to2 (fun (h : nk 54 = false) => absurd h (by decide)) (fun q _ h => h (54, n, t) rfl) (fun _ => rfl) (fun y hy hk => ⟨rfl, (Mo_cons (fun q => show n ≤ n from by omega) (Mo_cons (fun q => show n ≤ m_md t4 from by omega) (Mo_cons (fun q => show n ≤ m_md t4 from by omega) Mo_nil))) y hy hk⟩) (fun (h : 54 = 3 ∨ 54 = 18 ∨ 54 = 41) => absurd h (by decide)) (fun (h : 54 = 18) => absurd h (by decide)) (fun (h : 54 = 41 ∨ 54 = 42 ∨ 54 = 43) => absurd h (by decide)) r [] (fun y hy => absurd hy List.not_mem_nil) hS⟩⟩⟩
        · exact (Aj_up (x := (21, m_md t4, 0)) (Aj_up (x := (38, m_md t4, 0)) (Aj_sub (y := (55, n, 0)) hJ (Nat.le_of_ble_eq_true rfl)) (Or.inr (Nat.le_of_ble_eq_true rfl))) (Or.inr (Nat.le_of_ble_eq_true rfl)))
        · show m_dp t38 = (dlt 21 + (dlt 38 + (dlt 55 + sD r)))
          have : dlt 21 = 0 := rfl; have : dlt 38 = 0 := rfl; have : dlt 54 = 0 := rfl; have : dlt 55 = 0 := rfl; omega
        · show m_rw t38 = (rho 21 + (rho 38 + (rho 55 + sR r)))
          have : rho 21 = 0 := rfl; have : rho 38 = 0 := rfl; have : rho 54 = 0 := rfl; have : rho 55 = 0 := rfl; omega
        · show m_md t38 + (mu7 21 + (mu7 38 + (mu7 55 + sM r))) ≤ 3 * m_at t38 + 7 * (r.length + 1 + 1 + 1) + 10
          have : mu7 21 = 3 := rfl; have : mu7 38 = 2 := rfl; have : mu7 54 = 7 := rfl; have : mu7 55 = 4 := rfl; omega
        · show (wt 21 + (wt 38 + (wt 55 + sW r))) + 6 * (4096 - m_at t38) + 4 * (600 - (r.length + 1 + 1 + 1)) < (wt 54 + sW r) + 6 * (4096 - m_at t0) + 4 * (600 - (r.length + 1))
          have : wt 21 = 2 := rfl; have : wt 38 = 0 := rfl; have : wt 54 = 5 := rfl; have : wt 55 = 0 := rfl; omega
      · refine Kp_error C_t34 (by omega) (fun t39 C_t39 X_t39 a_t39 b_t39 d_t39 w_t39 u_t39 v_t39 j_t39 l_t39 => ?_)
        have wb_t39 := w_t39.2
        have w_t39 := Nat.pos_of_ne_zero w_t39.1
        have e_t39 := C_t39.2.2.2.1
        have I_n_t39 := I_n_t34.flat X_t39
        have f_n_t39 := f_n_t34.ex I_n_t34 (X_t39 0)
        have I_m_mdt4_t39 := I_m_mdt4_t34.flat X_t39
        have u_m_mdt4_t39 := u_m_mdt4_t34.ex I_m_mdt4_t34 (X_t39 0)
        refine Kp_child C_t39 I_m_mdt4_t39.1 I_m_mdt4_t39.2.1 I_m_mdt4_t39.2.2.1 (by omega) (by omega) (by decide) (by decide) (fun t40 C_t40 X_t40 a_t40 b_t40 d_t40 w_t40 u_t40 v_t40 j_t40 l_t40 => ?_)
        have e_t40 := C_t40.2.2.2.1
        have I_n_t40 := I_n_t39.chd X_t40 j_t40
        have f_n_t40 := f_n_t39.ex I_n_t39 (X_t40 0 (Nat.zero_le _))
        have I_m_mdt4_t40 := I_m_mdt4_t39.chd X_t40 j_t40
        have u_m_mdt4_t40 := u_m_mdt4_t39.ex I_m_mdt4_t39 (X_t40 0 (Nat.zero_le _))
        have f_m_mdt4_t40 : Fz t40 (m_md t4) := j_t40.2.2.2.2.1
        have I_m_mdt39_t40 : Nq t40 (m_md t39) := Nq.chn j_t40 (by omega) I_m_mdt4_t39 (by decide)
        have u_m_mdt39_t40 : Up t40 (m_md t39) := Or.inl j_t40.2.1
        refine Kp_at C_t40 (fun t41 C_t41 X_t41 a_t41 b_t41 d_t41 w_t41 u_t41 v_t41 j_t41 l_t41 => ?_)
        have e_t41 := C_t41.2.2.2.1
        have I_n_t41 := I_n_t40.flat X_t41
        have f_n_t41 := f_n_t40.ex I_n_t40 (X_t41 0)
        have I_m_mdt4_t41 := I_m_mdt4_t40.flat X_t41
        have f_m_mdt4_t41 := f_m_mdt4_t40.ex I_m_mdt4_t40 (X_t41 0)
        have u_m_mdt4_t41 := u_m_mdt4_t40.ex I_m_mdt4_t40 (X_t41 0)
        have I_m_mdt39_t41 := I_m_mdt39_t40.flat X_t41
        have u_m_mdt39_t41 := u_m_mdt39_t40.ex I_m_mdt39_t40 (X_t41 0)
        refine Ok_ret (show Ok _ _ _ from ?_)
        refine Ok_ret (show Ok _ _ _ from ?_)
        refine Ok_ret (show Ok _ _ _ from ?_)
        refine Ok_ret (show Ok _ _ _ from ?_)
        exact Or.inl ⟨Nat.ne_of_gt (show 0 < m_wr t41 from by omega), by omega, by omega, C_t41.2.2.2.2.2, by omega⟩
  · refine Ok_ret (show Ok _ _ _ from ?_)
    refine Ok_ret (show Ok _ _ _ from ?_)
    refine Hv_mk hK (C_t0.1.2.2.2.2.2.2 hTt) C_t0 hT (by omega) (by omega) (by omega) ?_ ?_ ?_ (by omega) ?_ ?_ ?_
    · exact Stk_step (N := n) (pop := (54, n, t)) (new := []) F0 C_t0.1.to2 (fun (h : nk 54 = false) => absurd h (by decide)) (fun q _ h => h (54, n, t) rfl) (fun _ => rfl) (fun y hy hk => ⟨rfl, Mo_nil (n := n) y hy hk⟩) (fun (h : 54 = 3 ∨ 54 = 18 ∨ 54 = 41) => absurd h (by decide)) (fun (h : 54 = 18) => absurd h (by decide)) (fun (h : 54 = 41 ∨ 54 = 42 ∨ 54 = 43) => absurd h (by decide)) r [] (fun y hy => absurd hy List.not_mem_nil) hS
    · exact Aj_tl hJ
    · show m_dp t0 = sD r
      have : dlt 54 = 0 := rfl; omega
    · show m_rw t0 = sR r
      have : rho 54 = 0 := rfl; omega
    · show m_md t0 + sM r ≤ 3 * m_at t0 + 7 * (r.length) + 10
      have : mu7 54 = 7 := rfl; omega
    · show sW r + 6 * (4096 - m_at t0) + 4 * (600 - (r.length)) < (wt 54 + sW r) + 6 * (4096 - m_at t0) + 4 * (600 - (r.length + 1))
      have : wt 54 = 5 := rfl; omega

