/-! The steps of the reference, one by one. -/
theorem S_25 {t0 : Mm} {n t : Nat} {r : List It} (H : Hp t0 (25, n, t) r) {E : Mm → Prop} : Ok (Qh (mz t0 ((25, n, t) :: r))) E (b_X6_step 25 n t t0) := by
  obtain ⟨hK, hT, hc, hw0, ha, hC, hS, hJ, hdp, hdl, hrw, hmd, htd, hln, hm16, hI, hD, hTt⟩ := Hp_out H
  have C_t0 := hC n
  have F0 := C_t0.2.1
  have I_n_t0 : Nq t0 n := ⟨(hI.2.1 rfl).1, (hI.2.1 rfl).2.1, (hI.2.1 rfl).2.2, hI.2.2.2 rfl⟩
  have m_n_t0 := I_n_t0.1
  have ht : t < 4096 := hI.1.1 (show 25 ≠ 42 by decide) (show 25 ≠ 48 by decide)
  have hdp : m_dp t0 = dlt 25 + sD r := hdp
  have hrw : m_rw t0 = rho 25 + sR r := hrw
  have hmd : m_md t0 + mu7 25 + sM r ≤ 3 * m_at t0 + 7 * r.length + 17 := hmd
  have hand : t &&& 1 ≤ 1 := Nat.and_le_right
  have h01 : (0 &&& 1 : Nat) = 0 := rfl
  have hsr := sR_le r
  have h02 : (1 : Nat) * 256 = 256 := rfl
  have hq1 : dlt 25 = 1 := rfl
  have hq2 : rho 25 = 1 := rfl
  have hq3 : mu7 25 = 4 := rfl
  unfold b_X6_step
  refine Ok_ifl (by decide) (by decide) (fun _ => ?_) (fun q => absurd (by decide) q)
  refine Ok_ifl (by decide) (by decide) (fun q => absurd q (by decide)) (fun _ => ?_)
  refine Ok_ifl (by decide) (by decide) (fun _ => ?_) (fun q => absurd (by decide) q)
  refine Ok_bnc ?_
  try unfold b_X6_typing
  refine Ok_ck (by decide) ?_
  refine Ok_ife (by decide) (by decide) (fun q => absurd q (by decide)) (fun _ => ?_)
  refine Ok_ife (by decide) (by decide) (fun q => absurd q (by decide)) (fun _ => ?_)
  refine Ok_ife (by decide) (by decide) (fun q => absurd q (by decide)) (fun _ => ?_)
  refine Ok_ife (by decide) (by decide) (fun q => absurd q (by decide)) (fun _ => ?_)
  refine Ok_ife (by decide) (by decide) (fun q => absurd q (by decide)) (fun _ => ?_)
  refine Ok_ife (by decide) (by decide) (fun q => absurd q (by decide)) (fun _ => ?_)
  refine Ok_ife (by decide) (by decide) (fun q => absurd q (by decide)) (fun _ => ?_)
  refine Ok_ife (by decide) (by decide) (fun _ => ?_) (fun q => absurd (by decide) q)
  refine Ok_bnc ?_
  try unfold b_X6_paramMore
  refine Kp_look C_t0 hT (by omega) ?_
  refine Ok_ife (Nat.lt_trans (lo_lt (C_t0.tk hT) _) (by decide)) (by decide) (fun q3 => ?_) (fun q3 => ?_)
  · have z_t4 : m_at t0 < m_ct t0 := lo_ne (Nat.ne_of_gt (show 0 < lo t0 (m_at t0) from by omega))
    refine Kp_at C_t0 (fun t4 C_t4 X_t4 a_t4 b_t4 d_t4 w_t4 u_t4 v_t4 j_t4 l_t4 => ?_)
    have e_t4 := C_t4.2.2.2.1
    have I_n_t4 := I_n_t0.flat X_t4
    refine Kp_push C_t4 (by omega) (fun t5 C_t5 X_t5 a_t5 b_t5 d_t5 w_t5 u_t5 v_t5 j_t5 l_t5 => ?_)
    have e_t5 := C_t5.2.2.2.1
    rw [a_t4] at a_t5
    rw [b_t4] at b_t5
    rw [d_t4] at d_t5
    rw [w_t4] at w_t5
    rw [u_t4] at u_t5
    rw [v_t4] at v_t5
    clear d_t4 w_t4 u_t4 v_t4 e_t4 a_t4 b_t4
    have I_n_t5 := I_n_t4.flat X_t5
    refine Ok_ret (show Ok _ _ _ from ?_)
    refine Ok_ret (show Ok _ _ _ from ?_)
    refine Hv_mk (Kv_c (x := (24, n, 0)) rfl hK) (C_t5.1.2.2.2.2.2.2 hTt) C_t5 hT (by omega) (by omega) (by omega) ?_ ?_ ?_ (by omega) ?_ ?_ ?_
    · exact ⟨(Io_n (by decide) (by decide) I_n_t5.1 I_n_t5.2.1 I_n_t5.2.2.1 (fun q => absurd q (by decide)) (fun q => absurd q (by decide)) I_n_t5.2.2.2), (Nd_0 (by decide) Mo_nil), Stk_step (N := n) (pop := (25, n, t)) (new := [(24, n, 0)]) F0 C_t5.1.to2 (fun (h : nk 25 = false) => absurd h (by decide)) (fun q _ h => h (25, n, t) rfl) (fun _ => rfl) (fun y hy hk => ⟨rfl, (Mo_cons (fun q => show n ≤ n from by omega) Mo_nil) y hy hk⟩) (fun (h : 25 = 3 ∨ 25 = 18 ∨ 25 = 41) => absurd h (by decide)) (fun (h : 25 = 18) => absurd h (by decide)) (fun (h : 25 = 41 ∨ 25 = 42 ∨ 25 = 43) => absurd h (by decide)) r [] (fun y hy => absurd hy List.not_mem_nil) hS⟩
    · exact (Aj_sub (y := (24, n, 0)) hJ (Nat.le_of_ble_eq_true rfl))
    · show m_dp t5 = (dlt 24 + sD r)
      have : dlt 24 = 1 := rfl; have : dlt 25 = 1 := rfl; omega
    · show m_rw t5 = (rho 24 + sR r)
      have : rho 24 = 1 := rfl; have : rho 25 = 1 := rfl; omega
    · show m_md t5 + (mu7 24 + sM r) ≤ 3 * m_at t5 + 7 * (r.length + 1) + 10
      have : mu7 24 = 4 := rfl; have : mu7 25 = 4 := rfl; omega
    · show (wt 24 + sW r) + 6 * (4096 - m_at t5) + 4 * (600 - (r.length + 1)) < (wt 25 + sW r) + 6 * (4096 - m_at t0) + 4 * (600 - (r.length + 1))
      have : wt 24 = 0 := rfl; have : wt 25 = 1 := rfl; omega
  · refine Kp_look C_t0 hT (by omega) ?_
    refine Ok_ife (Nat.lt_trans (lo_lt (C_t0.tk hT) _) (by decide)) (by decide) (fun q6 => ?_) (fun q6 => ?_)
    · refine Ok_ck (show (m_rw t0) ≠ 0 from by omega) ?_
      refine Ok_ck (show ((m_rw t0) - 1) < 64 from by omega) ?_
      refine Ok_ifz (Nat.lt_trans (C_t0.2.2.2.2.2.1 ((m_rw t0) - 1)).1 (by decide)) (fun q7 => ?_) (fun q7 => ?_)
      · refine Ok_ck (show ((m_rw t0) - 1) < 64 from by omega) ?_
        refine Ok_ifz (show m_pe t0 ((m_rw t0) - 1) < 2147483648 from by have := (C_t0.2.2.2.2.2.1 ((m_rw t0) - 1)).2.2.2 (by omega); omega) (fun q8 => ?_) (fun q8 => ?_)
        · refine Kp_push C_t0 (by omega) (fun t9 C_t9 X_t9 a_t9 b_t9 d_t9 w_t9 u_t9 v_t9 j_t9 l_t9 => ?_)
          have e_t9 := C_t9.2.2.2.1
          have I_n_t9 := I_n_t0.flat X_t9
          refine Ok_ret (show Ok _ _ _ from ?_)
          refine Ok_ret (show Ok _ _ _ from ?_)
          refine Hv_mk (Kv_c (x := (24, n, 0)) rfl hK) (C_t9.1.2.2.2.2.2.2 hTt) C_t9 hT (by omega) (by omega) (by omega) ?_ ?_ ?_ (by omega) ?_ ?_ ?_
          · exact ⟨(Io_n (by decide) (by decide) I_n_t9.1 I_n_t9.2.1 I_n_t9.2.2.1 (fun q => absurd q (by decide)) (fun q => absurd q (by decide)) I_n_t9.2.2.2), (Nd_0 (by decide) Mo_nil), Stk_step (N := n) (pop := (25, n, t)) (new := [(24, n, 0)]) F0 C_t9.1.to2 (fun (h : nk 25 = false) => absurd h (by decide)) (fun q _ h => h (25, n, t) rfl) (fun _ => rfl) (fun y hy hk => ⟨rfl, (Mo_cons (fun q => show n ≤ n from by omega) Mo_nil) y hy hk⟩) (fun (h : 25 = 3 ∨ 25 = 18 ∨ 25 = 41) => absurd h (by decide)) (fun (h : 25 = 18) => absurd h (by decide)) (fun (h : 25 = 41 ∨ 25 = 42 ∨ 25 = 43) => absurd h (by decide)) r [] (fun y hy => absurd hy List.not_mem_nil) hS⟩
          · exact (Aj_sub (y := (24, n, 0)) hJ (Nat.le_of_ble_eq_true rfl))
          · show m_dp t9 = (dlt 24 + sD r)
            have : dlt 24 = 1 := rfl; have : dlt 25 = 1 := rfl; omega
          · show m_rw t9 = (rho 24 + sR r)
            have : rho 24 = 1 := rfl; have : rho 25 = 1 := rfl; omega
          · show m_md t9 + (mu7 24 + sM r) ≤ 3 * m_at t9 + 7 * (r.length + 1) + 10
            have : mu7 24 = 4 := rfl; have : mu7 25 = 4 := rfl; omega
          · show (wt 24 + sW r) + 6 * (4096 - m_at t9) + 4 * (600 - (r.length + 1)) < (wt 25 + sW r) + 6 * (4096 - m_at t0) + 4 * (600 - (r.length + 1))
            have : wt 24 = 0 := rfl; have : wt 25 = 1 := rfl; omega
        · refine Kp_error C_t0 (by omega) (fun t10 C_t10 X_t10 a_t10 b_t10 d_t10 w_t10 u_t10 v_t10 j_t10 l_t10 => ?_)
          have wb_t10 := w_t10.2
          have w_t10 := Nat.pos_of_ne_zero w_t10.1
          have e_t10 := C_t10.2.2.2.1
          have I_n_t10 := I_n_t0.flat X_t10
          refine Kp_push C_t10 (by omega) (fun t11 C_t11 X_t11 a_t11 b_t11 d_t11 w_t11 u_t11 v_t11 j_t11 l_t11 => ?_)
          have e_t11 := C_t11.2.2.2.1
          have I_n_t11 := I_n_t10.flat X_t11
          refine Ok_ret (show Ok _ _ _ from ?_)
          refine Ok_ret (show Ok _ _ _ from ?_)
          exact Or.inl ⟨Nat.ne_of_gt (show 0 < m_wr t11 from by omega), by omega, by omega, C_t11.2.2.2.2.2, by omega⟩
      · refine Kp_push C_t0 (by omega) (fun t12 C_t12 X_t12 a_t12 b_t12 d_t12 w_t12 u_t12 v_t12 j_t12 l_t12 => ?_)
        have e_t12 := C_t12.2.2.2.1
        have I_n_t12 := I_n_t0.flat X_t12
        refine Ok_ret (show Ok _ _ _ from ?_)
        refine Ok_ret (show Ok _ _ _ from ?_)
        refine Hv_mk (Kv_c (x := (24, n, 0)) rfl hK) (C_t12.1.2.2.2.2.2.2 hTt) C_t12 hT (by omega) (by omega) (by omega) ?_ ?_ ?_ (by omega) ?_ ?_ ?_
        · exact ⟨(Io_n (by decide) (by decide) I_n_t12.1 I_n_t12.2.1 I_n_t12.2.2.1 (fun q => absurd q (by decide)) (fun q => absurd q (by decide)) I_n_t12.2.2.2), (Nd_0 (by decide) Mo_nil), Stk_step (N := n) (pop := (25, n, t)) (new := [(24, n, 0)]) F0 C_t12.1.to2 (fun (h : nk 25 = false) => absurd h (by decide)) (fun q _ h => h (25, n, t) rfl) (fun _ => rfl) (fun y hy hk => ⟨rfl, (Mo_cons (fun q => show n ≤ n from by omega) Mo_nil) y hy hk⟩) (fun (h : 25 = 3 ∨ 25 = 18 ∨ 25 = 41) => absurd h (by decide)) (fun (h : 25 = 18) => absurd h (by decide)) (fun (h : 25 = 41 ∨ 25 = 42 ∨ 25 = 43) => absurd h (by decide)) r [] (fun y hy => absurd hy List.not_mem_nil) hS⟩
        · exact (Aj_sub (y := (24, n, 0)) hJ (Nat.le_of_ble_eq_true rfl))
        · show m_dp t12 = (dlt 24 + sD r)
          have : dlt 24 = 1 := rfl; have : dlt 25 = 1 := rfl; omega
        · show m_rw t12 = (rho 24 + sR r)
          have : rho 24 = 1 := rfl; have : rho 25 = 1 := rfl; omega
        · show m_md t12 + (mu7 24 + sM r) ≤ 3 * m_at t12 + 7 * (r.length + 1) + 10
          have : mu7 24 = 4 := rfl; have : mu7 25 = 4 := rfl; omega
        · show (wt 24 + sW r) + 6 * (4096 - m_at t12) + 4 * (600 - (r.length + 1)) < (wt 25 + sW r) + 6 * (4096 - m_at t0) + 4 * (600 - (r.length + 1))
          have : wt 24 = 0 := rfl; have : wt 25 = 1 := rfl; omega
    · refine Kp_error C_t0 (by omega) (fun t13 C_t13 X_t13 a_t13 b_t13 d_t13 w_t13 u_t13 v_t13 j_t13 l_t13 => ?_)
      have wb_t13 := w_t13.2
      have w_t13 := Nat.pos_of_ne_zero w_t13.1
      have e_t13 := C_t13.2.2.2.1
      have I_n_t13 := I_n_t0.flat X_t13
      refine Kp_push C_t13 (by omega) (fun t14 C_t14 X_t14 a_t14 b_t14 d_t14 w_t14 u_t14 v_t14 j_t14 l_t14 => ?_)
      have e_t14 := C_t14.2.2.2.1
      have I_n_t14 := I_n_t13.flat X_t14
      refine Ok_ret (show Ok _ _ _ from ?_)
      refine Ok_ret (show Ok _ _ _ from ?_)
      exact Or.inl ⟨Nat.ne_of_gt (show 0 < m_wr t14 from by omega), by omega, by omega, C_t14.2.2.2.2.2, by omega⟩

theorem S_26 {t0 : Mm} {n t : Nat} {r : List It} (H : Hp t0 (26, n, t) r) {E : Mm → Prop} : Ok (Qh (mz t0 ((26, n, t) :: r))) E (b_X6_step 26 n t t0) := by
  obtain ⟨hK, hT, hc, hw0, ha, hC, hS, hJ, hdp, hdl, hrw, hmd, htd, hln, hm16, hI, hD, hTt⟩ := Hp_out H
  have C_t0 := hC n
  have F0 := C_t0.2.1
  have I_n_t0 : Nq t0 n := ⟨(hI.2.1 rfl).1, (hI.2.1 rfl).2.1, (hI.2.1 rfl).2.2, hI.2.2.2 rfl⟩
  have m_n_t0 := I_n_t0.1
  have ht : t < 4096 := hI.1.1 (show 26 ≠ 42 by decide) (show 26 ≠ 48 by decide)
  have hdp : m_dp t0 = dlt 26 + sD r := hdp
  have hrw : m_rw t0 = rho 26 + sR r := hrw
  have hmd : m_md t0 + mu7 26 + sM r ≤ 3 * m_at t0 + 7 * r.length + 17 := hmd
  have hand : t &&& 1 ≤ 1 := Nat.and_le_right
  have h01 : (0 &&& 1 : Nat) = 0 := rfl
  have h02 : (1 : Nat) * 256 = 256 := rfl
  have hq1 : dlt 26 = 1 := rfl
  have hq2 : rho 26 = 0 := rfl
  have hq3 : mu7 26 = 4 := rfl
  unfold b_X6_step
  refine Ok_ifl (by decide) (by decide) (fun _ => ?_) (fun q => absurd (by decide) q)
  refine Ok_ifl (by decide) (by decide) (fun q => absurd q (by decide)) (fun _ => ?_)
  refine Ok_ifl (by decide) (by decide) (fun _ => ?_) (fun q => absurd (by decide) q)
  refine Ok_bnc ?_
  try unfold b_X6_typing
  refine Ok_ck (by decide) ?_
  refine Ok_ife (by decide) (by decide) (fun q => absurd q (by decide)) (fun _ => ?_)
  refine Ok_ife (by decide) (by decide) (fun q => absurd q (by decide)) (fun _ => ?_)
  refine Ok_ife (by decide) (by decide) (fun q => absurd q (by decide)) (fun _ => ?_)
  refine Ok_ife (by decide) (by decide) (fun q => absurd q (by decide)) (fun _ => ?_)
  refine Ok_ife (by decide) (by decide) (fun q => absurd q (by decide)) (fun _ => ?_)
  refine Ok_ife (by decide) (by decide) (fun q => absurd q (by decide)) (fun _ => ?_)
  refine Ok_ife (by decide) (by decide) (fun q => absurd q (by decide)) (fun _ => ?_)
  refine Ok_ife (by decide) (by decide) (fun q => absurd q (by decide)) (fun _ => ?_)
  refine Ok_ife (by decide) (by decide) (fun _ => ?_) (fun q => absurd (by decide) q)
  refine Ok_bnc ?_
  try unfold b_X6_fields
  refine Kp_look C_t0 hT (by omega) ?_
  refine Ok_ife (Nat.lt_trans (lo_lt (C_t0.tk hT) _) (by decide)) (by decide) (fun q3 => ?_) (fun q3 => ?_)
  · have z_t4 : m_at t0 < m_ct t0 := lo_ne (Nat.ne_of_gt (show 0 < lo t0 (m_at t0) from by omega))
    refine Kp_at C_t0 (fun t4 C_t4 X_t4 a_t4 b_t4 d_t4 w_t4 u_t4 v_t4 j_t4 l_t4 => ?_)
    have e_t4 := C_t4.2.2.2.1
    have I_n_t4 := I_n_t0.flat X_t4
    refine Ok_ck (show (m_dp t4) ≠ 0 from by omega) ?_
    refine Kp_dp C_t4 (fun t5 C_t5 X_t5 a_t5 b_t5 d_t5 w_t5 u_t5 v_t5 j_t5 l_t5 => ?_)
    have e_t5 := C_t5.2.2.2.1
    rw [a_t4] at a_t5
    rw [b_t4] at b_t5
    rw [d_t4] at d_t5
    rw [w_t4] at w_t5
    rw [u_t4] at u_t5
    rw [v_t4] at v_t5
    clear d_t4 w_t4 u_t4 v_t4 e_t4 a_t4 b_t4
    have I_n_t5 := I_n_t4.flat X_t5
    refine Ok_ret (show Ok _ _ _ from ?_)
    refine Ok_ret (show Ok _ _ _ from ?_)
    refine Hv_mk hK (C_t5.1.2.2.2.2.2.2 hTt) C_t5 hT (by omega) (by omega) (by omega) ?_ ?_ ?_ (by omega) ?_ ?_ ?_
    · exact Stk_step (N := n) (pop := (26, n, t)) (new := []) F0 C_t5.1.to2 (fun (h : nk 26 = false) => absurd h (by decide)) (fun q _ h => h (26, n, t) rfl) (fun _ => rfl) (fun y hy hk => ⟨rfl, Mo_nil (n := n) y hy hk⟩) (fun (h : 26 = 3 ∨ 26 = 18 ∨ 26 = 41) => absurd h (by decide)) (fun (h : 26 = 18) => absurd h (by decide)) (fun (h : 26 = 41 ∨ 26 = 42 ∨ 26 = 43) => absurd h (by decide)) r [] (fun y hy => absurd hy List.not_mem_nil) hS
    · exact Aj_tl hJ
    · show m_dp t5 = sD r
      have : dlt 26 = 1 := rfl; omega
    · show m_rw t5 = sR r
      have : rho 26 = 0 := rfl; omega
    · show m_md t5 + sM r ≤ 3 * m_at t5 + 7 * (r.length) + 10
      have : mu7 26 = 4 := rfl; omega
    · show sW r + 6 * (4096 - m_at t5) + 4 * (600 - (r.length)) < (wt 26 + sW r) + 6 * (4096 - m_at t0) + 4 * (600 - (r.length + 1))
      have : wt 26 = 0 := rfl; omega
  · refine Kp_child C_t0 I_n_t0.1 I_n_t0.2.1 I_n_t0.2.2.1 (by omega) (by omega) (by decide) (by decide) (fun t6 C_t6 X_t6 a_t6 b_t6 d_t6 w_t6 u_t6 v_t6 j_t6 l_t6 => ?_)
    have e_t6 := C_t6.2.2.2.1
    have I_n_t6 := I_n_t0.chd X_t6 j_t6
    have f_n_t6 : Fz t6 n := j_t6.2.2.2.2.1
    have I_m_mdt0_t6 : Nq t6 (m_md t0) := Nq.chn j_t6 (by omega) I_n_t0 (by decide)
    have u_m_mdt0_t6 : Up t6 (m_md t0) := Or.inl j_t6.2.1
    refine Kp_push C_t6 (by omega) (fun t7 C_t7 X_t7 a_t7 b_t7 d_t7 w_t7 u_t7 v_t7 j_t7 l_t7 => ?_)
    have e_t7 := C_t7.2.2.2.1
    rw [a_t6] at a_t7
    rw [b_t6] at b_t7
    rw [d_t6] at d_t7
    rw [w_t6] at w_t7
    rw [u_t6] at u_t7
    rw [v_t6] at v_t7
    clear d_t6 w_t6 u_t6 v_t6 e_t6 a_t6 b_t6
    have I_n_t7 := I_n_t6.flat X_t7
    have f_n_t7 := f_n_t6.ex I_n_t6 (X_t7 0)
    have I_m_mdt0_t7 := I_m_mdt0_t6.flat X_t7
    have u_m_mdt0_t7 := u_m_mdt0_t6.ex I_m_mdt0_t6 (X_t7 0)
    refine Kp_push C_t7 (by omega) (fun t8 C_t8 X_t8 a_t8 b_t8 d_t8 w_t8 u_t8 v_t8 j_t8 l_t8 => ?_)
    have e_t8 := C_t8.2.2.2.1
    rw [a_t7] at a_t8
    rw [b_t7] at b_t8
    rw [d_t7] at d_t8
    rw [w_t7] at w_t8
    rw [u_t7] at u_t8
    rw [v_t7] at v_t8
    clear d_t7 w_t7 u_t7 v_t7 e_t7 a_t7 b_t7
    have I_n_t8 := I_n_t7.flat X_t8
    have f_n_t8 := f_n_t7.ex I_n_t7 (X_t8 0)
    have I_m_mdt0_t8 := I_m_mdt0_t7.flat X_t8
    have u_m_mdt0_t8 := u_m_mdt0_t7.ex I_m_mdt0_t7 (X_t8 0)
    refine Kp_push C_t8 (by omega) (fun t9 C_t9 X_t9 a_t9 b_t9 d_t9 w_t9 u_t9 v_t9 j_t9 l_t9 => ?_)
    have e_t9 := C_t9.2.2.2.1
    rw [a_t8] at a_t9
    rw [b_t8] at b_t9
    rw [d_t8] at d_t9
    rw [w_t8] at w_t9
    rw [u_t8] at u_t9
    rw [v_t8] at v_t9
    clear d_t8 w_t8 u_t8 v_t8 e_t8 a_t8 b_t8
    have I_n_t9 := I_n_t8.flat X_t9
    have f_n_t9 := f_n_t8.ex I_n_t8 (X_t9 0)
    have I_m_mdt0_t9 := I_m_mdt0_t8.flat X_t9
    have u_m_mdt0_t9 := u_m_mdt0_t8.ex I_m_mdt0_t8 (X_t9 0)
    refine Ok_ret (show Ok _ _ _ from ?_)
    refine Ok_ret (show Ok _ _ _ from ?_)
    refine Hv_mk (Kv_c (x := (29, m_md t0, 0)) rfl (Kv_c (x := (18, m_md t0, 0)) rfl (Kv_c (x := (27, n, 26)) rfl hK))) (C_t9.1.2.2.2.2.2.2 hTt) C_t9 hT (by omega) (by omega) (by omega) ?_ ?_ ?_ (by omega) ?_ ?_ ?_
    · exact ⟨(Io_n (by decide) (by decide) I_m_mdt0_t9.1 I_m_mdt0_t9.2.1 I_m_mdt0_t9.2.2.1 (fun q => absurd q (by decide)) (fun q => absurd q (by decide)) I_m_mdt0_t9.2.2.2), (Nd_0 (by decide) Mo_nil), ⟨(Io_n (by decide) (by decide) I_m_mdt0_t9.1 I_m_mdt0_t9.2.1 I_m_mdt0_t9.2.2.1 (fun q => absurd q (by decide)) (fun q => absurd q (by decide)) I_m_mdt0_t9.2.2.2), (Nd_0 (by decide) (Mo_cons (fun q => show m_md t0 ≤ m_md t0 from by omega) Mo_nil)), ⟨(Io_27 (by decide) I_n_t9.1 I_n_t9.2.1 I_n_t9.2.2.1 I_n_t9.2.2.2), (Nd_0 (by decide) (Mo_cons (fun q => show n ≤ m_md t0 from by omega) (Mo_cons (fun q => show n ≤ m_md t0 from by omega) Mo_nil))), Stk_step (N := n) (pop := (26, n, t)) (new := [(27, n, 26), (18, m_md t0, 0), (29, m_md t0, 0)]) F0 C_t9.1.to2 (fun (h : nk 26 = false) => absurd h (by decide)) (fun q _ h => h (26, n, t) rfl) (fun _ => rfl) (fun y hy hk => ⟨rfl, (Mo_cons (fun q => show n ≤ n from by omega) (Mo_cons (fun q => show n ≤ m_md t0 from by omega) (Mo_cons (fun q => show n ≤ m_md t0 from by omega) Mo_nil))) y hy hk⟩) (fun (h : 26 = 3 ∨ 26 = 18 ∨ 26 = 41) => absurd h (by decide)) (fun (h : 26 = 18) => absurd h (by decide)) (fun (h : 26 = 41 ∨ 26 = 42 ∨ 26 = 43) => absurd h (by decide)) r [] (fun y hy => absurd hy List.not_mem_nil) hS⟩⟩⟩
    · exact (Aj_up (x := (29, m_md t0, 0)) (Aj_up (x := (18, m_md t0, 0)) (Aj_sub (y := (27, n, 26)) hJ (Nat.le_of_ble_eq_true rfl)) (Or.inl (Nat.le_of_ble_eq_true rfl))) (Or.inr (Nat.le_of_ble_eq_true rfl)))
    · show m_dp t9 = (dlt 29 + (dlt 18 + (dlt 27 + sD r)))
      have : dlt 18 = 0 := rfl; have : dlt 26 = 1 := rfl; have : dlt 27 = 1 := rfl; have : dlt 29 = 0 := rfl; omega
    · show m_rw t9 = (rho 29 + (rho 18 + (rho 27 + sR r)))
      have : rho 18 = 0 := rfl; have : rho 26 = 0 := rfl; have : rho 27 = 0 := rfl; have : rho 29 = 0 := rfl; omega
    · show m_md t9 + (mu7 29 + (mu7 18 + (mu7 27 + sM r))) ≤ 3 * m_at t9 + 7 * (r.length + 1 + 1 + 1) + 10
      have : mu7 18 = 5 := rfl; have : mu7 26 = 4 := rfl; have : mu7 27 = 4 := rfl; have : mu7 29 = 6 := rfl; omega
    · show (wt 29 + (wt 18 + (wt 27 + sW r))) + 6 * (4096 - m_at t9) + 4 * (600 - (r.length + 1 + 1 + 1)) < (wt 26 + sW r) + 6 * (4096 - m_at t0) + 4 * (600 - (r.length + 1))
      have : wt 18 = 0 := rfl; have : wt 26 = 0 := rfl; have : wt 27 = 1 := rfl; have : wt 29 = 0 := rfl; omega

theorem S_27 {t0 : Mm} {n t : Nat} {r : List It} (H : Hp t0 (27, n, t) r) {E : Mm → Prop} : Ok (Qh (mz t0 ((27, n, t) :: r))) E (b_X6_step 27 n t t0) := by
  obtain ⟨hK, hT, hc, hw0, ha, hC, hS, hJ, hdp, hdl, hrw, hmd, htd, hln, hm16, hI, hD, hTt⟩ := Hp_out H
  have C_t0 := hC n
  have F0 := C_t0.2.1
  have I_n_t0 : Nq t0 n := ⟨(hI.2.1 rfl).1, (hI.2.1 rfl).2.1, (hI.2.1 rfl).2.2, hI.2.2.2 rfl⟩
  have m_n_t0 := I_n_t0.1
  have ht : t < 4096 := hI.1.1 (show 27 ≠ 42 by decide) (show 27 ≠ 48 by decide)
  have ht27 : t = 26 ∨ t = 28 := hI.1.2.2.2.2.1 rfl
  have hdp : m_dp t0 = dlt 27 + sD r := hdp
  have hrw : m_rw t0 = rho 27 + sR r := hrw
  have hmd : m_md t0 + mu7 27 + sM r ≤ 3 * m_at t0 + 7 * r.length + 17 := hmd
  have hand : t &&& 1 ≤ 1 := Nat.and_le_right
  have h01 : (0 &&& 1 : Nat) = 0 := rfl
  have h02 : (1 : Nat) * 256 = 256 := rfl
  have hq1 : dlt 27 = 1 := rfl
  have hq2 : rho 27 = 0 := rfl
  have hq3 : mu7 27 = 4 := rfl
  unfold b_X6_step
  refine Ok_ifl (by decide) (by decide) (fun _ => ?_) (fun q => absurd (by decide) q)
  refine Ok_ifl (by decide) (by decide) (fun q => absurd q (by decide)) (fun _ => ?_)
  refine Ok_ifl (by decide) (by decide) (fun _ => ?_) (fun q => absurd (by decide) q)
  refine Ok_bnc ?_
  try unfold b_X6_typing
  refine Ok_ck (by decide) ?_
  refine Ok_ife (by decide) (by decide) (fun q => absurd q (by decide)) (fun _ => ?_)
  refine Ok_ife (by decide) (by decide) (fun q => absurd q (by decide)) (fun _ => ?_)
  refine Ok_ife (by decide) (by decide) (fun q => absurd q (by decide)) (fun _ => ?_)
  refine Ok_ife (by decide) (by decide) (fun q => absurd q (by decide)) (fun _ => ?_)
  refine Ok_ife (by decide) (by decide) (fun q => absurd q (by decide)) (fun _ => ?_)
  refine Ok_ife (by decide) (by decide) (fun q => absurd q (by decide)) (fun _ => ?_)
  refine Ok_ife (by decide) (by decide) (fun q => absurd q (by decide)) (fun _ => ?_)
  refine Ok_ife (by decide) (by decide) (fun q => absurd q (by decide)) (fun _ => ?_)
  refine Ok_ife (by decide) (by decide) (fun q => absurd q (by decide)) (fun _ => ?_)
  refine Ok_ife (by decide) (by decide) (fun _ => ?_) (fun q => absurd (by decide) q)
  refine Ok_bnc ?_
  try unfold b_X6_fieldsMore
  refine Kp_look C_t0 hT (by omega) ?_
  refine Ok_ife (Nat.lt_trans (lo_lt (C_t0.tk hT) _) (by decide)) (by decide) (fun q3 => ?_) (fun q3 => ?_)
  · refine Kp_push C_t0 (by omega) (fun t4 C_t4 X_t4 a_t4 b_t4 d_t4 w_t4 u_t4 v_t4 j_t4 l_t4 => ?_)
    have e_t4 := C_t4.2.2.2.1
    have I_n_t4 := I_n_t0.flat X_t4
    refine Ok_ret (show Ok _ _ _ from ?_)
    refine Ok_ret (show Ok _ _ _ from ?_)
    refine Hv_mk (Kv_c (x := (t, n, 0)) (kv_how ht27) hK) (C_t4.1.2.2.2.2.2.2 hTt) C_t4 hT (by omega) (by omega) (by omega) ?_ ?_ ?_ (by omega) ?_ ?_ ?_
    · exact ⟨(Io_how ht27 I_n_t4.1 I_n_t4.2.1 I_n_t4.2.2.1 I_n_t4.2.2.2), (Nd_how ht27 Mo_nil), Stk_step (N := n) (pop := (27, n, t)) (new := [(t, n, 0)]) F0 C_t4.1.to2 (fun (h : nk 27 = false) => absurd h (by decide)) (fun q _ h => h (27, n, t) rfl) (fun _ => rfl) (fun y hy hk => ⟨rfl, (Mo_cons (fun q => show n ≤ n from by omega) Mo_nil) y hy hk⟩) (fun (h : 27 = 3 ∨ 27 = 18 ∨ 27 = 41) => absurd h (by decide)) (fun (h : 27 = 18) => absurd h (by decide)) (fun (h : 27 = 41 ∨ 27 = 42 ∨ 27 = 43) => absurd h (by decide)) r [] (fun y hy => absurd hy List.not_mem_nil) hS⟩
    · exact (Aj_how ht27 hJ)
    · rcases ht27 with h | h <;> (rw [h]; show m_dp t4 = (1 + sD r); have : dlt 27 = 1 := rfl; omega)
    · rcases ht27 with h | h <;> (rw [h]; show m_rw t4 = (0 + sR r); have : rho 27 = 0 := rfl; omega)
    · rcases ht27 with h | h <;> (rw [h]; show m_md t4 + (4 + sM r) ≤ 3 * m_at t4 + 7 * (r.length + 1) + 10; have : mu7 27 = 4 := rfl; omega)
    · rcases ht27 with h | h <;> (rw [h]; show (0 + sW r) + 6 * (4096 - m_at t4) + 4 * (600 - (r.length + 1)) < (wt 27 + sW r) + 6 * (4096 - m_at t0) + 4 * (600 - (r.length + 1)); have : wt 27 = 1 := rfl; omega)
  · refine Kp_pass C_t0 hT (by omega) (by decide) (by omega) (fun t5 C_t5 X_t5 a_t5 b_t5 d_t5 w_t5 u_t5 v_t5 j_t5 l_t5 => ?_)
    have e_t5 := C_t5.2.2.2.1
    rcases w_t5 with ⟨w_t5, y_t5⟩ | ⟨w_t5, wb_t5⟩
    · have z_t5 : m_at t0 < m_ct t0 := lo_ne (Nat.ne_of_gt (show 0 < lo t0 (m_at t0) from by omega))
      have I_n_t5 := I_n_t0.flat X_t5
      refine Kp_push C_t5 (by omega) (fun t6 C_t6 X_t6 a_t6 b_t6 d_t6 w_t6 u_t6 v_t6 j_t6 l_t6 => ?_)
      have e_t6 := C_t6.2.2.2.1
      rw [a_t5] at a_t6
      rw [b_t5] at b_t6
      rw [d_t5] at d_t6
      rw [w_t5] at w_t6
      rw [u_t5] at u_t6
      rw [v_t5] at v_t6
      clear d_t5 w_t5 u_t5 v_t5 e_t5 a_t5 b_t5
      have I_n_t6 := I_n_t5.flat X_t6
      refine Ok_ret (show Ok _ _ _ from ?_)
      refine Ok_ret (show Ok _ _ _ from ?_)
      refine Hv_mk (Kv_c (x := (t, n, 0)) (kv_how ht27) hK) (C_t6.1.2.2.2.2.2.2 hTt) C_t6 hT (by omega) (by omega) (by omega) ?_ ?_ ?_ (by omega) ?_ ?_ ?_
      · exact ⟨(Io_how ht27 I_n_t6.1 I_n_t6.2.1 I_n_t6.2.2.1 I_n_t6.2.2.2), (Nd_how ht27 Mo_nil), Stk_step (N := n) (pop := (27, n, t)) (new := [(t, n, 0)]) F0 C_t6.1.to2 (fun (h : nk 27 = false) => absurd h (by decide)) (fun q _ h => h (27, n, t) rfl) (fun _ => rfl) (fun y hy hk => ⟨rfl, (Mo_cons (fun q => show n ≤ n from by omega) Mo_nil) y hy hk⟩) (fun (h : 27 = 3 ∨ 27 = 18 ∨ 27 = 41) => absurd h (by decide)) (fun (h : 27 = 18) => absurd h (by decide)) (fun (h : 27 = 41 ∨ 27 = 42 ∨ 27 = 43) => absurd h (by decide)) r [] (fun y hy => absurd hy List.not_mem_nil) hS⟩
      · exact (Aj_how ht27 hJ)
      · rcases ht27 with h | h <;> (rw [h]; show m_dp t6 = (1 + sD r); have : dlt 27 = 1 := rfl; omega)
      · rcases ht27 with h | h <;> (rw [h]; show m_rw t6 = (0 + sR r); have : rho 27 = 0 := rfl; omega)
      · rcases ht27 with h | h <;> (rw [h]; show m_md t6 + (4 + sM r) ≤ 3 * m_at t6 + 7 * (r.length + 1) + 10; have : mu7 27 = 4 := rfl; omega)
      · rcases ht27 with h | h <;> (rw [h]; show (0 + sW r) + 6 * (4096 - m_at t6) + 4 * (600 - (r.length + 1)) < (wt 27 + sW r) + 6 * (4096 - m_at t0) + 4 * (600 - (r.length + 1)); have : wt 27 = 1 := rfl; omega)
    · have w_t5 := Nat.pos_of_ne_zero w_t5
      have I_n_t5 := I_n_t0.flat X_t5
      refine Kp_push C_t5 (by omega) (fun t7 C_t7 X_t7 a_t7 b_t7 d_t7 w_t7 u_t7 v_t7 j_t7 l_t7 => ?_)
      have e_t7 := C_t7.2.2.2.1
      have I_n_t7 := I_n_t5.flat X_t7
      refine Ok_ret (show Ok _ _ _ from ?_)
      refine Ok_ret (show Ok _ _ _ from ?_)
      exact Or.inl ⟨Nat.ne_of_gt (show 0 < m_wr t7 from by omega), by omega, by omega, C_t7.2.2.2.2.2, by omega⟩

theorem S_28 {t0 : Mm} {n t : Nat} {r : List It} (H : Hp t0 (28, n, t) r) {E : Mm → Prop} : Ok (Qh (mz t0 ((28, n, t) :: r))) E (b_X6_step 28 n t t0) := by
  obtain ⟨hK, hT, hc, hw0, ha, hC, hS, hJ, hdp, hdl, hrw, hmd, htd, hln, hm16, hI, hD, hTt⟩ := Hp_out H
  have C_t0 := hC n
  have F0 := C_t0.2.1
  have I_n_t0 : Nq t0 n := ⟨(hI.2.1 rfl).1, (hI.2.1 rfl).2.1, (hI.2.1 rfl).2.2, hI.2.2.2 rfl⟩
  have m_n_t0 := I_n_t0.1
  have ht : t < 4096 := hI.1.1 (show 28 ≠ 42 by decide) (show 28 ≠ 48 by decide)
  have hdp : m_dp t0 = dlt 28 + sD r := hdp
  have hrw : m_rw t0 = rho 28 + sR r := hrw
  have hmd : m_md t0 + mu7 28 + sM r ≤ 3 * m_at t0 + 7 * r.length + 17 := hmd
  have hand : t &&& 1 ≤ 1 := Nat.and_le_right
  have h01 : (0 &&& 1 : Nat) = 0 := rfl
  have h02 : (1 : Nat) * 256 = 256 := rfl
  have hq1 : dlt 28 = 1 := rfl
  have hq2 : rho 28 = 0 := rfl
  have hq3 : mu7 28 = 4 := rfl
  unfold b_X6_step
  refine Ok_ifl (by decide) (by decide) (fun _ => ?_) (fun q => absurd (by decide) q)
  refine Ok_ifl (by decide) (by decide) (fun q => absurd q (by decide)) (fun _ => ?_)
  refine Ok_ifl (by decide) (by decide) (fun _ => ?_) (fun q => absurd (by decide) q)
  refine Ok_bnc ?_
  try unfold b_X6_typing
  refine Ok_ck (by decide) ?_
  refine Ok_ife (by decide) (by decide) (fun q => absurd q (by decide)) (fun _ => ?_)
  refine Ok_ife (by decide) (by decide) (fun q => absurd q (by decide)) (fun _ => ?_)
  refine Ok_ife (by decide) (by decide) (fun q => absurd q (by decide)) (fun _ => ?_)
  refine Ok_ife (by decide) (by decide) (fun q => absurd q (by decide)) (fun _ => ?_)
  refine Ok_ife (by decide) (by decide) (fun q => absurd q (by decide)) (fun _ => ?_)
  refine Ok_ife (by decide) (by decide) (fun q => absurd q (by decide)) (fun _ => ?_)
  refine Ok_ife (by decide) (by decide) (fun q => absurd q (by decide)) (fun _ => ?_)
  refine Ok_ife (by decide) (by decide) (fun q => absurd q (by decide)) (fun _ => ?_)
  refine Ok_ife (by decide) (by decide) (fun q => absurd q (by decide)) (fun _ => ?_)
  refine Ok_ife (by decide) (by decide) (fun q => absurd q (by decide)) (fun _ => ?_)
  refine Ok_bnc ?_
  try unfold b_X6_methods
  refine Kp_look C_t0 hT (by omega) ?_
  refine Ok_ife (Nat.lt_trans (lo_lt (C_t0.tk hT) _) (by decide)) (by decide) (fun q3 => ?_) (fun q3 => ?_)
  · have z_t4 : m_at t0 < m_ct t0 := lo_ne (Nat.ne_of_gt (show 0 < lo t0 (m_at t0) from by omega))
    refine Kp_at C_t0 (fun t4 C_t4 X_t4 a_t4 b_t4 d_t4 w_t4 u_t4 v_t4 j_t4 l_t4 => ?_)
    have e_t4 := C_t4.2.2.2.1
    have I_n_t4 := I_n_t0.flat X_t4
    refine Ok_ck (show (m_dp t4) ≠ 0 from by omega) ?_
    refine Kp_dp C_t4 (fun t5 C_t5 X_t5 a_t5 b_t5 d_t5 w_t5 u_t5 v_t5 j_t5 l_t5 => ?_)
    have e_t5 := C_t5.2.2.2.1
    rw [a_t4] at a_t5
    rw [b_t4] at b_t5
    rw [d_t4] at d_t5
    rw [w_t4] at w_t5
    rw [u_t4] at u_t5
    rw [v_t4] at v_t5
    clear d_t4 w_t4 u_t4 v_t4 e_t4 a_t4 b_t4
    have I_n_t5 := I_n_t4.flat X_t5
    refine Ok_ret (show Ok _ _ _ from ?_)
    refine Ok_ret (show Ok _ _ _ from ?_)
    refine Hv_mk hK (C_t5.1.2.2.2.2.2.2 hTt) C_t5 hT (by omega) (by omega) (by omega) ?_ ?_ ?_ (by omega) ?_ ?_ ?_
    · exact Stk_step (N := n) (pop := (28, n, t)) (new := []) F0 C_t5.1.to2 (fun (h : nk 28 = false) => absurd h (by decide)) (fun q _ h => h (28, n, t) rfl) (fun _ => rfl) (fun y hy hk => ⟨rfl, Mo_nil (n := n) y hy hk⟩) (fun (h : 28 = 3 ∨ 28 = 18 ∨ 28 = 41) => absurd h (by decide)) (fun (h : 28 = 18) => absurd h (by decide)) (fun (h : 28 = 41 ∨ 28 = 42 ∨ 28 = 43) => absurd h (by decide)) r [] (fun y hy => absurd hy List.not_mem_nil) hS
    · exact Aj_tl hJ
    · show m_dp t5 = sD r
      have : dlt 28 = 1 := rfl; omega
    · show m_rw t5 = sR r
      have : rho 28 = 0 := rfl; omega
    · show m_md t5 + sM r ≤ 3 * m_at t5 + 7 * (r.length) + 10
      have : mu7 28 = 4 := rfl; omega
    · show sW r + 6 * (4096 - m_at t5) + 4 * (600 - (r.length)) < (wt 28 + sW r) + 6 * (4096 - m_at t0) + 4 * (600 - (r.length + 1))
      have : wt 28 = 0 := rfl; omega
  · refine Kp_child C_t0 I_n_t0.1 I_n_t0.2.1 I_n_t0.2.2.1 (by omega) (by omega) (by decide) (by decide) (fun t6 C_t6 X_t6 a_t6 b_t6 d_t6 w_t6 u_t6 v_t6 j_t6 l_t6 => ?_)
    have e_t6 := C_t6.2.2.2.1
    have I_n_t6 := I_n_t0.chd X_t6 j_t6
    have f_n_t6 : Fz t6 n := j_t6.2.2.2.2.1
    have I_m_mdt0_t6 : Nq t6 (m_md t0) := Nq.chn j_t6 (by omega) I_n_t0 (by decide)
    have u_m_mdt0_t6 : Up t6 (m_md t0) := Or.inl j_t6.2.1
    refine Ok_bnc ?_
    try unfold b_X6_name
    refine Kp_look C_t6 hT (by omega) ?_
    refine Ok_ife (Nat.lt_trans (lo_lt (C_t6.tk hT) _) (by decide)) (by decide) (fun q8 => ?_) (fun q8 => ?_)
    · refine Kp_child C_t6 I_m_mdt0_t6.1 I_m_mdt0_t6.2.1 I_m_mdt0_t6.2.2.1 (by omega) (by omega) (by decide) (by decide) (fun t9 C_t9 X_t9 a_t9 b_t9 d_t9 w_t9 u_t9 v_t9 j_t9 l_t9 => ?_)
      have e_t9 := C_t9.2.2.2.1
      rw [a_t6] at a_t9
      rw [b_t6] at b_t9
      rw [d_t6] at d_t9
      rw [w_t6] at w_t9
      rw [u_t6] at u_t9
      rw [v_t6] at v_t9
      clear d_t6 w_t6 u_t6 v_t6 e_t6 a_t6
      have I_n_t9 := I_n_t6.chd X_t9 j_t9
      have f_n_t9 := f_n_t6.ex I_n_t6 (X_t9 0 (Nat.zero_le _))
      have I_m_mdt0_t9 := I_m_mdt0_t6.chd X_t9 j_t9
      have u_m_mdt0_t9 := u_m_mdt0_t6.ex I_m_mdt0_t6 (X_t9 0 (Nat.zero_le _))
      have f_m_mdt0_t9 : Fz t9 (m_md t0) := j_t9.2.2.2.2.1
      have I_m_mdt6_t9 : Nq t9 (m_md t6) := Nq.chn j_t9 (by omega) I_m_mdt0_t6 (by decide)
      have u_m_mdt6_t9 : Up t9 (m_md t6) := Or.inl j_t9.2.1
      have z_t10 : m_at t9 < m_ct t9 := lo_ne (Nat.ne_of_gt (show 0 < lo t9 (m_at t9) from by omega))
      refine Kp_at C_t9 (fun t10 C_t10 X_t10 a_t10 b_t10 d_t10 w_t10 u_t10 v_t10 j_t10 l_t10 => ?_)
      have e_t10 := C_t10.2.2.2.1
      rw [a_t9] at a_t10
      rw [b_t9] at b_t10
      rw [d_t9] at d_t10
      rw [w_t9] at w_t10
      rw [u_t9] at u_t10
      rw [v_t9] at v_t10
      rw [a_t9, e_t9] at z_t10
      clear d_t9 w_t9 u_t9 v_t9 e_t9 a_t9 b_t9
      have I_n_t10 := I_n_t9.flat X_t10
      have f_n_t10 := f_n_t9.ex I_n_t9 (X_t10 0)
      have I_m_mdt0_t10 := I_m_mdt0_t9.flat X_t10
      have f_m_mdt0_t10 := f_m_mdt0_t9.ex I_m_mdt0_t9 (X_t10 0)
      have u_m_mdt0_t10 := u_m_mdt0_t9.ex I_m_mdt0_t9 (X_t10 0)
      have I_m_mdt6_t10 := I_m_mdt6_t9.flat X_t10
      have u_m_mdt6_t10 := u_m_mdt6_t9.ex I_m_mdt6_t9 (X_t10 0)
      refine Ok_ret (show Ok _ _ _ from ?_)
      refine Kp_push C_t10 (by omega) (fun t11 C_t11 X_t11 a_t11 b_t11 d_t11 w_t11 u_t11 v_t11 j_t11 l_t11 => ?_)
      have e_t11 := C_t11.2.2.2.1
      rw [a_t10] at a_t11
      rw [b_t10] at b_t11
      rw [d_t10] at d_t11
      rw [w_t10] at w_t11
      rw [u_t10] at u_t11
      rw [v_t10] at v_t11
      clear d_t10 w_t10 u_t10 v_t10 e_t10 a_t10 b_t10
      have I_n_t11 := I_n_t10.flat X_t11
      have f_n_t11 := f_n_t10.ex I_n_t10 (X_t11 0)
      have I_m_mdt0_t11 := I_m_mdt0_t10.flat X_t11
      have f_m_mdt0_t11 := f_m_mdt0_t10.ex I_m_mdt0_t10 (X_t11 0)
      have u_m_mdt0_t11 := u_m_mdt0_t10.ex I_m_mdt0_t10 (X_t11 0)
      have I_m_mdt6_t11 := I_m_mdt6_t10.flat X_t11
      have u_m_mdt6_t11 := u_m_mdt6_t10.ex I_m_mdt6_t10 (X_t11 0)
      refine Kp_push C_t11 (by omega) (fun t12 C_t12 X_t12 a_t12 b_t12 d_t12 w_t12 u_t12 v_t12 j_t12 l_t12 => ?_)
      have e_t12 := C_t12.2.2.2.1
      rw [a_t11] at a_t12
      rw [b_t11] at b_t12
      rw [d_t11] at d_t12
      rw [w_t11] at w_t12
      rw [u_t11] at u_t12
      rw [v_t11] at v_t12
      clear d_t11 w_t11 u_t11 v_t11 e_t11 a_t11 b_t11
      have I_n_t12 := I_n_t11.flat X_t12
      have f_n_t12 := f_n_t11.ex I_n_t11 (X_t12 0)
      have I_m_mdt0_t12 := I_m_mdt0_t11.flat X_t12
      have f_m_mdt0_t12 := f_m_mdt0_t11.ex I_m_mdt0_t11 (X_t12 0)
      have u_m_mdt0_t12 := u_m_mdt0_t11.ex I_m_mdt0_t11 (X_t12 0)
      have I_m_mdt6_t12 := I_m_mdt6_t11.flat X_t12
      have u_m_mdt6_t12 := u_m_mdt6_t11.ex I_m_mdt6_t11 (X_t12 0)
      refine Ok_ret (show Ok _ _ _ from ?_)
      refine Ok_ret (show Ok _ _ _ from ?_)
      refine Hv_mk (Kv_c (x := (21, m_md t0, 0)) rfl (Kv_c (x := (27, n, 28)) rfl hK)) (C_t12.1.2.2.2.2.2.2 hTt) C_t12 hT (by omega) (by omega) (by omega) ?_ ?_ ?_ (by omega) ?_ ?_ ?_
      · exact ⟨(Io_n (by decide) (by decide) I_m_mdt0_t12.1 I_m_mdt0_t12.2.1 I_m_mdt0_t12.2.2.1 (fun q => absurd q (by decide)) (fun q => absurd q (by decide)) I_m_mdt0_t12.2.2.2), (Nd_0 (by decide) Mo_nil), ⟨(Io_27 (by decide) I_n_t12.1 I_n_t12.2.1 I_n_t12.2.2.1 I_n_t12.2.2.2), (Nd_0 (by decide) (Mo_cons (fun q => show n ≤ m_md t0 from by omega) Mo_nil)), Stk_step (N := n) (pop := (28, n, t)) (new := [(27, n, 28), (21, m_md t0, 0)]) F0 C_t12.1.to2 (fun (h : nk 28 = false) => absurd h (by decide)) (fun q _ h => h (28, n, t) rfl) (fun _ => rfl) (fun y hy hk => ⟨rfl, (Mo_cons (fun q => show n ≤ n from by omega) (Mo_cons (fun q => show n ≤ m_md t0 from by omega) Mo_nil)) y hy hk⟩) (fun (h : 28 = 3 ∨ 28 = 18 ∨ 28 = 41) => absurd h (by decide)) (fun (h : 28 = 18) => absurd h (by decide)) (fun (h : 28 = 41 ∨ 28 = 42 ∨ 28 = 43) => absurd h (by decide)) r [] (fun y hy => absurd hy List.not_mem_nil) hS⟩⟩
      · exact (Aj_up (x := (21, m_md t0, 0)) (Aj_sub (y := (27, n, 28)) hJ (Nat.le_of_ble_eq_true rfl)) (Or.inl (Nat.le_of_ble_eq_true rfl)))
      · show m_dp t12 = (dlt 21 + (dlt 27 + sD r))
        have : dlt 21 = 0 := rfl; have : dlt 27 = 1 := rfl; have : dlt 28 = 1 := rfl; omega
      · show m_rw t12 = (rho 21 + (rho 27 + sR r))
        have : rho 21 = 0 := rfl; have : rho 27 = 0 := rfl; have : rho 28 = 0 := rfl; omega
      · show m_md t12 + (mu7 21 + (mu7 27 + sM r)) ≤ 3 * m_at t12 + 7 * (r.length + 1 + 1) + 10
        have : mu7 21 = 3 := rfl; have : mu7 27 = 4 := rfl; have : mu7 28 = 4 := rfl; omega
      · show (wt 21 + (wt 27 + sW r)) + 6 * (4096 - m_at t12) + 4 * (600 - (r.length + 1 + 1)) < (wt 28 + sW r) + 6 * (4096 - m_at t0) + 4 * (600 - (r.length + 1))
        have : wt 21 = 2 := rfl; have : wt 27 = 1 := rfl; have : wt 28 = 0 := rfl; omega
    · refine Kp_error C_t6 (by omega) (fun t13 C_t13 X_t13 a_t13 b_t13 d_t13 w_t13 u_t13 v_t13 j_t13 l_t13 => ?_)
      have wb_t13 := w_t13.2
      have w_t13 := Nat.pos_of_ne_zero w_t13.1
      have e_t13 := C_t13.2.2.2.1
      have I_n_t13 := I_n_t6.flat X_t13
      have f_n_t13 := f_n_t6.ex I_n_t6 (X_t13 0)
      have I_m_mdt0_t13 := I_m_mdt0_t6.flat X_t13
      have u_m_mdt0_t13 := u_m_mdt0_t6.ex I_m_mdt0_t6 (X_t13 0)
      refine Kp_child C_t13 I_m_mdt0_t13.1 I_m_mdt0_t13.2.1 I_m_mdt0_t13.2.2.1 (by omega) (by omega) (by decide) (by decide) (fun t14 C_t14 X_t14 a_t14 b_t14 d_t14 w_t14 u_t14 v_t14 j_t14 l_t14 => ?_)
      have e_t14 := C_t14.2.2.2.1
      have I_n_t14 := I_n_t13.chd X_t14 j_t14
      have f_n_t14 := f_n_t13.ex I_n_t13 (X_t14 0 (Nat.zero_le _))
      have I_m_mdt0_t14 := I_m_mdt0_t13.chd X_t14 j_t14
      have u_m_mdt0_t14 := u_m_mdt0_t13.ex I_m_mdt0_t13 (X_t14 0 (Nat.zero_le _))
      have f_m_mdt0_t14 : Fz t14 (m_md t0) := j_t14.2.2.2.2.1
      have I_m_mdt13_t14 : Nq t14 (m_md t13) := Nq.chn j_t14 (by omega) I_m_mdt0_t13 (by decide)
      have u_m_mdt13_t14 : Up t14 (m_md t13) := Or.inl j_t14.2.1
      refine Kp_at C_t14 (fun t15 C_t15 X_t15 a_t15 b_t15 d_t15 w_t15 u_t15 v_t15 j_t15 l_t15 => ?_)
      have e_t15 := C_t15.2.2.2.1
      have I_n_t15 := I_n_t14.flat X_t15
      have f_n_t15 := f_n_t14.ex I_n_t14 (X_t15 0)
      have I_m_mdt0_t15 := I_m_mdt0_t14.flat X_t15
      have f_m_mdt0_t15 := f_m_mdt0_t14.ex I_m_mdt0_t14 (X_t15 0)
      have u_m_mdt0_t15 := u_m_mdt0_t14.ex I_m_mdt0_t14 (X_t15 0)
      have I_m_mdt13_t15 := I_m_mdt13_t14.flat X_t15
      have u_m_mdt13_t15 := u_m_mdt13_t14.ex I_m_mdt13_t14 (X_t15 0)
      refine Ok_ret (show Ok _ _ _ from ?_)
      refine Kp_push C_t15 (by omega) (fun t16 C_t16 X_t16 a_t16 b_t16 d_t16 w_t16 u_t16 v_t16 j_t16 l_t16 => ?_)
      have e_t16 := C_t16.2.2.2.1
      have I_n_t16 := I_n_t15.flat X_t16
      have f_n_t16 := f_n_t15.ex I_n_t15 (X_t16 0)
      have I_m_mdt0_t16 := I_m_mdt0_t15.flat X_t16
      have f_m_mdt0_t16 := f_m_mdt0_t15.ex I_m_mdt0_t15 (X_t16 0)
      have u_m_mdt0_t16 := u_m_mdt0_t15.ex I_m_mdt0_t15 (X_t16 0)
      have I_m_mdt13_t16 := I_m_mdt13_t15.flat X_t16
      have u_m_mdt13_t16 := u_m_mdt13_t15.ex I_m_mdt13_t15 (X_t16 0)
      refine Kp_push C_t16 (by omega) (fun t17 C_t17 X_t17 a_t17 b_t17 d_t17 w_t17 u_t17 v_t17 j_t17 l_t17 => ?_)
      have e_t17 := C_t17.2.2.2.1
      have I_n_t17 := I_n_t16.flat X_t17
      have f_n_t17 := f_n_t16.ex I_n_t16 (X_t17 0)
      have I_m_mdt0_t17 := I_m_mdt0_t16.flat X_t17
      have f_m_mdt0_t17 := f_m_mdt0_t16.ex I_m_mdt0_t16 (X_t17 0)
      have u_m_mdt0_t17 := u_m_mdt0_t16.ex I_m_mdt0_t16 (X_t17 0)
      have I_m_mdt13_t17 := I_m_mdt13_t16.flat X_t17
      have u_m_mdt13_t17 := u_m_mdt13_t16.ex I_m_mdt13_t16 (X_t17 0)
      refine Ok_ret (show Ok _ _ _ from ?_)
      refine Ok_ret (show Ok _ _ _ from ?_)
      exact Or.inl ⟨Nat.ne_of_gt (show 0 < m_wr t17 from by omega), by omega, by omega, C_t17.2.2.2.2.2, by omega⟩

theorem S_29 {t0 : Mm} {n t : Nat} {r : List It} (H : Hp t0 (29, n, t) r) {E : Mm → Prop} : Ok (Qh (mz t0 ((29, n, t) :: r))) E (b_X6_step 29 n t t0) := by
  obtain ⟨hK, hT, hc, hw0, ha, hC, hS, hJ, hdp, hdl, hrw, hmd, htd, hln, hm16, hI, hD, hTt⟩ := Hp_out H
  have C_t0 := hC n
  have F0 := C_t0.2.1
  have I_n_t0 : Nq t0 n := ⟨(hI.2.1 rfl).1, (hI.2.1 rfl).2.1, (hI.2.1 rfl).2.2, hI.2.2.2 rfl⟩
  have m_n_t0 := I_n_t0.1
  have ht : t < 4096 := hI.1.1 (show 29 ≠ 42 by decide) (show 29 ≠ 48 by decide)
  have hdp : m_dp t0 = dlt 29 + sD r := hdp
  have hrw : m_rw t0 = rho 29 + sR r := hrw
  have hmd : m_md t0 + mu7 29 + sM r ≤ 3 * m_at t0 + 7 * r.length + 17 := hmd
  have hand : t &&& 1 ≤ 1 := Nat.and_le_right
  have h01 : (0 &&& 1 : Nat) = 0 := rfl
  have h02 : (1 : Nat) * 256 = 256 := rfl
  have hq1 : dlt 29 = 0 := rfl
  have hq2 : rho 29 = 0 := rfl
  have hq3 : mu7 29 = 6 := rfl
  unfold b_X6_step
  refine Ok_ifl (by decide) (by decide) (fun _ => ?_) (fun q => absurd (by decide) q)
  refine Ok_ifl (by decide) (by decide) (fun q => absurd q (by decide)) (fun _ => ?_)
  refine Ok_ifl (by decide) (by decide) (fun q => absurd q (by decide)) (fun _ => ?_)
  refine Ok_ifl (by decide) (by decide) (fun _ => ?_) (fun q => absurd (by decide) q)
  refine Ok_bnc ?_
  try unfold b_X6_declaring
  refine Ok_ck (by decide) ?_
  refine Ok_ife (by decide) (by decide) (fun _ => ?_) (fun q => absurd (by decide) q)
  refine Ok_bnc ?_
  try unfold b_X6_names
  refine Kp_child C_t0 I_n_t0.1 I_n_t0.2.1 I_n_t0.2.2.1 (by omega) (by omega) (by decide) (by decide) (fun t3 C_t3 X_t3 a_t3 b_t3 d_t3 w_t3 u_t3 v_t3 j_t3 l_t3 => ?_)
  have e_t3 := C_t3.2.2.2.1
  have I_n_t3 := I_n_t0.chd X_t3 j_t3
  have f_n_t3 : Fz t3 n := j_t3.2.2.2.2.1
  have I_m_mdt0_t3 : Nq t3 (m_md t0) := Nq.chn j_t3 (by omega) I_n_t0 (by decide)
  have u_m_mdt0_t3 : Up t3 (m_md t0) := Or.inl j_t3.2.1
  refine Ok_bnc ?_
  try unfold b_X6_name
  refine Kp_look C_t3 hT (by omega) ?_
  refine Ok_ife (Nat.lt_trans (lo_lt (C_t3.tk hT) _) (by decide)) (by decide) (fun q5 => ?_) (fun q5 => ?_)
  · refine Kp_child C_t3 I_m_mdt0_t3.1 I_m_mdt0_t3.2.1 I_m_mdt0_t3.2.2.1 (by omega) (by omega) (by decide) (by decide) (fun t6 C_t6 X_t6 a_t6 b_t6 d_t6 w_t6 u_t6 v_t6 j_t6 l_t6 => ?_)
    have e_t6 := C_t6.2.2.2.1
    rw [a_t3] at a_t6
    rw [b_t3] at b_t6
    rw [d_t3] at d_t6
    rw [w_t3] at w_t6
    rw [u_t3] at u_t6
    rw [v_t3] at v_t6
    clear d_t3 w_t3 u_t3 v_t3 e_t3 a_t3
    have I_n_t6 := I_n_t3.chd X_t6 j_t6
    have f_n_t6 := f_n_t3.ex I_n_t3 (X_t6 0 (Nat.zero_le _))
    have I_m_mdt0_t6 := I_m_mdt0_t3.chd X_t6 j_t6
    have u_m_mdt0_t6 := u_m_mdt0_t3.ex I_m_mdt0_t3 (X_t6 0 (Nat.zero_le _))
    have f_m_mdt0_t6 : Fz t6 (m_md t0) := j_t6.2.2.2.2.1
    have I_m_mdt3_t6 : Nq t6 (m_md t3) := Nq.chn j_t6 (by omega) I_m_mdt0_t3 (by decide)
    have u_m_mdt3_t6 : Up t6 (m_md t3) := Or.inl j_t6.2.1
    have z_t7 : m_at t6 < m_ct t6 := lo_ne (Nat.ne_of_gt (show 0 < lo t6 (m_at t6) from by omega))
    refine Kp_at C_t6 (fun t7 C_t7 X_t7 a_t7 b_t7 d_t7 w_t7 u_t7 v_t7 j_t7 l_t7 => ?_)
    have e_t7 := C_t7.2.2.2.1
    rw [a_t6] at a_t7
    rw [b_t6] at b_t7
    rw [d_t6] at d_t7
    rw [w_t6] at w_t7
    rw [u_t6] at u_t7
    rw [v_t6] at v_t7
    rw [a_t6, e_t6] at z_t7
    clear d_t6 w_t6 u_t6 v_t6 e_t6 a_t6 b_t6
    have I_n_t7 := I_n_t6.flat X_t7
    have f_n_t7 := f_n_t6.ex I_n_t6 (X_t7 0)
    have I_m_mdt0_t7 := I_m_mdt0_t6.flat X_t7
    have f_m_mdt0_t7 := f_m_mdt0_t6.ex I_m_mdt0_t6 (X_t7 0)
    have u_m_mdt0_t7 := u_m_mdt0_t6.ex I_m_mdt0_t6 (X_t7 0)
    have I_m_mdt3_t7 := I_m_mdt3_t6.flat X_t7
    have u_m_mdt3_t7 := u_m_mdt3_t6.ex I_m_mdt3_t6 (X_t7 0)
    refine Ok_ret (show Ok _ _ _ from ?_)
    refine Kp_push C_t7 (by omega) (fun t8 C_t8 X_t8 a_t8 b_t8 d_t8 w_t8 u_t8 v_t8 j_t8 l_t8 => ?_)
    have e_t8 := C_t8.2.2.2.1
    rw [a_t7] at a_t8
    rw [b_t7] at b_t8
    rw [d_t7] at d_t8
    rw [w_t7] at w_t8
    rw [u_t7] at u_t8
    rw [v_t7] at v_t8
    clear d_t7 w_t7 u_t7 v_t7 e_t7 a_t7 b_t7
    have I_n_t8 := I_n_t7.flat X_t8
    have f_n_t8 := f_n_t7.ex I_n_t7 (X_t8 0)
    have I_m_mdt0_t8 := I_m_mdt0_t7.flat X_t8
    have f_m_mdt0_t8 := f_m_mdt0_t7.ex I_m_mdt0_t7 (X_t8 0)
    have u_m_mdt0_t8 := u_m_mdt0_t7.ex I_m_mdt0_t7 (X_t8 0)
    have I_m_mdt3_t8 := I_m_mdt3_t7.flat X_t8
    have u_m_mdt3_t8 := u_m_mdt3_t7.ex I_m_mdt3_t7 (X_t8 0)
    refine Ok_ret (show Ok _ _ _ from ?_)
    refine Ok_ret (show Ok _ _ _ from ?_)
    refine Hv_mk (Kv_c (x := (30, m_md t0, 0)) rfl hK) (C_t8.1.2.2.2.2.2.2 hTt) C_t8 hT (by omega) (by omega) (by omega) ?_ ?_ ?_ (by omega) ?_ ?_ ?_
    · exact ⟨(Io_n (by decide) (by decide) I_m_mdt0_t8.1 I_m_mdt0_t8.2.1 I_m_mdt0_t8.2.2.1 (fun q => absurd q (by decide)) (fun q => absurd q (by decide)) I_m_mdt0_t8.2.2.2), (Nd_0 (by decide) Mo_nil), Stk_step (N := n) (pop := (29, n, t)) (new := [(30, m_md t0, 0)]) F0 C_t8.1.to2 (fun (h : nk 29 = false) => absurd h (by decide)) (fun q _ h => h (29, n, t) rfl) (fun _ => rfl) (fun y hy hk => ⟨rfl, (Mo_cons (fun q => show n ≤ m_md t0 from by omega) Mo_nil) y hy hk⟩) (fun (h : 29 = 3 ∨ 29 = 18 ∨ 29 = 41) => absurd h (by decide)) (fun (h : 29 = 18) => absurd h (by decide)) (fun (h : 29 = 41 ∨ 29 = 42 ∨ 29 = 43) => absurd h (by decide)) r [] (fun y hy => absurd hy List.not_mem_nil) hS⟩
    · exact (Aj_sub (y := (30, m_md t0, 0)) hJ (Nat.le_of_ble_eq_true rfl))
    · show m_dp t8 = (dlt 30 + sD r)
      have : dlt 29 = 0 := rfl; have : dlt 30 = 0 := rfl; omega
    · show m_rw t8 = (rho 30 + sR r)
      have : rho 29 = 0 := rfl; have : rho 30 = 0 := rfl; omega
    · show m_md t8 + (mu7 30 + sM r) ≤ 3 * m_at t8 + 7 * (r.length + 1) + 10
      have : mu7 29 = 6 := rfl; have : mu7 30 = 7 := rfl; omega
    · show (wt 30 + sW r) + 6 * (4096 - m_at t8) + 4 * (600 - (r.length + 1)) < (wt 29 + sW r) + 6 * (4096 - m_at t0) + 4 * (600 - (r.length + 1))
      have : wt 29 = 0 := rfl; have : wt 30 = 5 := rfl; omega
  · refine Kp_error C_t3 (by omega) (fun t9 C_t9 X_t9 a_t9 b_t9 d_t9 w_t9 u_t9 v_t9 j_t9 l_t9 => ?_)
    have wb_t9 := w_t9.2
    have w_t9 := Nat.pos_of_ne_zero w_t9.1
    have e_t9 := C_t9.2.2.2.1
    have I_n_t9 := I_n_t3.flat X_t9
    have f_n_t9 := f_n_t3.ex I_n_t3 (X_t9 0)
    have I_m_mdt0_t9 := I_m_mdt0_t3.flat X_t9
    have u_m_mdt0_t9 := u_m_mdt0_t3.ex I_m_mdt0_t3 (X_t9 0)
    refine Kp_child C_t9 I_m_mdt0_t9.1 I_m_mdt0_t9.2.1 I_m_mdt0_t9.2.2.1 (by omega) (by omega) (by decide) (by decide) (fun t10 C_t10 X_t10 a_t10 b_t10 d_t10 w_t10 u_t10 v_t10 j_t10 l_t10 => ?_)
    have e_t10 := C_t10.2.2.2.1
    have I_n_t10 := I_n_t9.chd X_t10 j_t10
    have f_n_t10 := f_n_t9.ex I_n_t9 (X_t10 0 (Nat.zero_le _))
    have I_m_mdt0_t10 := I_m_mdt0_t9.chd X_t10 j_t10
    have u_m_mdt0_t10 := u_m_mdt0_t9.ex I_m_mdt0_t9 (X_t10 0 (Nat.zero_le _))
    have f_m_mdt0_t10 : Fz t10 (m_md t0) := j_t10.2.2.2.2.1
    have I_m_mdt9_t10 : Nq t10 (m_md t9) := Nq.chn j_t10 (by omega) I_m_mdt0_t9 (by decide)
    have u_m_mdt9_t10 : Up t10 (m_md t9) := Or.inl j_t10.2.1
    refine Kp_at C_t10 (fun t11 C_t11 X_t11 a_t11 b_t11 d_t11 w_t11 u_t11 v_t11 j_t11 l_t11 => ?_)
    have e_t11 := C_t11.2.2.2.1
    have I_n_t11 := I_n_t10.flat X_t11
    have f_n_t11 := f_n_t10.ex I_n_t10 (X_t11 0)
    have I_m_mdt0_t11 := I_m_mdt0_t10.flat X_t11
    have f_m_mdt0_t11 := f_m_mdt0_t10.ex I_m_mdt0_t10 (X_t11 0)
    have u_m_mdt0_t11 := u_m_mdt0_t10.ex I_m_mdt0_t10 (X_t11 0)
    have I_m_mdt9_t11 := I_m_mdt9_t10.flat X_t11
    have u_m_mdt9_t11 := u_m_mdt9_t10.ex I_m_mdt9_t10 (X_t11 0)
    refine Ok_ret (show Ok _ _ _ from ?_)
    refine Kp_push C_t11 (by omega) (fun t12 C_t12 X_t12 a_t12 b_t12 d_t12 w_t12 u_t12 v_t12 j_t12 l_t12 => ?_)
    have e_t12 := C_t12.2.2.2.1
    have I_n_t12 := I_n_t11.flat X_t12
    have f_n_t12 := f_n_t11.ex I_n_t11 (X_t12 0)
    have I_m_mdt0_t12 := I_m_mdt0_t11.flat X_t12
    have f_m_mdt0_t12 := f_m_mdt0_t11.ex I_m_mdt0_t11 (X_t12 0)
    have u_m_mdt0_t12 := u_m_mdt0_t11.ex I_m_mdt0_t11 (X_t12 0)
    have I_m_mdt9_t12 := I_m_mdt9_t11.flat X_t12
    have u_m_mdt9_t12 := u_m_mdt9_t11.ex I_m_mdt9_t11 (X_t12 0)
    refine Ok_ret (show Ok _ _ _ from ?_)
    refine Ok_ret (show Ok _ _ _ from ?_)
    exact Or.inl ⟨Nat.ne_of_gt (show 0 < m_wr t12 from by omega), by omega, by omega, C_t12.2.2.2.2.2, by omega⟩

