/-! The steps of the reference, one by one. -/
theorem S_13 {t0 : Mm} {n t : Nat} {r : List It} (H : Hp t0 (13, n, t) r) {E : Mm → Prop} : Ok (Qh (mz t0 ((13, n, t) :: r))) E (b_X6_step 13 n t t0) := by
  obtain ⟨hK, hT, hc, hw0, ha, hC, hS, hJ, hdp, hdl, hrw, hmd, htd, hln, hm16, hI, hD, hTt⟩ := Hp_out H
  have C_t0 := hC n
  have F0 := C_t0.2.1
  have I_n_t0 : Nq t0 n := ⟨(hI.2.1 rfl).1, (hI.2.1 rfl).2.1, (hI.2.1 rfl).2.2, hI.2.2.2 rfl⟩
  have m_n_t0 := I_n_t0.1
  have ht : t < 4096 := hI.1.1 (show 13 ≠ 42 by decide) (show 13 ≠ 48 by decide)
  have hdp : m_dp t0 = dlt 13 + sD r := hdp
  have hrw : m_rw t0 = rho 13 + sR r := hrw
  have hmd : m_md t0 + mu7 13 + sM r ≤ 3 * m_at t0 + 7 * r.length + 17 := hmd
  have hand : t &&& 1 ≤ 1 := Nat.and_le_right
  have h01 : (0 &&& 1 : Nat) = 0 := rfl
  have h02 : (1 : Nat) * 256 = 256 := rfl
  have hq1 : dlt 13 = 1 := rfl
  have hq2 : rho 13 = 0 := rfl
  have hq3 : mu7 13 = 4 := rfl
  unfold b_X6_step
  refine Ok_ifl (by decide) (by decide) (fun _ => ?_) (fun q => absurd (by decide) q)
  refine Ok_ifl (by decide) (by decide) (fun _ => ?_) (fun q => absurd (by decide) q)
  refine Ok_bnc ?_
  try unfold b_X6_value_
  refine Ok_ck (by decide) ?_
  refine Ok_ife (by decide) (by decide) (fun q => absurd q (by decide)) (fun _ => ?_)
  refine Ok_ife (by decide) (by decide) (fun q => absurd q (by decide)) (fun _ => ?_)
  refine Ok_ife (by decide) (by decide) (fun q => absurd q (by decide)) (fun _ => ?_)
  refine Ok_ife (by decide) (by decide) (fun q => absurd q (by decide)) (fun _ => ?_)
  refine Ok_ife (by decide) (by decide) (fun q => absurd q (by decide)) (fun _ => ?_)
  refine Ok_ife (by decide) (by decide) (fun q => absurd q (by decide)) (fun _ => ?_)
  refine Ok_ife (by decide) (by decide) (fun q => absurd q (by decide)) (fun _ => ?_)
  refine Ok_ife (by decide) (by decide) (fun q => absurd q (by decide)) (fun _ => ?_)
  refine Ok_ife (by decide) (by decide) (fun _ => ?_) (fun q => absurd (by decide) q)
  refine Ok_bnc ?_
  try unfold b_X6_sliceMore
  refine Kp_look C_t0 hT (by omega) ?_
  refine Ok_ife (Nat.lt_trans (lo_lt (C_t0.tk hT) _) (by decide)) (by decide) (fun q3 => ?_) (fun q3 => ?_)
  · have z_t4 : m_at t0 < m_ct t0 := lo_ne (Nat.ne_of_gt (show 0 < lo t0 (m_at t0) from by omega))
    refine Kp_at C_t0 (fun t4 C_t4 X_t4 a_t4 b_t4 d_t4 w_t4 u_t4 v_t4 j_t4 l_t4 => ?_)
    have e_t4 := C_t4.2.2.2.1
    have I_n_t4 := I_n_t0.flat X_t4
    refine Kp_push C_t4 (by omega) (fun t5 C_t5 X_t5 a_t5 b_t5 d_t5 w_t5 u_t5 v_t5 j_t5 l_t5 => ?_)
    have e_t5 := C_t5.2.2.2.1
    rw [a_t4] at a_t5
    rw [b_t4] at b_t5
    rw [d_t4] at d_t5
    rw [w_t4] at w_t5
    rw [u_t4] at u_t5
    rw [v_t4] at v_t5
    clear d_t4 w_t4 u_t4 v_t4 e_t4 a_t4 b_t4
    have I_n_t5 := I_n_t4.flat X_t5
    refine Ok_bnc ?_
    try unfold b_X6_expression
    refine Kp_push C_t5 (by omega) (fun t7 C_t7 X_t7 a_t7 b_t7 d_t7 w_t7 u_t7 v_t7 j_t7 l_t7 => ?_)
    have e_t7 := C_t7.2.2.2.1
    rw [a_t5] at a_t7
    rw [b_t5] at b_t7
    rw [d_t5] at d_t7
    rw [w_t5] at w_t7
    rw [u_t5] at u_t7
    rw [v_t5] at v_t7
    clear d_t5 w_t5 u_t5 v_t5 e_t5 a_t5 b_t5
    have I_n_t7 := I_n_t5.flat X_t7
    refine Kp_push C_t7 (by omega) (fun t8 C_t8 X_t8 a_t8 b_t8 d_t8 w_t8 u_t8 v_t8 j_t8 l_t8 => ?_)
    have e_t8 := C_t8.2.2.2.1
    rw [a_t7] at a_t8
    rw [b_t7] at b_t8
    rw [d_t7] at d_t8
    rw [w_t7] at w_t8
    rw [u_t7] at u_t8
    rw [v_t7] at v_t8
    clear d_t7 w_t7 u_t7 v_t7 e_t7 a_t7 b_t7
    have I_n_t8 := I_n_t7.flat X_t8
    refine Ok_ret (show Ok _ _ _ from ?_)
    refine Ok_ret (show Ok _ _ _ from ?_)
    refine Ok_ret (show Ok _ _ _ from ?_)
    refine Hv_mk (Kv_c (x := (3, n, 0)) rfl (Kv_c (x := (2, n, 0 ||| (1 * 256))) rfl (Kv_c (x := (8, 81, 0)) rfl hK))) (C_t8.1.2.2.2.2.2.2 hTt) C_t8 hT (by omega) (by omega) (by omega) ?_ ?_ ?_ (by omega) ?_ ?_ ?_
    · exact ⟨(Io_n (by decide) (by decide) I_n_t8.1 I_n_t8.2.1 I_n_t8.2.2.1 (fun q => absurd q (by decide)) (fun q => absurd q (by decide)) I_n_t8.2.2.2), (Nd_0 (by decide) Mo_nil), ⟨(Io_2 (by have := or_256 (b := 1) (show 0 < 256 from by omega); omega) (by have := or_256 (b := 1) (show 0 < 256 from by omega); omega) (by have := or_256 (b := 1) (show 0 < 256 from by omega); omega) I_n_t8.1 I_n_t8.2.1 I_n_t8.2.2.1 I_n_t8.2.2.2), (Nd_A (by decide) (Mo_cons (fun q => show n ≤ n from by omega) Mo_nil) (Or.inr ⟨(3, n, 0), List.mem_cons_self, rfl, Or.inl rfl⟩)), ⟨(Io_78 (by decide) (by decide) (by decide)), (Nd_x (by decide)), Stk_step (N := n) (pop := (13, n, t)) (new := [(8, 81, 0), (2, n, 0 ||| (1 * 256)), (3, n, 0)]) F0 C_t8.1.to2 (fun (h : nk 13 = false) => absurd h (by decide)) (fun q _ h => h (13, n, t) rfl) (fun _ => rfl) (fun y hy hk => ⟨rfl, (Mo_cons (fun q => absurd (show nk 8 = true from q) (by decide)) (Mo_cons (fun q => show n ≤ n from by omega) (Mo_cons (fun q => show n ≤ n from by omega) Mo_nil))) y hy hk⟩) (fun (h : 13 = 3 ∨ 13 = 18 ∨ 13 = 41) => absurd h (by decide)) (fun (h : 13 = 18) => absurd h (by decide)) (fun (h : 13 = 41 ∨ 13 = 42 ∨ 13 = 43) => absurd h (by decide)) r [] (fun y hy => absurd hy List.not_mem_nil) hS⟩⟩⟩
    · exact (Aj_up (x := (3, n, 0)) (Aj_up (x := (2, n, 0 ||| (1 * 256))) (Aj_sub (y := (8, 81, 0)) hJ (Nat.le_of_ble_eq_true rfl)) (Or.inl (Nat.le_of_ble_eq_true rfl))) (Or.inr (show 2 < 9 - (0 ||| (1 * 256)) / 256 from by have := or_256 (b := 1) (show 0 < 256 from by omega); omega)))
    · show m_dp t8 = (dlt 3 + (dlt 2 + (dlt 8 + sD r)))
      have : dlt 13 = 1 := rfl; have : dlt 2 = 0 := rfl; have : dlt 3 = 0 := rfl; have : dlt 8 = 1 := rfl; omega
    · show m_rw t8 = (rho 3 + (rho 2 + (rho 8 + sR r)))
      have : rho 13 = 0 := rfl; have : rho 2 = 0 := rfl; have : rho 3 = 0 := rfl; have : rho 8 = 0 := rfl; omega
    · show m_md t8 + (mu7 3 + (mu7 2 + (mu7 8 + sM r))) ≤ 3 * m_at t8 + 7 * (r.length + 1 + 1 + 1) + 10
      have : mu7 13 = 4 := rfl; have : mu7 2 = 7 := rfl; have : mu7 3 = 5 := rfl; have : mu7 8 = 4 := rfl; omega
    · show (wt 3 + (wt 2 + (wt 8 + sW r))) + 6 * (4096 - m_at t8) + 4 * (600 - (r.length + 1 + 1 + 1)) < (wt 13 + sW r) + 6 * (4096 - m_at t0) + 4 * (600 - (r.length + 1))
      have : wt 13 = 0 := rfl; have : wt 2 = 5 := rfl; have : wt 3 = 3 := rfl; have : wt 8 = 0 := rfl; omega
  · refine Kp_pass C_t0 hT (by omega) (by decide) (by omega) (fun t9 C_t9 X_t9 a_t9 b_t9 d_t9 w_t9 u_t9 v_t9 j_t9 l_t9 => ?_)
    have e_t9 := C_t9.2.2.2.1
    rcases w_t9 with ⟨w_t9, y_t9⟩ | ⟨w_t9, wb_t9⟩
    · have z_t9 : m_at t0 < m_ct t0 := lo_ne (Nat.ne_of_gt (show 0 < lo t0 (m_at t0) from by omega))
      have I_n_t9 := I_n_t0.flat X_t9
      refine Ok_ck (show (m_dp t9) ≠ 0 from by omega) ?_
      refine Kp_dp C_t9 (fun t10 C_t10 X_t10 a_t10 b_t10 d_t10 w_t10 u_t10 v_t10 j_t10 l_t10 => ?_)
      have e_t10 := C_t10.2.2.2.1
      rw [a_t9] at a_t10
      rw [b_t9] at b_t10
      rw [d_t9] at d_t10
      rw [w_t9] at w_t10
      rw [u_t9] at u_t10
      rw [v_t9] at v_t10
      clear d_t9 w_t9 u_t9 v_t9 e_t9 a_t9 b_t9
      have I_n_t10 := I_n_t9.flat X_t10
      refine Ok_ret (show Ok _ _ _ from ?_)
      refine Ok_ret (show Ok _ _ _ from ?_)
      refine Hv_mk hK (C_t10.1.2.2.2.2.2.2 hTt) C_t10 hT (by omega) (by omega) (by omega) ?_ ?_ ?_ (by omega) ?_ ?_ ?_
      · exact Stk_step (N := n) (pop := (13, n, t)) (new := []) F0 C_t10.1.to2 (fun (h : nk 13 = false) => absurd h (by decide)) (fun q _ h => h (13, n, t) rfl) (fun _ => rfl) (fun y hy hk => ⟨rfl, Mo_nil (n := n) y hy hk⟩) (fun (h : 13 = 3 ∨ 13 = 18 ∨ 13 = 41) => absurd h (by decide)) (fun (h : 13 = 18) => absurd h (by decide)) (fun (h : 13 = 41 ∨ 13 = 42 ∨ 13 = 43) => absurd h (by decide)) r [] (fun y hy => absurd hy List.not_mem_nil) hS
      · exact Aj_tl hJ
      · show m_dp t10 = sD r
        have : dlt 13 = 1 := rfl; omega
      · show m_rw t10 = sR r
        have : rho 13 = 0 := rfl; omega
      · show m_md t10 + sM r ≤ 3 * m_at t10 + 7 * (r.length) + 10
        have : mu7 13 = 4 := rfl; omega
      · show sW r + 6 * (4096 - m_at t10) + 4 * (600 - (r.length)) < (wt 13 + sW r) + 6 * (4096 - m_at t0) + 4 * (600 - (r.length + 1))
        have : wt 13 = 0 := rfl; omega
    · have w_t9 := Nat.pos_of_ne_zero w_t9
      have I_n_t9 := I_n_t0.flat X_t9
      refine Ok_ck (show (m_dp t9) ≠ 0 from by omega) ?_
      refine Kp_dp C_t9 (fun t11 C_t11 X_t11 a_t11 b_t11 d_t11 w_t11 u_t11 v_t11 j_t11 l_t11 => ?_)
      have e_t11 := C_t11.2.2.2.1
      have I_n_t11 := I_n_t9.flat X_t11
      refine Ok_ret (show Ok _ _ _ from ?_)
      refine Ok_ret (show Ok _ _ _ from ?_)
      exact Or.inl ⟨Nat.ne_of_gt (show 0 < m_wr t11 from by omega), by omega, by omega, C_t11.2.2.2.2.2, by omega⟩

theorem S_14 {t0 : Mm} {n t : Nat} {r : List It} (H : Hp t0 (14, n, t) r) {E : Mm → Prop} : Ok (Qh (mz t0 ((14, n, t) :: r))) E (b_X6_step 14 n t t0) := by
  obtain ⟨hK, hT, hc, hw0, ha, hC, hS, hJ, hdp, hdl, hrw, hmd, htd, hln, hm16, hI, hD, hTt⟩ := Hp_out H
  have C_t0 := hC n
  have F0 := C_t0.2.1
  have I_n_t0 : Nq t0 n := ⟨(hI.2.1 rfl).1, (hI.2.1 rfl).2.1, (hI.2.1 rfl).2.2, hI.2.2.2 rfl⟩
  have m_n_t0 := I_n_t0.1
  have ht : t < 4096 := hI.1.1 (show 14 ≠ 42 by decide) (show 14 ≠ 48 by decide)
  have hdp : m_dp t0 = dlt 14 + sD r := hdp
  have hrw : m_rw t0 = rho 14 + sR r := hrw
  have hmd : m_md t0 + mu7 14 + sM r ≤ 3 * m_at t0 + 7 * r.length + 17 := hmd
  have hand : t &&& 1 ≤ 1 := Nat.and_le_right
  have h01 : (0 &&& 1 : Nat) = 0 := rfl
  have h02 : (1 : Nat) * 256 = 256 := rfl
  have hq1 : dlt 14 = 1 := rfl
  have hq2 : rho 14 = 0 := rfl
  have hq3 : mu7 14 = 4 := rfl
  unfold b_X6_step
  refine Ok_ifl (by decide) (by decide) (fun _ => ?_) (fun q => absurd (by decide) q)
  refine Ok_ifl (by decide) (by decide) (fun _ => ?_) (fun q => absurd (by decide) q)
  refine Ok_bnc ?_
  try unfold b_X6_value_
  refine Ok_ck (by decide) ?_
  refine Ok_ife (by decide) (by decide) (fun q => absurd q (by decide)) (fun _ => ?_)
  refine Ok_ife (by decide) (by decide) (fun q => absurd q (by decide)) (fun _ => ?_)
  refine Ok_ife (by decide) (by decide) (fun q => absurd q (by decide)) (fun _ => ?_)
  refine Ok_ife (by decide) (by decide) (fun q => absurd q (by decide)) (fun _ => ?_)
  refine Ok_ife (by decide) (by decide) (fun q => absurd q (by decide)) (fun _ => ?_)
  refine Ok_ife (by decide) (by decide) (fun q => absurd q (by decide)) (fun _ => ?_)
  refine Ok_ife (by decide) (by decide) (fun q => absurd q (by decide)) (fun _ => ?_)
  refine Ok_ife (by decide) (by decide) (fun q => absurd q (by decide)) (fun _ => ?_)
  refine Ok_ife (by decide) (by decide) (fun q => absurd q (by decide)) (fun _ => ?_)
  refine Ok_ife (by decide) (by decide) (fun _ => ?_) (fun q => absurd (by decide) q)
  refine Ok_bnc ?_
  try unfold b_X6_elements
  refine Kp_look C_t0 hT (by omega) ?_
  refine Ok_ife (Nat.lt_trans (lo_lt (C_t0.tk hT) _) (by decide)) (by decide) (fun q3 => ?_) (fun q3 => ?_)
  · have z_t4 : m_at t0 < m_ct t0 := lo_ne (Nat.ne_of_gt (show 0 < lo t0 (m_at t0) from by omega))
    refine Kp_at C_t0 (fun t4 C_t4 X_t4 a_t4 b_t4 d_t4 w_t4 u_t4 v_t4 j_t4 l_t4 => ?_)
    have e_t4 := C_t4.2.2.2.1
    have I_n_t4 := I_n_t0.flat X_t4
    refine Ok_ck (show (m_dp t4) ≠ 0 from by omega) ?_
    refine Kp_dp C_t4 (fun t5 C_t5 X_t5 a_t5 b_t5 d_t5 w_t5 u_t5 v_t5 j_t5 l_t5 => ?_)
    have e_t5 := C_t5.2.2.2.1
    rw [a_t4] at a_t5
    rw [b_t4] at b_t5
    rw [d_t4] at d_t5
    rw [w_t4] at w_t5
    rw [u_t4] at u_t5
    rw [v_t4] at v_t5
    clear d_t4 w_t4 u_t4 v_t4 e_t4 a_t4 b_t4
    have I_n_t5 := I_n_t4.flat X_t5
    refine Ok_ret (show Ok _ _ _ from ?_)
    refine Ok_ret (show Ok _ _ _ from ?_)
    refine Hv_mk hK (C_t5.1.2.2.2.2.2.2 hTt) C_t5 hT (by omega) (by omega) (by omega) ?_ ?_ ?_ (by omega) ?_ ?_ ?_
    · exact Stk_step (N := n) (pop := (14, n, t)) (new := []) F0 C_t5.1.to2 (fun (h : nk 14 = false) => absurd h (by decide)) (fun q _ h => h (14, n, t) rfl) (fun _ => rfl) (fun y hy hk => ⟨rfl, Mo_nil (n := n) y hy hk⟩) (fun (h : 14 = 3 ∨ 14 = 18 ∨ 14 = 41) => absurd h (by decide)) (fun (h : 14 = 18) => absurd h (by decide)) (fun (h : 14 = 41 ∨ 14 = 42 ∨ 14 = 43) => absurd h (by decide)) r [] (fun y hy => absurd hy List.not_mem_nil) hS
    · exact Aj_tl hJ
    · show m_dp t5 = sD r
      have : dlt 14 = 1 := rfl; omega
    · show m_rw t5 = sR r
      have : rho 14 = 0 := rfl; omega
    · show m_md t5 + sM r ≤ 3 * m_at t5 + 7 * (r.length) + 10
      have : mu7 14 = 4 := rfl; omega
    · show sW r + 6 * (4096 - m_at t5) + 4 * (600 - (r.length)) < (wt 14 + sW r) + 6 * (4096 - m_at t0) + 4 * (600 - (r.length + 1))
      have : wt 14 = 3 := rfl; omega
  · refine Kp_child C_t0 I_n_t0.1 I_n_t0.2.1 I_n_t0.2.2.1 (by omega) (by omega) (by decide) (by decide) (fun t6 C_t6 X_t6 a_t6 b_t6 d_t6 w_t6 u_t6 v_t6 j_t6 l_t6 => ?_)
    have e_t6 := C_t6.2.2.2.1
    have I_n_t6 := I_n_t0.chd X_t6 j_t6
    have f_n_t6 : Fz t6 n := j_t6.2.2.2.2.1
    have I_m_mdt0_t6 : Nq t6 (m_md t0) := Nq.chn j_t6 (by omega) I_n_t0 (by decide)
    have u_m_mdt0_t6 : Up t6 (m_md t0) := Or.inl j_t6.2.1
    refine Kp_push C_t6 (by omega) (fun t7 C_t7 X_t7 a_t7 b_t7 d_t7 w_t7 u_t7 v_t7 j_t7 l_t7 => ?_)
    have e_t7 := C_t7.2.2.2.1
    rw [a_t6] at a_t7
    rw [b_t6] at b_t7
    rw [d_t6] at d_t7
    rw [w_t6] at w_t7
    rw [u_t6] at u_t7
    rw [v_t6] at v_t7
    clear d_t6 w_t6 u_t6 v_t6 e_t6 a_t6 b_t6
    have I_n_t7 := I_n_t6.flat X_t7
    have f_n_t7 := f_n_t6.ex I_n_t6 (X_t7 0)
    have I_m_mdt0_t7 := I_m_mdt0_t6.flat X_t7
    have u_m_mdt0_t7 := u_m_mdt0_t6.ex I_m_mdt0_t6 (X_t7 0)
    refine Kp_push C_t7 (by omega) (fun t8 C_t8 X_t8 a_t8 b_t8 d_t8 w_t8 u_t8 v_t8 j_t8 l_t8 => ?_)
    have e_t8 := C_t8.2.2.2.1
    rw [a_t7] at a_t8
    rw [b_t7] at b_t8
    rw [d_t7] at d_t8
    rw [w_t7] at w_t8
    rw [u_t7] at u_t8
    rw [v_t7] at v_t8
    clear d_t7 w_t7 u_t7 v_t7 e_t7 a_t7 b_t7
    have I_n_t8 := I_n_t7.flat X_t8
    have f_n_t8 := f_n_t7.ex I_n_t7 (X_t8 0)
    have I_m_mdt0_t8 := I_m_mdt0_t7.flat X_t8
    have u_m_mdt0_t8 := u_m_mdt0_t7.ex I_m_mdt0_t7 (X_t8 0)
    refine Kp_push C_t8 (by omega) (fun t9 C_t9 X_t9 a_t9 b_t9 d_t9 w_t9 u_t9 v_t9 j_t9 l_t9 => ?_)
    have e_t9 := C_t9.2.2.2.1
    rw [a_t8] at a_t9
    rw [b_t8] at b_t9
    rw [d_t8] at d_t9
    rw [w_t8] at w_t9
    rw [u_t8] at u_t9
    rw [v_t8] at v_t9
    clear d_t8 w_t8 u_t8 v_t8 e_t8 a_t8 b_t8
    have I_n_t9 := I_n_t8.flat X_t9
    have f_n_t9 := f_n_t8.ex I_n_t8 (X_t9 0)
    have I_m_mdt0_t9 := I_m_mdt0_t8.flat X_t9
    have u_m_mdt0_t9 := u_m_mdt0_t8.ex I_m_mdt0_t8 (X_t9 0)
    refine Ok_ret (show Ok _ _ _ from ?_)
    refine Ok_ret (show Ok _ _ _ from ?_)
    refine Hv_mk (Kv_c (x := (17, m_md t0, 0)) rfl (Kv_c (x := (16, m_md t0, 0)) rfl (Kv_c (x := (15, n, 0)) rfl hK))) (C_t9.1.2.2.2.2.2.2 hTt) C_t9 hT (by omega) (by omega) (by omega) ?_ ?_ ?_ (by omega) ?_ ?_ ?_
    · exact ⟨(Io_n (by decide) (by decide) I_m_mdt0_t9.1 I_m_mdt0_t9.2.1 I_m_mdt0_t9.2.2.1 (fun q => absurd q (by decide)) (fun q => absurd q (by decide)) I_m_mdt0_t9.2.2.2), (Nd_0 (by decide) Mo_nil), ⟨(Io_n (by decide) (by decide) I_m_mdt0_t9.1 I_m_mdt0_t9.2.1 I_m_mdt0_t9.2.2.1 (fun q => absurd q (by decide)) (fun q => absurd q (by decide)) I_m_mdt0_t9.2.2.2), (Nd_0 (by decide) (Mo_cons (fun q => show m_md t0 ≤ m_md t0 from by omega) Mo_nil)), ⟨(Io_n (by decide) (by decide) I_n_t9.1 I_n_t9.2.1 I_n_t9.2.2.1 (fun q => absurd q (by decide)) (fun q => absurd q (by decide)) I_n_t9.2.2.2), (Nd_0 (by decide) (Mo_cons (fun q => show n ≤ m_md t0 from by omega) (Mo_cons (fun q => show n ≤ m_md t0 from by omega) Mo_nil))), Stk_step (N := n) (pop := (14, n, t)) (new := [(15, n, 0), (16, m_md t0, 0), (17, m_md t0, 0)]) F0 C_t9.1.to2 (fun (h : nk 14 = false) => absurd h (by decide)) (fun q _ h => h (14, n, t) rfl) (fun _ => rfl) (fun y hy hk => ⟨rfl, (Mo_cons (fun q => show n ≤ n from by omega) (Mo_cons (fun q => show n ≤ m_md t0 from by omega) (Mo_cons (fun q => show n ≤ m_md t0 from by omega) Mo_nil))) y hy hk⟩) (fun (h : 14 = 3 ∨ 14 = 18 ∨ 14 = 41) => absurd h (by decide)) (fun (h : 14 = 18) => absurd h (by decide)) (fun (h : 14 = 41 ∨ 14 = 42 ∨ 14 = 43) => absurd h (by decide)) r [] (fun y hy => absurd hy List.not_mem_nil) hS⟩⟩⟩
    · exact (Aj_up (x := (17, m_md t0, 0)) (Aj_up (x := (16, m_md t0, 0)) (Aj_sub (y := (15, n, 0)) hJ (Nat.le_of_ble_eq_true rfl)) (Or.inl (Nat.le_of_ble_eq_true rfl))) (Or.inr (Nat.le_of_ble_eq_true rfl)))
    · show m_dp t9 = (dlt 17 + (dlt 16 + (dlt 15 + sD r)))
      have : dlt 14 = 1 := rfl; have : dlt 15 = 1 := rfl; have : dlt 16 = 0 := rfl; have : dlt 17 = 0 := rfl; omega
    · show m_rw t9 = (rho 17 + (rho 16 + (rho 15 + sR r)))
      have : rho 14 = 0 := rfl; have : rho 15 = 0 := rfl; have : rho 16 = 0 := rfl; have : rho 17 = 0 := rfl; omega
    · show m_md t9 + (mu7 17 + (mu7 16 + (mu7 15 + sM r))) ≤ 3 * m_at t9 + 7 * (r.length + 1 + 1 + 1) + 10
      have : mu7 14 = 4 := rfl; have : mu7 15 = 4 := rfl; have : mu7 16 = 7 := rfl; have : mu7 17 = 5 := rfl; omega
    · show (wt 17 + (wt 16 + (wt 15 + sW r))) + 6 * (4096 - m_at t9) + 4 * (600 - (r.length + 1 + 1 + 1)) < (wt 14 + sW r) + 6 * (4096 - m_at t0) + 4 * (600 - (r.length + 1))
      have : wt 14 = 3 := rfl; have : wt 15 = 0 := rfl; have : wt 16 = 5 := rfl; have : wt 17 = 5 := rfl; omega

theorem S_15 {t0 : Mm} {n t : Nat} {r : List It} (H : Hp t0 (15, n, t) r) {E : Mm → Prop} : Ok (Qh (mz t0 ((15, n, t) :: r))) E (b_X6_step 15 n t t0) := by
  obtain ⟨hK, hT, hc, hw0, ha, hC, hS, hJ, hdp, hdl, hrw, hmd, htd, hln, hm16, hI, hD, hTt⟩ := Hp_out H
  have C_t0 := hC n
  have F0 := C_t0.2.1
  have I_n_t0 : Nq t0 n := ⟨(hI.2.1 rfl).1, (hI.2.1 rfl).2.1, (hI.2.1 rfl).2.2, hI.2.2.2 rfl⟩
  have m_n_t0 := I_n_t0.1
  have ht : t < 4096 := hI.1.1 (show 15 ≠ 42 by decide) (show 15 ≠ 48 by decide)
  have hdp : m_dp t0 = dlt 15 + sD r := hdp
  have hrw : m_rw t0 = rho 15 + sR r := hrw
  have hmd : m_md t0 + mu7 15 + sM r ≤ 3 * m_at t0 + 7 * r.length + 17 := hmd
  have hand : t &&& 1 ≤ 1 := Nat.and_le_right
  have h01 : (0 &&& 1 : Nat) = 0 := rfl
  have h02 : (1 : Nat) * 256 = 256 := rfl
  have hq1 : dlt 15 = 1 := rfl
  have hq2 : rho 15 = 0 := rfl
  have hq3 : mu7 15 = 4 := rfl
  unfold b_X6_step
  refine Ok_ifl (by decide) (by decide) (fun _ => ?_) (fun q => absurd (by decide) q)
  refine Ok_ifl (by decide) (by decide) (fun _ => ?_) (fun q => absurd (by decide) q)
  refine Ok_bnc ?_
  try unfold b_X6_value_
  refine Ok_ck (by decide) ?_
  refine Ok_ife (by decide) (by decide) (fun q => absurd q (by decide)) (fun _ => ?_)
  refine Ok_ife (by decide) (by decide) (fun q => absurd q (by decide)) (fun _ => ?_)
  refine Ok_ife (by decide) (by decide) (fun q => absurd q (by decide)) (fun _ => ?_)
  refine Ok_ife (by decide) (by decide) (fun q => absurd q (by decide)) (fun _ => ?_)
  refine Ok_ife (by decide) (by decide) (fun q => absurd q (by decide)) (fun _ => ?_)
  refine Ok_ife (by decide) (by decide) (fun q => absurd q (by decide)) (fun _ => ?_)
  refine Ok_ife (by decide) (by decide) (fun q => absurd q (by decide)) (fun _ => ?_)
  refine Ok_ife (by decide) (by decide) (fun q => absurd q (by decide)) (fun _ => ?_)
  refine Ok_ife (by decide) (by decide) (fun q => absurd q (by decide)) (fun _ => ?_)
  refine Ok_ife (by decide) (by decide) (fun q => absurd q (by decide)) (fun _ => ?_)
  refine Ok_ife (by decide) (by decide) (fun _ => ?_) (fun q => absurd (by decide) q)
  refine Ok_bnc ?_
  try unfold b_X6_elementsMore
  refine Kp_look C_t0 hT (by omega) ?_
  refine Ok_ife (Nat.lt_trans (lo_lt (C_t0.tk hT) _) (by decide)) (by decide) (fun q3 => ?_) (fun q3 => ?_)
  · refine Ok_bnc ?_
    try unfold b_X6_elements
    refine Kp_look C_t0 hT (by omega) ?_
    refine Ok_ife (Nat.lt_trans (lo_lt (C_t0.tk hT) _) (by decide)) (by decide) (fun q => ?_) (fun q => absurd q3 q)
    have z_t5 : m_at t0 < m_ct t0 := lo_ne (Nat.ne_of_gt (show 0 < lo t0 (m_at t0) from by omega))
    refine Kp_at C_t0 (fun t5 C_t5 X_t5 a_t5 b_t5 d_t5 w_t5 u_t5 v_t5 j_t5 l_t5 => ?_)
    have e_t5 := C_t5.2.2.2.1
    have I_n_t5 := I_n_t0.flat X_t5
    refine Ok_ck (show (m_dp t5) ≠ 0 from by omega) ?_
    refine Kp_dp C_t5 (fun t6 C_t6 X_t6 a_t6 b_t6 d_t6 w_t6 u_t6 v_t6 j_t6 l_t6 => ?_)
    have e_t6 := C_t6.2.2.2.1
    rw [a_t5] at a_t6
    rw [b_t5] at b_t6
    rw [d_t5] at d_t6
    rw [w_t5] at w_t6
    rw [u_t5] at u_t6
    rw [v_t5] at v_t6
    clear d_t5 w_t5 u_t5 v_t5 e_t5 a_t5 b_t5
    have I_n_t6 := I_n_t5.flat X_t6
    refine Ok_ret (show Ok _ _ _ from ?_)
    refine Ok_ret (show Ok _ _ _ from ?_)
    refine Ok_ret (show Ok _ _ _ from ?_)
    refine Hv_mk hK (C_t6.1.2.2.2.2.2.2 hTt) C_t6 hT (by omega) (by omega) (by omega) ?_ ?_ ?_ (by omega) ?_ ?_ ?_
    · exact Stk_step (N := n) (pop := (15, n, t)) (new := []) F0 C_t6.1.to2 (fun (h : nk 15 = false) => absurd h (by decide)) (fun q _ h => h (15, n, t) rfl) (fun _ => rfl) (fun y hy hk => ⟨rfl, Mo_nil (n := n) y hy hk⟩) (fun (h : 15 = 3 ∨ 15 = 18 ∨ 15 = 41) => absurd h (by decide)) (fun (h : 15 = 18) => absurd h (by decide)) (fun (h : 15 = 41 ∨ 15 = 42 ∨ 15 = 43) => absurd h (by decide)) r [] (fun y hy => absurd hy List.not_mem_nil) hS
    · exact Aj_tl hJ
    · show m_dp t6 = sD r
      have : dlt 15 = 1 := rfl; omega
    · show m_rw t6 = sR r
      have : rho 15 = 0 := rfl; omega
    · show m_md t6 + sM r ≤ 3 * m_at t6 + 7 * (r.length) + 10
      have : mu7 15 = 4 := rfl; omega
    · show sW r + 6 * (4096 - m_at t6) + 4 * (600 - (r.length)) < (wt 15 + sW r) + 6 * (4096 - m_at t0) + 4 * (600 - (r.length + 1))
      have : wt 15 = 0 := rfl; omega
  · refine Kp_pass C_t0 hT (by omega) (by decide) (by omega) (fun t7 C_t7 X_t7 a_t7 b_t7 d_t7 w_t7 u_t7 v_t7 j_t7 l_t7 => ?_)
    have e_t7 := C_t7.2.2.2.1
    rcases w_t7 with ⟨w_t7, y_t7⟩ | ⟨w_t7, wb_t7⟩
    · have z_t7 : m_at t0 < m_ct t0 := lo_ne (Nat.ne_of_gt (show 0 < lo t0 (m_at t0) from by omega))
      have I_n_t7 := I_n_t0.flat X_t7
      refine Kp_push C_t7 (by omega) (fun t8 C_t8 X_t8 a_t8 b_t8 d_t8 w_t8 u_t8 v_t8 j_t8 l_t8 => ?_)
      have e_t8 := C_t8.2.2.2.1
      rw [a_t7] at a_t8
      rw [b_t7] at b_t8
      rw [d_t7] at d_t8
      rw [w_t7] at w_t8
      rw [u_t7] at u_t8
      rw [v_t7] at v_t8
      clear d_t7 w_t7 u_t7 v_t7 e_t7 a_t7 b_t7
      have I_n_t8 := I_n_t7.flat X_t8
      refine Ok_ret (show Ok _ _ _ from ?_)
      refine Ok_ret (show Ok _ _ _ from ?_)
      refine Hv_mk (Kv_c (x := (14, n, 0)) rfl hK) (C_t8.1.2.2.2.2.2.2 hTt) C_t8 hT (by omega) (by omega) (by omega) ?_ ?_ ?_ (by omega) ?_ ?_ ?_
      · exact ⟨(Io_n (by decide) (by decide) I_n_t8.1 I_n_t8.2.1 I_n_t8.2.2.1 (fun q => absurd q (by decide)) (fun q => absurd q (by decide)) I_n_t8.2.2.2), (Nd_0 (by decide) Mo_nil), Stk_step (N := n) (pop := (15, n, t)) (new := [(14, n, 0)]) F0 C_t8.1.to2 (fun (h : nk 15 = false) => absurd h (by decide)) (fun q _ h => h (15, n, t) rfl) (fun _ => rfl) (fun y hy hk => ⟨rfl, (Mo_cons (fun q => show n ≤ n from by omega) Mo_nil) y hy hk⟩) (fun (h : 15 = 3 ∨ 15 = 18 ∨ 15 = 41) => absurd h (by decide)) (fun (h : 15 = 18) => absurd h (by decide)) (fun (h : 15 = 41 ∨ 15 = 42 ∨ 15 = 43) => absurd h (by decide)) r [] (fun y hy => absurd hy List.not_mem_nil) hS⟩
      · exact (Aj_sub (y := (14, n, 0)) hJ (Nat.le_of_ble_eq_true rfl))
      · show m_dp t8 = (dlt 14 + sD r)
        have : dlt 14 = 1 := rfl; have : dlt 15 = 1 := rfl; omega
      · show m_rw t8 = (rho 14 + sR r)
        have : rho 14 = 0 := rfl; have : rho 15 = 0 := rfl; omega
      · show m_md t8 + (mu7 14 + sM r) ≤ 3 * m_at t8 + 7 * (r.length + 1) + 10
        have : mu7 14 = 4 := rfl; have : mu7 15 = 4 := rfl; omega
      · show (wt 14 + sW r) + 6 * (4096 - m_at t8) + 4 * (600 - (r.length + 1)) < (wt 15 + sW r) + 6 * (4096 - m_at t0) + 4 * (600 - (r.length + 1))
        have : wt 14 = 3 := rfl; have : wt 15 = 0 := rfl; omega
    · have w_t7 := Nat.pos_of_ne_zero w_t7
      have I_n_t7 := I_n_t0.flat X_t7
      refine Kp_push C_t7 (by omega) (fun t9 C_t9 X_t9 a_t9 b_t9 d_t9 w_t9 u_t9 v_t9 j_t9 l_t9 => ?_)
      have e_t9 := C_t9.2.2.2.1
      have I_n_t9 := I_n_t7.flat X_t9
      refine Ok_ret (show Ok _ _ _ from ?_)
      refine Ok_ret (show Ok _ _ _ from ?_)
      exact Or.inl ⟨Nat.ne_of_gt (show 0 < m_wr t9 from by omega), by omega, by omega, C_t9.2.2.2.2.2, by omega⟩

theorem S_16 {t0 : Mm} {n t : Nat} {r : List It} (H : Hp t0 (16, n, t) r) {E : Mm → Prop} : Ok (Qh (mz t0 ((16, n, t) :: r))) E (b_X6_step 16 n t t0) := by
  obtain ⟨hK, hT, hc, hw0, ha, hC, hS, hJ, hdp, hdl, hrw, hmd, htd, hln, hm16, hI, hD, hTt⟩ := Hp_out H
  have C_t0 := hC n
  have F0 := C_t0.2.1
  have I_n_t0 : Nq t0 n := ⟨(hI.2.1 rfl).1, (hI.2.1 rfl).2.1, (hI.2.1 rfl).2.2, hI.2.2.2 rfl⟩
  have m_n_t0 := I_n_t0.1
  have ht : t < 4096 := hI.1.1 (show 16 ≠ 42 by decide) (show 16 ≠ 48 by decide)
  have hdp : m_dp t0 = dlt 16 + sD r := hdp
  have hrw : m_rw t0 = rho 16 + sR r := hrw
  have hmd : m_md t0 + mu7 16 + sM r ≤ 3 * m_at t0 + 7 * r.length + 17 := hmd
  have hand : t &&& 1 ≤ 1 := Nat.and_le_right
  have h01 : (0 &&& 1 : Nat) = 0 := rfl
  have h02 : (1 : Nat) * 256 = 256 := rfl
  have hq1 : dlt 16 = 0 := rfl
  have hq2 : rho 16 = 0 := rfl
  have hq3 : mu7 16 = 7 := rfl
  unfold b_X6_step
  refine Ok_ifl (by decide) (by decide) (fun _ => ?_) (fun q => absurd (by decide) q)
  refine Ok_ifl (by decide) (by decide) (fun _ => ?_) (fun q => absurd (by decide) q)
  refine Ok_bnc ?_
  try unfold b_X6_value_
  refine Ok_ck (by decide) ?_
  refine Ok_ife (by decide) (by decide) (fun q => absurd q (by decide)) (fun _ => ?_)
  refine Ok_ife (by decide) (by decide) (fun q => absurd q (by decide)) (fun _ => ?_)
  refine Ok_ife (by decide) (by decide) (fun q => absurd q (by decide)) (fun _ => ?_)
  refine Ok_ife (by decide) (by decide) (fun q => absurd q (by decide)) (fun _ => ?_)
  refine Ok_ife (by decide) (by decide) (fun q => absurd q (by decide)) (fun _ => ?_)
  refine Ok_ife (by decide) (by decide) (fun q => absurd q (by decide)) (fun _ => ?_)
  refine Ok_ife (by decide) (by decide) (fun q => absurd q (by decide)) (fun _ => ?_)
  refine Ok_ife (by decide) (by decide) (fun q => absurd q (by decide)) (fun _ => ?_)
  refine Ok_ife (by decide) (by decide) (fun q => absurd q (by decide)) (fun _ => ?_)
  refine Ok_ife (by decide) (by decide) (fun q => absurd q (by decide)) (fun _ => ?_)
  refine Ok_ife (by decide) (by decide) (fun q => absurd q (by decide)) (fun _ => ?_)
  refine Ok_ife (by decide) (by decide) (fun _ => ?_) (fun q => absurd (by decide) q)
  refine Ok_bnc ?_
  try unfold b_X6_keyed
  refine Kp_look C_t0 hT (by omega) ?_
  refine Ok_ife (Nat.lt_trans (lo_lt (C_t0.tk hT) _) (by decide)) (by decide) (fun q3 => ?_) (fun q3 => ?_)
  · have z_t4 : m_at t0 < m_ct t0 := lo_ne (Nat.ne_of_gt (show 0 < lo t0 (m_at t0) from by omega))
    refine Kp_at C_t0 (fun t4 C_t4 X_t4 a_t4 b_t4 d_t4 w_t4 u_t4 v_t4 j_t4 l_t4 => ?_)
    have e_t4 := C_t4.2.2.2.1
    have I_n_t4 := I_n_t0.flat X_t4
    refine Kp_push C_t4 (by omega) (fun t5 C_t5 X_t5 a_t5 b_t5 d_t5 w_t5 u_t5 v_t5 j_t5 l_t5 => ?_)
    have e_t5 := C_t5.2.2.2.1
    rw [a_t4] at a_t5
    rw [b_t4] at b_t5
    rw [d_t4] at d_t5
    rw [w_t4] at w_t5
    rw [u_t4] at u_t5
    rw [v_t4] at v_t5
    clear d_t4 w_t4 u_t4 v_t4 e_t4 a_t4 b_t4
    have I_n_t5 := I_n_t4.flat X_t5
    refine Ok_ret (show Ok _ _ _ from ?_)
    refine Ok_ret (show Ok _ _ _ from ?_)
    refine Hv_mk (Kv_c (x := (17, n, 0)) rfl hK) (C_t5.1.2.2.2.2.2.2 hTt) C_t5 hT (by omega) (by omega) (by omega) ?_ ?_ ?_ (by omega) ?_ ?_ ?_
    · exact ⟨(Io_n (by decide) (by decide) I_n_t5.1 I_n_t5.2.1 I_n_t5.2.2.1 (fun q => absurd q (by decide)) (fun q => absurd q (by decide)) I_n_t5.2.2.2), (Nd_0 (by decide) Mo_nil), Stk_step (N := n) (pop := (16, n, t)) (new := [(17, n, 0)]) F0 C_t5.1.to2 (fun (h : nk 16 = false) => absurd h (by decide)) (fun q _ h => h (16, n, t) rfl) (fun _ => rfl) (fun y hy hk => ⟨rfl, (Mo_cons (fun q => show n ≤ n from by omega) Mo_nil) y hy hk⟩) (fun (h : 16 = 3 ∨ 16 = 18 ∨ 16 = 41) => absurd h (by decide)) (fun (h : 16 = 18) => absurd h (by decide)) (fun (h : 16 = 41 ∨ 16 = 42 ∨ 16 = 43) => absurd h (by decide)) r [] (fun y hy => absurd hy List.not_mem_nil) hS⟩
    · exact (Aj_sub (y := (17, n, 0)) hJ (Nat.le_of_ble_eq_true rfl))
    · show m_dp t5 = (dlt 17 + sD r)
      have : dlt 16 = 0 := rfl; have : dlt 17 = 0 := rfl; omega
    · show m_rw t5 = (rho 17 + sR r)
      have : rho 16 = 0 := rfl; have : rho 17 = 0 := rfl; omega
    · show m_md t5 + (mu7 17 + sM r) ≤ 3 * m_at t5 + 7 * (r.length + 1) + 10
      have : mu7 16 = 7 := rfl; have : mu7 17 = 5 := rfl; omega
    · show (wt 17 + sW r) + 6 * (4096 - m_at t5) + 4 * (600 - (r.length + 1)) < (wt 16 + sW r) + 6 * (4096 - m_at t0) + 4 * (600 - (r.length + 1))
      have : wt 16 = 5 := rfl; have : wt 17 = 5 := rfl; omega
  · refine Ok_ret (show Ok _ _ _ from ?_)
    refine Ok_ret (show Ok _ _ _ from ?_)
    refine Hv_mk hK (C_t0.1.2.2.2.2.2.2 hTt) C_t0 hT (by omega) (by omega) (by omega) ?_ ?_ ?_ (by omega) ?_ ?_ ?_
    · exact Stk_step (N := n) (pop := (16, n, t)) (new := []) F0 C_t0.1.to2 (fun (h : nk 16 = false) => absurd h (by decide)) (fun q _ h => h (16, n, t) rfl) (fun _ => rfl) (fun y hy hk => ⟨rfl, Mo_nil (n := n) y hy hk⟩) (fun (h : 16 = 3 ∨ 16 = 18 ∨ 16 = 41) => absurd h (by decide)) (fun (h : 16 = 18) => absurd h (by decide)) (fun (h : 16 = 41 ∨ 16 = 42 ∨ 16 = 43) => absurd h (by decide)) r [] (fun y hy => absurd hy List.not_mem_nil) hS
    · exact Aj_tl hJ
    · show m_dp t0 = sD r
      have : dlt 16 = 0 := rfl; omega
    · show m_rw t0 = sR r
      have : rho 16 = 0 := rfl; omega
    · show m_md t0 + sM r ≤ 3 * m_at t0 + 7 * (r.length) + 10
      have : mu7 16 = 7 := rfl; omega
    · show sW r + 6 * (4096 - m_at t0) + 4 * (600 - (r.length)) < (wt 16 + sW r) + 6 * (4096 - m_at t0) + 4 * (600 - (r.length + 1))
      have : wt 16 = 5 := rfl; omega

theorem S_17 {t0 : Mm} {n t : Nat} {r : List It} (H : Hp t0 (17, n, t) r) {E : Mm → Prop} : Ok (Qh (mz t0 ((17, n, t) :: r))) E (b_X6_step 17 n t t0) := by
  obtain ⟨hK, hT, hc, hw0, ha, hC, hS, hJ, hdp, hdl, hrw, hmd, htd, hln, hm16, hI, hD, hTt⟩ := Hp_out H
  have C_t0 := hC n
  have F0 := C_t0.2.1
  have I_n_t0 : Nq t0 n := ⟨(hI.2.1 rfl).1, (hI.2.1 rfl).2.1, (hI.2.1 rfl).2.2, hI.2.2.2 rfl⟩
  have m_n_t0 := I_n_t0.1
  have ht : t < 4096 := hI.1.1 (show 17 ≠ 42 by decide) (show 17 ≠ 48 by decide)
  have hdp : m_dp t0 = dlt 17 + sD r := hdp
  have hrw : m_rw t0 = rho 17 + sR r := hrw
  have hmd : m_md t0 + mu7 17 + sM r ≤ 3 * m_at t0 + 7 * r.length + 17 := hmd
  have hand : t &&& 1 ≤ 1 := Nat.and_le_right
  have h01 : (0 &&& 1 : Nat) = 0 := rfl
  have h02 : (1 : Nat) * 256 = 256 := rfl
  have hq1 : dlt 17 = 0 := rfl
  have hq2 : rho 17 = 0 := rfl
  have hq3 : mu7 17 = 5 := rfl
  unfold b_X6_step
  refine Ok_ifl (by decide) (by decide) (fun _ => ?_) (fun q => absurd (by decide) q)
  refine Ok_ifl (by decide) (by decide) (fun _ => ?_) (fun q => absurd (by decide) q)
  refine Ok_bnc ?_
  try unfold b_X6_value_
  refine Ok_ck (by decide) ?_
  refine Ok_ife (by decide) (by decide) (fun q => absurd q (by decide)) (fun _ => ?_)
  refine Ok_ife (by decide) (by decide) (fun q => absurd q (by decide)) (fun _ => ?_)
  refine Ok_ife (by decide) (by decide) (fun q => absurd q (by decide)) (fun _ => ?_)
  refine Ok_ife (by decide) (by decide) (fun q => absurd q (by decide)) (fun _ => ?_)
  refine Ok_ife (by decide) (by decide) (fun q => absurd q (by decide)) (fun _ => ?_)
  refine Ok_ife (by decide) (by decide) (fun q => absurd q (by decide)) (fun _ => ?_)
  refine Ok_ife (by decide) (by decide) (fun q => absurd q (by decide)) (fun _ => ?_)
  refine Ok_ife (by decide) (by decide) (fun q => absurd q (by decide)) (fun _ => ?_)
  refine Ok_ife (by decide) (by decide) (fun q => absurd q (by decide)) (fun _ => ?_)
  refine Ok_ife (by decide) (by decide) (fun q => absurd q (by decide)) (fun _ => ?_)
  refine Ok_ife (by decide) (by decide) (fun q => absurd q (by decide)) (fun _ => ?_)
  refine Ok_ife (by decide) (by decide) (fun q => absurd q (by decide)) (fun _ => ?_)
  refine Ok_bnc ?_
  try unfold b_X6_value
  refine Kp_look C_t0 hT (by omega) ?_
  refine Ok_ife (Nat.lt_trans (lo_lt (C_t0.tk hT) _) (by decide)) (by decide) (fun q3 => ?_) (fun q3 => ?_)
  · refine Kp_child C_t0 I_n_t0.1 I_n_t0.2.1 I_n_t0.2.2.1 (by omega) (by omega) (by decide) (by decide) (fun t4 C_t4 X_t4 a_t4 b_t4 d_t4 w_t4 u_t4 v_t4 j_t4 l_t4 => ?_)
    have e_t4 := C_t4.2.2.2.1
    have I_n_t4 := I_n_t0.chd X_t4 j_t4
    have f_n_t4 : Fz t4 n := j_t4.2.2.2.2.1
    have I_m_mdt0_t4 : Nq t4 (m_md t0) := Nq.chn j_t4 (by omega) I_n_t0 (by decide)
    have u_m_mdt0_t4 : Up t4 (m_md t0) := Or.inl j_t4.2.1
    refine Kp_more C_t4 (by omega) (by omega) (fun t5 C_t5 X_t5 a_t5 b_t5 d_t5 w_t5 u_t5 v_t5 j_t5 l_t5 => ?_)
    have e_t5 := C_t5.2.2.2.1
    rcases w_t5 with ⟨w_t5, y_t5⟩ | ⟨w_t5, wb_t5⟩
    · rw [a_t4] at a_t5
      rw [b_t4] at b_t5
      rw [d_t4] at d_t5
      rw [w_t4] at w_t5
      rw [u_t4] at u_t5
      rw [v_t4] at v_t5
      rw [d_t5] at y_t5
      clear d_t4 w_t4 u_t4 v_t4 e_t4 a_t4 b_t4
      have I_n_t5 := I_n_t4.flat X_t5
      have f_n_t5 := f_n_t4.ex I_n_t4 (X_t5 0)
      have I_m_mdt0_t5 := I_m_mdt0_t4.flat X_t5
      have u_m_mdt0_t5 := u_m_mdt0_t4.ex I_m_mdt0_t4 (X_t5 0)
      have z_t6 : m_at t5 < m_ct t5 := lo_ne (Nat.ne_of_gt (show 0 < lo t5 (m_at t5) from by omega))
      refine Kp_at C_t5 (fun t6 C_t6 X_t6 a_t6 b_t6 d_t6 w_t6 u_t6 v_t6 j_t6 l_t6 => ?_)
      have e_t6 := C_t6.2.2.2.1
      rw [a_t5] at a_t6
      rw [b_t5] at b_t6
      rw [d_t5] at d_t6
      rw [w_t5] at w_t6
      rw [u_t5] at u_t6
      rw [v_t5] at v_t6
      rw [a_t5, e_t5] at z_t6
      clear d_t5 w_t5 u_t5 v_t5 e_t5 a_t5 b_t5
      have I_n_t6 := I_n_t5.flat X_t6
      have f_n_t6 := f_n_t5.ex I_n_t5 (X_t6 0)
      have I_m_mdt0_t6 := I_m_mdt0_t5.flat X_t6
      have u_m_mdt0_t6 := u_m_mdt0_t5.ex I_m_mdt0_t5 (X_t6 0)
      refine Kp_push C_t6 (by omega) (fun t7 C_t7 X_t7 a_t7 b_t7 d_t7 w_t7 u_t7 v_t7 j_t7 l_t7 => ?_)
      have e_t7 := C_t7.2.2.2.1
      rw [a_t6] at a_t7
      rw [b_t6] at b_t7
      rw [d_t6] at d_t7
      rw [w_t6] at w_t7
      rw [u_t6] at u_t7
      rw [v_t6] at v_t7
      clear d_t6 w_t6 u_t6 v_t6 e_t6 a_t6 b_t6
      have I_n_t7 := I_n_t6.flat X_t7
      have f_n_t7 := f_n_t6.ex I_n_t6 (X_t7 0)
      have I_m_mdt0_t7 := I_m_mdt0_t6.flat X_t7
      have u_m_mdt0_t7 := u_m_mdt0_t6.ex I_m_mdt0_t6 (X_t7 0)
      refine Ok_ret (show Ok _ _ _ from ?_)
      refine Ok_ret (show Ok _ _ _ from ?_)
      refine Hv_mk (Kv_c (x := (14, m_md t0, 0)) rfl hK) (C_t7.1.2.2.2.2.2.2 hTt) C_t7 hT (by omega) (by omega) (by omega) ?_ ?_ ?_ (by omega) ?_ ?_ ?_
      · exact ⟨(Io_n (by decide) (by decide) I_m_mdt0_t7.1 I_m_mdt0_t7.2.1 I_m_mdt0_t7.2.2.1 (fun q => absurd q (by decide)) (fun q => absurd q (by decide)) I_m_mdt0_t7.2.2.2), (Nd_0 (by decide) Mo_nil), Stk_step (N := n) (pop := (17, n, t)) (new := [(14, m_md t0, 0)]) F0 C_t7.1.to2 (fun (h : nk 17 = false) => absurd h (by decide)) (fun q _ h => h (17, n, t) rfl) (fun _ => rfl) (fun y hy hk => ⟨rfl, (Mo_cons (fun q => show n ≤ m_md t0 from by omega) Mo_nil) y hy hk⟩) (fun (h : 17 = 3 ∨ 17 = 18 ∨ 17 = 41) => absurd h (by decide)) (fun (h : 17 = 18) => absurd h (by decide)) (fun (h : 17 = 41 ∨ 17 = 42 ∨ 17 = 43) => absurd h (by decide)) r [] (fun y hy => absurd hy List.not_mem_nil) hS⟩
      · exact (Aj_sub (y := (14, m_md t0, 0)) hJ (Nat.le_of_ble_eq_true rfl))
      · show m_dp t7 = (dlt 14 + sD r)
        have : dlt 14 = 1 := rfl; have : dlt 17 = 0 := rfl; omega
      · show m_rw t7 = (rho 14 + sR r)
        have : rho 14 = 0 := rfl; have : rho 17 = 0 := rfl; omega
      · show m_md t7 + (mu7 14 + sM r) ≤ 3 * m_at t7 + 7 * (r.length + 1) + 10
        have : mu7 14 = 4 := rfl; have : mu7 17 = 5 := rfl; omega
      · show (wt 14 + sW r) + 6 * (4096 - m_at t7) + 4 * (600 - (r.length + 1)) < (wt 17 + sW r) + 6 * (4096 - m_at t0) + 4 * (600 - (r.length + 1))
        have : wt 14 = 3 := rfl; have : wt 17 = 5 := rfl; omega
    · have w_t5 := Nat.pos_of_ne_zero w_t5
      have I_n_t5 := I_n_t4.flat X_t5
      have f_n_t5 := f_n_t4.ex I_n_t4 (X_t5 0)
      have I_m_mdt0_t5 := I_m_mdt0_t4.flat X_t5
      have u_m_mdt0_t5 := u_m_mdt0_t4.ex I_m_mdt0_t4 (X_t5 0)
      refine Kp_at C_t5 (fun t8 C_t8 X_t8 a_t8 b_t8 d_t8 w_t8 u_t8 v_t8 j_t8 l_t8 => ?_)
      have e_t8 := C_t8.2.2.2.1
      have I_n_t8 := I_n_t5.flat X_t8
      have f_n_t8 := f_n_t5.ex I_n_t5 (X_t8 0)
      have I_m_mdt0_t8 := I_m_mdt0_t5.flat X_t8
      have u_m_mdt0_t8 := u_m_mdt0_t5.ex I_m_mdt0_t5 (X_t8 0)
      refine Kp_push C_t8 (by omega) (fun t9 C_t9 X_t9 a_t9 b_t9 d_t9 w_t9 u_t9 v_t9 j_t9 l_t9 => ?_)
      have e_t9 := C_t9.2.2.2.1
      have I_n_t9 := I_n_t8.flat X_t9
      have f_n_t9 := f_n_t8.ex I_n_t8 (X_t9 0)
      have I_m_mdt0_t9 := I_m_mdt0_t8.flat X_t9
      have u_m_mdt0_t9 := u_m_mdt0_t8.ex I_m_mdt0_t8 (X_t9 0)
      refine Ok_ret (show Ok _ _ _ from ?_)
      refine Ok_ret (show Ok _ _ _ from ?_)
      exact Or.inl ⟨Nat.ne_of_gt (show 0 < m_wr t9 from by omega), by omega, by omega, C_t9.2.2.2.2.2, by omega⟩
  · refine Ok_bnc ?_
    try unfold b_X6_expression
    refine Kp_push C_t0 (by omega) (fun t11 C_t11 X_t11 a_t11 b_t11 d_t11 w_t11 u_t11 v_t11 j_t11 l_t11 => ?_)
    have e_t11 := C_t11.2.2.2.1
    have I_n_t11 := I_n_t0.flat X_t11
    refine Kp_push C_t11 (by omega) (fun t12 C_t12 X_t12 a_t12 b_t12 d_t12 w_t12 u_t12 v_t12 j_t12 l_t12 => ?_)
    have e_t12 := C_t12.2.2.2.1
    rw [a_t11] at a_t12
    rw [b_t11] at b_t12
    rw [d_t11] at d_t12
    rw [w_t11] at w_t12
    rw [u_t11] at u_t12
    rw [v_t11] at v_t12
    clear d_t11 w_t11 u_t11 v_t11 e_t11 a_t11 b_t11
    have I_n_t12 := I_n_t11.flat X_t12
    refine Ok_ret (show Ok _ _ _ from ?_)
    refine Ok_ret (show Ok _ _ _ from ?_)
    refine Ok_ret (show Ok _ _ _ from ?_)
    refine Hv_mk (Kv_c (x := (3, n, 0)) rfl (Kv_c (x := (2, n, 0 ||| (1 * 256))) rfl hK)) (C_t12.1.2.2.2.2.2.2 hTt) C_t12 hT (by omega) (by omega) (by omega) ?_ ?_ ?_ (by omega) ?_ ?_ ?_
    · exact ⟨(Io_n (by decide) (by decide) I_n_t12.1 I_n_t12.2.1 I_n_t12.2.2.1 (fun q => absurd q (by decide)) (fun q => absurd q (by decide)) I_n_t12.2.2.2), (Nd_0 (by decide) Mo_nil), ⟨(Io_2 (by have := or_256 (b := 1) (show 0 < 256 from by omega); omega) (by have := or_256 (b := 1) (show 0 < 256 from by omega); omega) (by have := or_256 (b := 1) (show 0 < 256 from by omega); omega) I_n_t12.1 I_n_t12.2.1 I_n_t12.2.2.1 I_n_t12.2.2.2), (Nd_A (by decide) (Mo_cons (fun q => show n ≤ n from by omega) Mo_nil) (Or.inr ⟨(3, n, 0), List.mem_cons_self, rfl, Or.inl rfl⟩)), Stk_step (N := n) (pop := (17, n, t)) (new := [(2, n, 0 ||| (1 * 256)), (3, n, 0)]) F0 C_t12.1.to2 (fun (h : nk 17 = false) => absurd h (by decide)) (fun q _ h => h (17, n, t) rfl) (fun _ => rfl) (fun y hy hk => ⟨rfl, (Mo_cons (fun q => show n ≤ n from by omega) (Mo_cons (fun q => show n ≤ n from by omega) Mo_nil)) y hy hk⟩) (fun (h : 17 = 3 ∨ 17 = 18 ∨ 17 = 41) => absurd h (by decide)) (fun (h : 17 = 18) => absurd h (by decide)) (fun (h : 17 = 41 ∨ 17 = 42 ∨ 17 = 43) => absurd h (by decide)) r [] (fun y hy => absurd hy List.not_mem_nil) hS⟩⟩
    · exact (Aj_up (x := (3, n, 0)) (Aj_sub (y := (2, n, 0 ||| (1 * 256))) hJ (show 9 - (0 ||| (1 * 256)) / 256 ≤ 8 from by have := or_256 (b := 1) (show 0 < 256 from by omega); omega)) (Or.inr (show 2 < 9 - (0 ||| (1 * 256)) / 256 from by have := or_256 (b := 1) (show 0 < 256 from by omega); omega)))
    · show m_dp t12 = (dlt 3 + (dlt 2 + sD r))
      have : dlt 17 = 0 := rfl; have : dlt 2 = 0 := rfl; have : dlt 3 = 0 := rfl; omega
    · show m_rw t12 = (rho 3 + (rho 2 + sR r))
      have : rho 17 = 0 := rfl; have : rho 2 = 0 := rfl; have : rho 3 = 0 := rfl; omega
    · show m_md t12 + (mu7 3 + (mu7 2 + sM r)) ≤ 3 * m_at t12 + 7 * (r.length + 1 + 1) + 10
      have : mu7 17 = 5 := rfl; have : mu7 2 = 7 := rfl; have : mu7 3 = 5 := rfl; omega
    · show (wt 3 + (wt 2 + sW r)) + 6 * (4096 - m_at t12) + 4 * (600 - (r.length + 1 + 1)) < (wt 17 + sW r) + 6 * (4096 - m_at t0) + 4 * (600 - (r.length + 1))
      have : wt 17 = 5 := rfl; have : wt 2 = 5 := rfl; have : wt 3 = 3 := rfl; omega

theorem S_18_t1 {t0 : Mm} {n t : Nat} {r : List It} (H : Hp t0 (18, n, t) r) {E : Mm → Prop} (hk0 : lo t0 (m_at t0) = 1) : Ok (Qh (mz t0 ((18, n, t) :: r))) E (b_X6_step 18 n t t0) := by
  obtain ⟨hK, hT, hc, hw0, ha, hC, hS, hJ, hdp, hdl, hrw, hmd, htd, hln, hm16, hI, hD, hTt⟩ := Hp_out H
  have C_t0 := hC n
  have F0 := C_t0.2.1
  have I_n_t0 : Nq t0 n := ⟨(hI.2.1 rfl).1, (hI.2.1 rfl).2.1, (hI.2.1 rfl).2.2, hI.2.2.2 rfl⟩
  have m_n_t0 := I_n_t0.1
  have ht : t < 4096 := hI.1.1 (show 18 ≠ 42 by decide) (show 18 ≠ 48 by decide)
  have hdp : m_dp t0 = dlt 18 + sD r := hdp
  have hrw : m_rw t0 = rho 18 + sR r := hrw
  have hmd : m_md t0 + mu7 18 + sM r ≤ 3 * m_at t0 + 7 * r.length + 17 := hmd
  have hand : t &&& 1 ≤ 1 := Nat.and_le_right
  have h01 : (0 &&& 1 : Nat) = 0 := rfl
  have h02 : (1 : Nat) * 256 = 256 := rfl
  have hq1 : dlt 18 = 0 := rfl
  have hq2 : rho 18 = 0 := rfl
  have hq3 : mu7 18 = 5 := rfl
  unfold b_X6_step
  refine Ok_ifl (by decide) (by decide) (fun _ => ?_) (fun q => absurd (by decide) q)
  refine Ok_ifl (by decide) (by decide) (fun q => absurd q (by decide)) (fun _ => ?_)
  refine Ok_ifl (by decide) (by decide) (fun _ => ?_) (fun q => absurd (by decide) q)
  refine Ok_bnc ?_
  try unfold b_X6_typing
  refine Ok_ck (by decide) ?_
  refine Ok_ife (by decide) (by decide) (fun _ => ?_) (fun q => absurd (by decide) q)
  refine Ok_bnc ?_
  try unfold b_X6_type
  refine Kp_look C_t0 hT (by omega) ?_
  refine Ok_ife (Nat.lt_trans (lo_lt (C_t0.tk hT) _) (by decide)) (by decide) (fun q => ?_) (fun q => absurd hk0 q)
  refine Ok_bnc ?_
  try unfold b_X6_name
  refine Kp_look C_t0 hT (by omega) ?_
  refine Ok_ife (Nat.lt_trans (lo_lt (C_t0.tk hT) _) (by decide)) (by decide) (fun q => ?_) (fun q => absurd hk0 q)
  refine Kp_child C_t0 I_n_t0.1 I_n_t0.2.1 I_n_t0.2.2.1 (by omega) (by omega) (by decide) (by decide) (fun t4 C_t4 X_t4 a_t4 b_t4 d_t4 w_t4 u_t4 v_t4 j_t4 l_t4 => ?_)
  have e_t4 := C_t4.2.2.2.1
  have I_n_t4 := I_n_t0.chd X_t4 j_t4
  have f_n_t4 : Fz t4 n := j_t4.2.2.2.2.1
  have I_m_mdt0_t4 : Nq t4 (m_md t0) := Nq.chn j_t4 (by omega) I_n_t0 (by decide)
  have u_m_mdt0_t4 : Up t4 (m_md t0) := Or.inl j_t4.2.1
  have la_n_t4 : m_la t4 n = (m_md t0) + 1 := j_t4.2.2.2.2.2.1
  have wl_n_t4 : m_wh t4 (m_md t0) = 5 := j_t4.1
  have z_t5 : m_at t4 < m_ct t4 := lo_ne (Nat.ne_of_gt (show 0 < lo t4 (m_at t4) from by omega))
  refine Kp_at C_t4 (fun t5 C_t5 X_t5 a_t5 b_t5 d_t5 w_t5 u_t5 v_t5 j_t5 l_t5 => ?_)
  have e_t5 := C_t5.2.2.2.1
  rw [a_t4] at a_t5
  rw [b_t4] at b_t5
  rw [d_t4] at d_t5
  rw [w_t4] at w_t5
  rw [u_t4] at u_t5
  rw [v_t4] at v_t5
  rw [a_t4, e_t4] at z_t5
  clear d_t4 w_t4 u_t4 v_t4 e_t4 a_t4 b_t4
  have I_n_t5 := I_n_t4.flat X_t5
  have f_n_t5 := f_n_t4.ex I_n_t4 (X_t5 0)
  have I_m_mdt0_t5 := I_m_mdt0_t4.flat X_t5
  have u_m_mdt0_t5 := u_m_mdt0_t4.ex I_m_mdt0_t4 (X_t5 0)
  have la_n_t5 : m_la t5 n = (m_md t0) + 1 := by rw [j_t5.2.2.1]; exact la_n_t4
  have wl_n_t5 : m_wh t5 ((m_md t0)) = 5 := by rw [j_t5.1]; exact wl_n_t4
  clear la_n_t4 wl_n_t4
  refine Ok_ret (show Ok _ _ _ from ?_)
  refine Ok_ret (show Ok _ _ _ from ?_)
  refine Ok_ret (show Ok _ _ _ from ?_)
  refine Hv_mk hK (C_t5.1.2.2.2.2.2.2 hTt) C_t5 hT (by omega) (by omega) (by omega) ?_ ?_ ?_ (by omega) ?_ ?_ ?_
  · exact Stk_step (N := n) (pop := (18, n, t)) (new := []) F0 C_t5.1.to2 (fun (h : nk 18 = false) => absurd h (by decide)) (fun q _ h => h (18, n, t) rfl) (fun _ => rfl) (fun y hy hk => ⟨rfl, Mo_nil (n := n) y hy hk⟩) (fun _ => Or.inl f_n_t5) (fun _ => (Or.inr (N5_mk f_n_t5 (Ab_none rfl) la_n_t5 wl_n_t5 (Or.inl (by decide))))) (fun (h : 18 = 41 ∨ 18 = 42 ∨ 18 = 43) => absurd h (by decide)) r [] (fun y hy => absurd hy List.not_mem_nil) hS
  · exact Aj_tl hJ
  · show m_dp t5 = sD r
    have : dlt 18 = 0 := rfl; omega
  · show m_rw t5 = sR r
    have : rho 18 = 0 := rfl; omega
  · show m_md t5 + sM r ≤ 3 * m_at t5 + 7 * (r.length) + 10
    have : mu7 18 = 5 := rfl; omega
  · show sW r + 6 * (4096 - m_at t5) + 4 * (600 - (r.length)) < (wt 18 + sW r) + 6 * (4096 - m_at t0) + 4 * (600 - (r.length + 1))
    have : wt 18 = 0 := rfl; omega

