/-! The steps of the reference, one by one. -/
theorem S_30 {t0 : Mm} {n t : Nat} {r : List It} (H : Hp t0 (30, n, t) r) {E : Mm → Prop} : Ok (Qh (mz t0 ((30, n, t) :: r))) E (b_X6_step 30 n t t0) := by
  obtain ⟨hK, hT, hc, hw0, ha, hC, hS, hJ, hdp, hdl, hrw, hmd, htd, hln, hm16, hI, hD, hTt⟩ := Hp_out H
  have C_t0 := hC n
  have F0 := C_t0.2.1
  have I_n_t0 : Nq t0 n := ⟨(hI.2.1 rfl).1, (hI.2.1 rfl).2.1, (hI.2.1 rfl).2.2, hI.2.2.2 rfl⟩
  have m_n_t0 := I_n_t0.1
  have ht : t < 4096 := hI.1.1 (show 30 ≠ 42 by decide) (show 30 ≠ 48 by decide)
  have hdp : m_dp t0 = dlt 30 + sD r := hdp
  have hrw : m_rw t0 = rho 30 + sR r := hrw
  have hmd : m_md t0 + mu7 30 + sM r ≤ 3 * m_at t0 + 7 * r.length + 17 := hmd
  have hand : t &&& 1 ≤ 1 := Nat.and_le_right
  have h01 : (0 &&& 1 : Nat) = 0 := rfl
  have h02 : (1 : Nat) * 256 = 256 := rfl
  have hq1 : dlt 30 = 0 := rfl
  have hq2 : rho 30 = 0 := rfl
  have hq3 : mu7 30 = 7 := rfl
  unfold b_X6_step
  refine Ok_ifl (by decide) (by decide) (fun _ => ?_) (fun q => absurd (by decide) q)
  refine Ok_ifl (by decide) (by decide) (fun q => absurd q (by decide)) (fun _ => ?_)
  refine Ok_ifl (by decide) (by decide) (fun q => absurd q (by decide)) (fun _ => ?_)
  refine Ok_ifl (by decide) (by decide) (fun _ => ?_) (fun q => absurd (by decide) q)
  refine Ok_bnc ?_
  try unfold b_X6_declaring
  refine Ok_ck (by decide) ?_
  refine Ok_ife (by decide) (by decide) (fun q => absurd q (by decide)) (fun _ => ?_)
  refine Ok_ife (by decide) (by decide) (fun _ => ?_) (fun q => absurd (by decide) q)
  refine Ok_bnc ?_
  try unfold b_X6_namesMore
  refine Kp_look C_t0 hT (by omega) ?_
  refine Ok_ife (Nat.lt_trans (lo_lt (C_t0.tk hT) _) (by decide)) (by decide) (fun q3 => ?_) (fun q3 => ?_)
  · have z_t4 : m_at t0 < m_ct t0 := lo_ne (Nat.ne_of_gt (show 0 < lo t0 (m_at t0) from by omega))
    refine Kp_at C_t0 (fun t4 C_t4 X_t4 a_t4 b_t4 d_t4 w_t4 u_t4 v_t4 j_t4 l_t4 => ?_)
    have e_t4 := C_t4.2.2.2.1
    have I_n_t4 := I_n_t0.flat X_t4
    refine Ok_bnc ?_
    try unfold b_X6_name
    refine Kp_look C_t4 hT (by omega) ?_
    refine Ok_ife (Nat.lt_trans (lo_lt (C_t4.tk hT) _) (by decide)) (by decide) (fun q6 => ?_) (fun q6 => ?_)
    · refine Kp_child C_t4 I_n_t4.1 I_n_t4.2.1 I_n_t4.2.2.1 (by omega) (by omega) (by decide) (by decide) (fun t7 C_t7 X_t7 a_t7 b_t7 d_t7 w_t7 u_t7 v_t7 j_t7 l_t7 => ?_)
      have e_t7 := C_t7.2.2.2.1
      rw [a_t4] at a_t7
      rw [b_t4] at b_t7
      rw [d_t4] at d_t7
      rw [w_t4] at w_t7
      rw [u_t4] at u_t7
      rw [v_t4] at v_t7
      clear d_t4 w_t4 u_t4 v_t4 e_t4 a_t4
      have I_n_t7 := I_n_t4.chd X_t7 j_t7
      have f_n_t7 : Fz t7 n := j_t7.2.2.2.2.1
      have I_m_mdt4_t7 : Nq t7 (m_md t4) := Nq.chn j_t7 (by omega) I_n_t4 (by decide)
      have u_m_mdt4_t7 : Up t7 (m_md t4) := Or.inl j_t7.2.1
      have z_t8 : m_at t7 < m_ct t7 := lo_ne (Nat.ne_of_gt (show 0 < lo t7 (m_at t7) from by omega))
      refine Kp_at C_t7 (fun t8 C_t8 X_t8 a_t8 b_t8 d_t8 w_t8 u_t8 v_t8 j_t8 l_t8 => ?_)
      have e_t8 := C_t8.2.2.2.1
      rw [a_t7] at a_t8
      rw [b_t7] at b_t8
      rw [d_t7] at d_t8
      rw [w_t7] at w_t8
      rw [u_t7] at u_t8
      rw [v_t7] at v_t8
      rw [a_t7, e_t7] at z_t8
      clear z_t4
      clear d_t7 w_t7 u_t7 v_t7 e_t7 a_t7 b_t7
      have I_n_t8 := I_n_t7.flat X_t8
      have f_n_t8 := f_n_t7.ex I_n_t7 (X_t8 0)
      have I_m_mdt4_t8 := I_m_mdt4_t7.flat X_t8
      have u_m_mdt4_t8 := u_m_mdt4_t7.ex I_m_mdt4_t7 (X_t8 0)
      refine Ok_ret (show Ok _ _ _ from ?_)
      refine Kp_push C_t8 (by omega) (fun t9 C_t9 X_t9 a_t9 b_t9 d_t9 w_t9 u_t9 v_t9 j_t9 l_t9 => ?_)
      have e_t9 := C_t9.2.2.2.1
      rw [a_t8] at a_t9
      rw [b_t8] at b_t9
      rw [d_t8] at d_t9
      rw [w_t8] at w_t9
      rw [u_t8] at u_t9
      rw [v_t8] at v_t9
      clear d_t8 w_t8 u_t8 v_t8 e_t8 a_t8 b_t8
      have I_n_t9 := I_n_t8.flat X_t9
      have f_n_t9 := f_n_t8.ex I_n_t8 (X_t9 0)
      have I_m_mdt4_t9 := I_m_mdt4_t8.flat X_t9
      have u_m_mdt4_t9 := u_m_mdt4_t8.ex I_m_mdt4_t8 (X_t9 0)
      refine Ok_ret (show Ok _ _ _ from ?_)
      refine Ok_ret (show Ok _ _ _ from ?_)
      refine Hv_mk (Kv_c (x := (30, n, 0)) rfl hK) (C_t9.1.2.2.2.2.2.2 hTt) C_t9 hT (by omega) (by omega) (by omega) ?_ ?_ ?_ (by omega) ?_ ?_ ?_
      · exact ⟨(Io_n (by decide) (by decide) I_n_t9.1 I_n_t9.2.1 I_n_t9.2.2.1 (fun q => absurd q (by decide)) (fun q => absurd q (by decide)) I_n_t9.2.2.2), (Nd_0 (by decide) Mo_nil), Stk_step (N := n) (pop := (30, n, t)) (new := [(30, n, 0)]) F0 C_t9.1.to2 (fun (h : nk 30 = false) => absurd h (by decide)) (fun q _ h => h (30, n, t) rfl) (fun _ => rfl) (fun y hy hk => ⟨rfl, (Mo_cons (fun q => show n ≤ n from by omega) Mo_nil) y hy hk⟩) (fun (h : 30 = 3 ∨ 30 = 18 ∨ 30 = 41) => absurd h (by decide)) (fun (h : 30 = 18) => absurd h (by decide)) (fun (h : 30 = 41 ∨ 30 = 42 ∨ 30 = 43) => absurd h (by decide)) r [] (fun y hy => absurd hy List.not_mem_nil) hS⟩
      · exact (Aj_sub (y := (30, n, 0)) hJ (Nat.le_of_ble_eq_true rfl))
      · show m_dp t9 = (dlt 30 + sD r)
        have : dlt 30 = 0 := rfl; omega
      · show m_rw t9 = (rho 30 + sR r)
        have : rho 30 = 0 := rfl; omega
      · show m_md t9 + (mu7 30 + sM r) ≤ 3 * m_at t9 + 7 * (r.length + 1) + 10
        have : mu7 30 = 7 := rfl; omega
      · show (wt 30 + sW r) + 6 * (4096 - m_at t9) + 4 * (600 - (r.length + 1)) < (wt 30 + sW r) + 6 * (4096 - m_at t0) + 4 * (600 - (r.length + 1))
        have : wt 30 = 5 := rfl; omega
    · refine Kp_error C_t4 (by omega) (fun t10 C_t10 X_t10 a_t10 b_t10 d_t10 w_t10 u_t10 v_t10 j_t10 l_t10 => ?_)
      have wb_t10 := w_t10.2
      have w_t10 := Nat.pos_of_ne_zero w_t10.1
      have e_t10 := C_t10.2.2.2.1
      have I_n_t10 := I_n_t4.flat X_t10
      refine Kp_child C_t10 I_n_t10.1 I_n_t10.2.1 I_n_t10.2.2.1 (by omega) (by omega) (by decide) (by decide) (fun t11 C_t11 X_t11 a_t11 b_t11 d_t11 w_t11 u_t11 v_t11 j_t11 l_t11 => ?_)
      have e_t11 := C_t11.2.2.2.1
      have I_n_t11 := I_n_t10.chd X_t11 j_t11
      have f_n_t11 : Fz t11 n := j_t11.2.2.2.2.1
      have I_m_mdt10_t11 : Nq t11 (m_md t10) := Nq.chn j_t11 (by omega) I_n_t10 (by decide)
      have u_m_mdt10_t11 : Up t11 (m_md t10) := Or.inl j_t11.2.1
      refine Kp_at C_t11 (fun t12 C_t12 X_t12 a_t12 b_t12 d_t12 w_t12 u_t12 v_t12 j_t12 l_t12 => ?_)
      have e_t12 := C_t12.2.2.2.1
      have I_n_t12 := I_n_t11.flat X_t12
      have f_n_t12 := f_n_t11.ex I_n_t11 (X_t12 0)
      have I_m_mdt10_t12 := I_m_mdt10_t11.flat X_t12
      have u_m_mdt10_t12 := u_m_mdt10_t11.ex I_m_mdt10_t11 (X_t12 0)
      refine Ok_ret (show Ok _ _ _ from ?_)
      refine Kp_push C_t12 (by omega) (fun t13 C_t13 X_t13 a_t13 b_t13 d_t13 w_t13 u_t13 v_t13 j_t13 l_t13 => ?_)
      have e_t13 := C_t13.2.2.2.1
      have I_n_t13 := I_n_t12.flat X_t13
      have f_n_t13 := f_n_t12.ex I_n_t12 (X_t13 0)
      have I_m_mdt10_t13 := I_m_mdt10_t12.flat X_t13
      have u_m_mdt10_t13 := u_m_mdt10_t12.ex I_m_mdt10_t12 (X_t13 0)
      refine Ok_ret (show Ok _ _ _ from ?_)
      refine Ok_ret (show Ok _ _ _ from ?_)
      exact Or.inl ⟨Nat.ne_of_gt (show 0 < m_wr t13 from by omega), by omega, by omega, C_t13.2.2.2.2.2, by omega⟩
  · refine Ok_ret (show Ok _ _ _ from ?_)
    refine Ok_ret (show Ok _ _ _ from ?_)
    refine Hv_mk hK (C_t0.1.2.2.2.2.2.2 hTt) C_t0 hT (by omega) (by omega) (by omega) ?_ ?_ ?_ (by omega) ?_ ?_ ?_
    · exact Stk_step (N := n) (pop := (30, n, t)) (new := []) F0 C_t0.1.to2 (fun (h : nk 30 = false) => absurd h (by decide)) (fun q _ h => h (30, n, t) rfl) (fun _ => rfl) (fun y hy hk => ⟨rfl, Mo_nil (n := n) y hy hk⟩) (fun (h : 30 = 3 ∨ 30 = 18 ∨ 30 = 41) => absurd h (by decide)) (fun (h : 30 = 18) => absurd h (by decide)) (fun (h : 30 = 41 ∨ 30 = 42 ∨ 30 = 43) => absurd h (by decide)) r [] (fun y hy => absurd hy List.not_mem_nil) hS
    · exact Aj_tl hJ
    · show m_dp t0 = sD r
      have : dlt 30 = 0 := rfl; omega
    · show m_rw t0 = sR r
      have : rho 30 = 0 := rfl; omega
    · show m_md t0 + sM r ≤ 3 * m_at t0 + 7 * (r.length) + 10
      have : mu7 30 = 7 := rfl; omega
    · show sW r + 6 * (4096 - m_at t0) + 4 * (600 - (r.length)) < (wt 30 + sW r) + 6 * (4096 - m_at t0) + 4 * (600 - (r.length + 1))
      have : wt 30 = 5 := rfl; omega

theorem S_32 {t0 : Mm} {n t : Nat} {r : List It} (H : Hp t0 (32, n, t) r) {E : Mm → Prop} : Ok (Qh (mz t0 ((32, n, t) :: r))) E (b_X6_step 32 n t t0) := by
  obtain ⟨hK, hT, hc, hw0, ha, hC, hS, hJ, hdp, hdl, hrw, hmd, htd, hln, hm16, hI, hD, hTt⟩ := Hp_out H
  have C_t0 := hC n
  have F0 := C_t0.2.1
  have I_n_t0 : Nq t0 n := ⟨(hI.2.1 rfl).1, (hI.2.1 rfl).2.1, (hI.2.1 rfl).2.2, hI.2.2.2 rfl⟩
  have m_n_t0 := I_n_t0.1
  have ht : t < 4096 := hI.1.1 (show 32 ≠ 42 by decide) (show 32 ≠ 48 by decide)
  have hdp : m_dp t0 = dlt 32 + sD r := hdp
  have hrw : m_rw t0 = rho 32 + sR r := hrw
  have hmd : m_md t0 + mu7 32 + sM r ≤ 3 * m_at t0 + 7 * r.length + 17 := hmd
  have hand : t &&& 1 ≤ 1 := Nat.and_le_right
  have h01 : (0 &&& 1 : Nat) = 0 := rfl
  have h02 : (1 : Nat) * 256 = 256 := rfl
  have hq1 : dlt 32 = 0 := rfl
  have hq2 : rho 32 = 0 := rfl
  have hq3 : mu7 32 = 7 := rfl
  unfold b_X6_step
  refine Ok_ifl (by decide) (by decide) (fun _ => ?_) (fun q => absurd (by decide) q)
  refine Ok_ifl (by decide) (by decide) (fun q => absurd q (by decide)) (fun _ => ?_)
  refine Ok_ifl (by decide) (by decide) (fun q => absurd q (by decide)) (fun _ => ?_)
  refine Ok_ifl (by decide) (by decide) (fun _ => ?_) (fun q => absurd (by decide) q)
  refine Ok_bnc ?_
  try unfold b_X6_declaring
  refine Ok_ck (by decide) ?_
  refine Ok_ife (by decide) (by decide) (fun q => absurd q (by decide)) (fun _ => ?_)
  refine Ok_ife (by decide) (by decide) (fun q => absurd q (by decide)) (fun _ => ?_)
  refine Ok_ife (by decide) (by decide) (fun q => absurd q (by decide)) (fun _ => ?_)
  refine Ok_ife (by decide) (by decide) (fun _ => ?_) (fun q => absurd (by decide) q)
  refine Ok_bnc ?_
  try unfold b_X6_exprsMore
  refine Kp_look C_t0 hT (by omega) ?_
  refine Ok_ife (Nat.lt_trans (lo_lt (C_t0.tk hT) _) (by decide)) (by decide) (fun q3 => ?_) (fun q3 => ?_)
  · have z_t4 : m_at t0 < m_ct t0 := lo_ne (Nat.ne_of_gt (show 0 < lo t0 (m_at t0) from by omega))
    refine Kp_at C_t0 (fun t4 C_t4 X_t4 a_t4 b_t4 d_t4 w_t4 u_t4 v_t4 j_t4 l_t4 => ?_)
    have e_t4 := C_t4.2.2.2.1
    have I_n_t4 := I_n_t0.flat X_t4
    refine Kp_push C_t4 (by omega) (fun t5 C_t5 X_t5 a_t5 b_t5 d_t5 w_t5 u_t5 v_t5 j_t5 l_t5 => ?_)
    have e_t5 := C_t5.2.2.2.1
    rw [a_t4] at a_t5
    rw [b_t4] at b_t5
    rw [d_t4] at d_t5
    rw [w_t4] at w_t5
    rw [u_t4] at u_t5
    rw [v_t4] at v_t5
    clear d_t4 w_t4 u_t4 v_t4 e_t4 a_t4 b_t4
    have I_n_t5 := I_n_t4.flat X_t5
    refine Ok_bnc ?_
    try unfold b_X6_expression
    refine Kp_push C_t5 (by omega) (fun t7 C_t7 X_t7 a_t7 b_t7 d_t7 w_t7 u_t7 v_t7 j_t7 l_t7 => ?_)
    have e_t7 := C_t7.2.2.2.1
    rw [a_t5] at a_t7
    rw [b_t5] at b_t7
    rw [d_t5] at d_t7
    rw [w_t5] at w_t7
    rw [u_t5] at u_t7
    rw [v_t5] at v_t7
    clear d_t5 w_t5 u_t5 v_t5 e_t5 a_t5 b_t5
    have I_n_t7 := I_n_t5.flat X_t7
    refine Kp_push C_t7 (by omega) (fun t8 C_t8 X_t8 a_t8 b_t8 d_t8 w_t8 u_t8 v_t8 j_t8 l_t8 => ?_)
    have e_t8 := C_t8.2.2.2.1
    rw [a_t7] at a_t8
    rw [b_t7] at b_t8
    rw [d_t7] at d_t8
    rw [w_t7] at w_t8
    rw [u_t7] at u_t8
    rw [v_t7] at v_t8
    clear d_t7 w_t7 u_t7 v_t7 e_t7 a_t7 b_t7
    have I_n_t8 := I_n_t7.flat X_t8
    refine Ok_ret (show Ok _ _ _ from ?_)
    refine Ok_ret (show Ok _ _ _ from ?_)
    refine Ok_ret (show Ok _ _ _ from ?_)
    refine Hv_mk (Kv_c (x := (3, n, t &&& 1)) rfl (Kv_c (x := (2, n, (t &&& 1) ||| (1 * 256))) rfl (Kv_c (x := (32, n, t)) rfl hK))) (C_t8.1.2.2.2.2.2.2 hTt) C_t8 hT (by omega) (by omega) (by omega) ?_ ?_ ?_ (by omega) ?_ ?_ ?_
    · exact ⟨(Io_n (by decide) (show t &&& 1 < 4096 from by omega) I_n_t8.1 I_n_t8.2.1 I_n_t8.2.2.1 (fun q => absurd q (by decide)) (fun q => absurd q (by decide)) I_n_t8.2.2.2), (Nd_0 (by decide) Mo_nil), ⟨(Io_2 (by have := or_256 (b := 1) (show (t &&& 1) < 256 from by omega); omega) (by have := or_256 (b := 1) (show (t &&& 1) < 256 from by omega); omega) (by have := or_256 (b := 1) (show (t &&& 1) < 256 from by omega); omega) I_n_t8.1 I_n_t8.2.1 I_n_t8.2.2.1 I_n_t8.2.2.2), (Nd_A (by decide) (Mo_cons (fun q => show n ≤ n from by omega) Mo_nil) (Or.inr ⟨(3, n, t &&& 1), List.mem_cons_self, rfl, Or.inl rfl⟩)), ⟨(Io_n (by decide) (show t < 4096 from by omega) I_n_t8.1 I_n_t8.2.1 I_n_t8.2.2.1 (fun q => absurd q (by decide)) (fun q => absurd q (by decide)) I_n_t8.2.2.2), (Nd_0 (by decide) (Mo_cons (fun q => show n ≤ n from by omega) (Mo_cons (fun q => show n ≤ n from by omega) Mo_nil))), Stk_step (N := n) (pop := (32, n, t)) (new := [(32, n, t), (2, n, (t &&& 1) ||| (1 * 256)), (3, n, t &&& 1)]) F0 C_t8.1.to2 (fun (h : nk 32 = false) => absurd h (by decide)) (fun q _ h => h (32, n, t) rfl) (fun _ => rfl) (fun y hy hk => ⟨rfl, (Mo_cons (fun q => show n ≤ n from by omega) (Mo_cons (fun q => show n ≤ n from by omega) (Mo_cons (fun q => show n ≤ n from by omega) Mo_nil))) y hy hk⟩) (fun (h : 32 = 3 ∨ 32 = 18 ∨ 32 = 41) => absurd h (by decide)) (fun (h : 32 = 18) => absurd h (by decide)) (fun (h : 32 = 41 ∨ 32 = 42 ∨ 32 = 43) => absurd h (by decide)) r [] (fun y hy => absurd hy List.not_mem_nil) hS⟩⟩⟩
    · exact (Aj_up (x := (3, n, t &&& 1)) (Aj_up (x := (2, n, (t &&& 1) ||| (1 * 256))) (Aj_sub (y := (32, n, t)) hJ (Nat.le_of_ble_eq_true rfl)) (Or.inr (show 9 - ((t &&& 1) ||| (1 * 256)) / 256 < 9 from by have := or_256 (b := 1) (show (t &&& 1) < 256 from by omega); omega))) (Or.inr (show 2 < 9 - ((t &&& 1) ||| (1 * 256)) / 256 from by have := or_256 (b := 1) (show (t &&& 1) < 256 from by omega); omega)))
    · show m_dp t8 = (dlt 3 + (dlt 2 + (dlt 32 + sD r)))
      have : dlt 2 = 0 := rfl; have : dlt 3 = 0 := rfl; have : dlt 32 = 0 := rfl; omega
    · show m_rw t8 = (rho 3 + (rho 2 + (rho 32 + sR r)))
      have : rho 2 = 0 := rfl; have : rho 3 = 0 := rfl; have : rho 32 = 0 := rfl; omega
    · show m_md t8 + (mu7 3 + (mu7 2 + (mu7 32 + sM r))) ≤ 3 * m_at t8 + 7 * (r.length + 1 + 1 + 1) + 10
      have : mu7 2 = 7 := rfl; have : mu7 3 = 5 := rfl; have : mu7 32 = 7 := rfl; omega
    · show (wt 3 + (wt 2 + (wt 32 + sW r))) + 6 * (4096 - m_at t8) + 4 * (600 - (r.length + 1 + 1 + 1)) < (wt 32 + sW r) + 6 * (4096 - m_at t0) + 4 * (600 - (r.length + 1))
      have : wt 2 = 5 := rfl; have : wt 3 = 3 := rfl; have : wt 32 = 5 := rfl; omega
  · refine Ok_ret (show Ok _ _ _ from ?_)
    refine Ok_ret (show Ok _ _ _ from ?_)
    refine Hv_mk hK (C_t0.1.2.2.2.2.2.2 hTt) C_t0 hT (by omega) (by omega) (by omega) ?_ ?_ ?_ (by omega) ?_ ?_ ?_
    · exact Stk_step (N := n) (pop := (32, n, t)) (new := []) F0 C_t0.1.to2 (fun (h : nk 32 = false) => absurd h (by decide)) (fun q _ h => h (32, n, t) rfl) (fun _ => rfl) (fun y hy hk => ⟨rfl, Mo_nil (n := n) y hy hk⟩) (fun (h : 32 = 3 ∨ 32 = 18 ∨ 32 = 41) => absurd h (by decide)) (fun (h : 32 = 18) => absurd h (by decide)) (fun (h : 32 = 41 ∨ 32 = 42 ∨ 32 = 43) => absurd h (by decide)) r [] (fun y hy => absurd hy List.not_mem_nil) hS
    · exact Aj_tl hJ
    · show m_dp t0 = sD r
      have : dlt 32 = 0 := rfl; omega
    · show m_rw t0 = sR r
      have : rho 32 = 0 := rfl; omega
    · show m_md t0 + sM r ≤ 3 * m_at t0 + 7 * (r.length) + 10
      have : mu7 32 = 7 := rfl; omega
    · show sW r + 6 * (4096 - m_at t0) + 4 * (600 - (r.length)) < (wt 32 + sW r) + 6 * (4096 - m_at t0) + 4 * (600 - (r.length + 1))
      have : wt 32 = 5 := rfl; omega

theorem S_33 {t0 : Mm} {n t : Nat} {r : List It} (H : Hp t0 (33, n, t) r) {E : Mm → Prop} : Ok (Qh (mz t0 ((33, n, t) :: r))) E (b_X6_step 33 n t t0) := by
  obtain ⟨hK, hT, hc, hw0, ha, hC, hS, hJ, hdp, hdl, hrw, hmd, htd, hln, hm16, hI, hD, hTt⟩ := Hp_out H
  have C_t0 := hC n
  have F0 := C_t0.2.1
  have I_n_t0 : Nq t0 n := ⟨(hI.2.1 rfl).1, (hI.2.1 rfl).2.1, (hI.2.1 rfl).2.2, hI.2.2.2 rfl⟩
  have m_n_t0 := I_n_t0.1
  have ht : t < 4096 := hI.1.1 (show 33 ≠ 42 by decide) (show 33 ≠ 48 by decide)
  have hdp : m_dp t0 = dlt 33 + sD r := hdp
  have hrw : m_rw t0 = rho 33 + sR r := hrw
  have hmd : m_md t0 + mu7 33 + sM r ≤ 3 * m_at t0 + 7 * r.length + 17 := hmd
  have hand : t &&& 1 ≤ 1 := Nat.and_le_right
  have h01 : (0 &&& 1 : Nat) = 0 := rfl
  have ht8 : t ≤ 8 := hI.1.2.2.2.2.2.2.1 (show 33 = 33 ∨ 33 = 34 ∨ 33 = 35 by decide)
  have h02 : (1 : Nat) * 256 = 256 := rfl
  have hq1 : dlt 33 = 0 := rfl
  have hq2 : rho 33 = 0 := rfl
  have hq3 : mu7 33 = 7 := rfl
  unfold b_X6_step
  refine Ok_ifl (by decide) (by decide) (fun _ => ?_) (fun q => absurd (by decide) q)
  refine Ok_ifl (by decide) (by decide) (fun q => absurd q (by decide)) (fun _ => ?_)
  refine Ok_ifl (by decide) (by decide) (fun q => absurd q (by decide)) (fun _ => ?_)
  refine Ok_ifl (by decide) (by decide) (fun _ => ?_) (fun q => absurd (by decide) q)
  refine Ok_bnc ?_
  try unfold b_X6_declaring
  refine Ok_ck (by decide) ?_
  refine Ok_ife (by decide) (by decide) (fun q => absurd q (by decide)) (fun _ => ?_)
  refine Ok_ife (by decide) (by decide) (fun q => absurd q (by decide)) (fun _ => ?_)
  refine Ok_ife (by decide) (by decide) (fun q => absurd q (by decide)) (fun _ => ?_)
  refine Ok_ife (by decide) (by decide) (fun q => absurd q (by decide)) (fun _ => ?_)
  refine Ok_ife (by decide) (by decide) (fun _ => ?_) (fun q => absurd (by decide) q)
  refine Ok_bnc ?_
  try unfold b_X6_spec
  refine Kp_child C_t0 I_n_t0.1 I_n_t0.2.1 I_n_t0.2.2.1 (by omega) (by omega) (show t + 3 ≠ 69 from by omega) (show t + 3 < 256 from by omega) (fun t3 C_t3 X_t3 a_t3 b_t3 d_t3 w_t3 u_t3 v_t3 j_t3 l_t3 => ?_)
  have e_t3 := C_t3.2.2.2.1
  have I_n_t3 := I_n_t0.chd X_t3 j_t3
  have f_n_t3 : Fz t3 n := j_t3.2.2.2.2.1
  have I_m_mdt0_t3 : Nq t3 (m_md t0) := Nq.chn j_t3 (by omega) I_n_t0 (show t + 3 ≠ 50 from by omega)
  have u_m_mdt0_t3 : Up t3 (m_md t0) := Or.inl j_t3.2.1
  refine Ok_ife (show t < 2147483648 from by omega) (by decide) (fun q4 => ?_) (fun q4 => ?_)
  · refine Ok_bnc ?_
    try unfold b_X6_name
    refine Kp_look C_t3 hT (by omega) ?_
    refine Ok_ife (Nat.lt_trans (lo_lt (C_t3.tk hT) _) (by decide)) (by decide) (fun q6 => ?_) (fun q6 => ?_)
    · refine Kp_child C_t3 I_m_mdt0_t3.1 I_m_mdt0_t3.2.1 I_m_mdt0_t3.2.2.1 (by omega) (by omega) (by decide) (by decide) (fun t7 C_t7 X_t7 a_t7 b_t7 d_t7 w_t7 u_t7 v_t7 j_t7 l_t7 => ?_)
      have e_t7 := C_t7.2.2.2.1
      rw [a_t3] at a_t7
      rw [b_t3] at b_t7
      rw [d_t3] at d_t7
      rw [w_t3] at w_t7
      rw [u_t3] at u_t7
      rw [v_t3] at v_t7
      clear d_t3 w_t3 u_t3 v_t3 e_t3 a_t3
      have I_n_t7 := I_n_t3.chd X_t7 j_t7
      have f_n_t7 := f_n_t3.ex I_n_t3 (X_t7 0 (Nat.zero_le _))
      have I_m_mdt0_t7 := I_m_mdt0_t3.chd X_t7 j_t7
      have u_m_mdt0_t7 := u_m_mdt0_t3.ex I_m_mdt0_t3 (X_t7 0 (Nat.zero_le _))
      have f_m_mdt0_t7 : Fz t7 (m_md t0) := j_t7.2.2.2.2.1
      have I_m_mdt3_t7 : Nq t7 (m_md t3) := Nq.chn j_t7 (by omega) I_m_mdt0_t3 (by decide)
      have u_m_mdt3_t7 : Up t7 (m_md t3) := Or.inl j_t7.2.1
      have z_t8 : m_at t7 < m_ct t7 := lo_ne (Nat.ne_of_gt (show 0 < lo t7 (m_at t7) from by omega))
      refine Kp_at C_t7 (fun t8 C_t8 X_t8 a_t8 b_t8 d_t8 w_t8 u_t8 v_t8 j_t8 l_t8 => ?_)
      have e_t8 := C_t8.2.2.2.1
      rw [a_t7] at a_t8
      rw [b_t7] at b_t8
      rw [d_t7] at d_t8
      rw [w_t7] at w_t8
      rw [u_t7] at u_t8
      rw [v_t7] at v_t8
      rw [a_t7, e_t7] at z_t8
      clear d_t7 w_t7 u_t7 v_t7 e_t7 a_t7 b_t7
      have I_n_t8 := I_n_t7.flat X_t8
      have f_n_t8 := f_n_t7.ex I_n_t7 (X_t8 0)
      have I_m_mdt0_t8 := I_m_mdt0_t7.flat X_t8
      have f_m_mdt0_t8 := f_m_mdt0_t7.ex I_m_mdt0_t7 (X_t8 0)
      have u_m_mdt0_t8 := u_m_mdt0_t7.ex I_m_mdt0_t7 (X_t8 0)
      have I_m_mdt3_t8 := I_m_mdt3_t7.flat X_t8
      have u_m_mdt3_t8 := u_m_mdt3_t7.ex I_m_mdt3_t7 (X_t8 0)
      refine Ok_ret (show Ok _ _ _ from ?_)
      refine Kp_push C_t8 (by omega) (fun t9 C_t9 X_t9 a_t9 b_t9 d_t9 w_t9 u_t9 v_t9 j_t9 l_t9 => ?_)
      have e_t9 := C_t9.2.2.2.1
      rw [a_t8] at a_t9
      rw [b_t8] at b_t9
      rw [d_t8] at d_t9
      rw [w_t8] at w_t9
      rw [u_t8] at u_t9
      rw [v_t8] at v_t9
      clear d_t8 w_t8 u_t8 v_t8 e_t8 a_t8 b_t8
      have I_n_t9 := I_n_t8.flat X_t9
      have f_n_t9 := f_n_t8.ex I_n_t8 (X_t9 0)
      have I_m_mdt0_t9 := I_m_mdt0_t8.flat X_t9
      have f_m_mdt0_t9 := f_m_mdt0_t8.ex I_m_mdt0_t8 (X_t9 0)
      have u_m_mdt0_t9 := u_m_mdt0_t8.ex I_m_mdt0_t8 (X_t9 0)
      have I_m_mdt3_t9 := I_m_mdt3_t8.flat X_t9
      have u_m_mdt3_t9 := u_m_mdt3_t8.ex I_m_mdt3_t8 (X_t9 0)
      refine Ok_ret (show Ok _ _ _ from ?_)
      refine Ok_ret (show Ok _ _ _ from ?_)
      refine Hv_mk (Kv_c (x := (18, m_md t0, 0)) rfl hK) (C_t9.1.2.2.2.2.2.2 hTt) C_t9 hT (by omega) (by omega) (by omega) ?_ ?_ ?_ (by omega) ?_ ?_ ?_
      · exact ⟨(Io_n (by decide) (by decide) I_m_mdt0_t9.1 I_m_mdt0_t9.2.1 I_m_mdt0_t9.2.2.1 (fun q => absurd q (by decide)) (fun q => absurd q (by decide)) I_m_mdt0_t9.2.2.2), (Nd_0 (by decide) Mo_nil), Stk_step (N := n) (pop := (33, n, t)) (new := [(18, m_md t0, 0)]) F0 C_t9.1.to2 (fun (h : nk 33 = false) => absurd h (by decide)) (fun q _ h => h (33, n, t) rfl) (fun _ => rfl) (fun y hy hk => ⟨rfl, (Mo_cons (fun q => show n ≤ m_md t0 from by omega) Mo_nil) y hy hk⟩) (fun (h : 33 = 3 ∨ 33 = 18 ∨ 33 = 41) => absurd h (by decide)) (fun (h : 33 = 18) => absurd h (by decide)) (fun (h : 33 = 41 ∨ 33 = 42 ∨ 33 = 43) => absurd h (by decide)) r [] (fun y hy => absurd hy List.not_mem_nil) hS⟩
      · exact (Aj_sub (y := (18, m_md t0, 0)) hJ (Nat.le_of_ble_eq_true rfl))
      · show m_dp t9 = (dlt 18 + sD r)
        have : dlt 18 = 0 := rfl; have : dlt 33 = 0 := rfl; omega
      · show m_rw t9 = (rho 18 + sR r)
        have : rho 18 = 0 := rfl; have : rho 33 = 0 := rfl; omega
      · show m_md t9 + (mu7 18 + sM r) ≤ 3 * m_at t9 + 7 * (r.length + 1) + 10
        have : mu7 18 = 5 := rfl; have : mu7 33 = 7 := rfl; omega
      · show (wt 18 + sW r) + 6 * (4096 - m_at t9) + 4 * (600 - (r.length + 1)) < (wt 33 + sW r) + 6 * (4096 - m_at t0) + 4 * (600 - (r.length + 1))
        have : wt 18 = 0 := rfl; have : wt 33 = 2 := rfl; omega
    · refine Kp_error C_t3 (by omega) (fun t10 C_t10 X_t10 a_t10 b_t10 d_t10 w_t10 u_t10 v_t10 j_t10 l_t10 => ?_)
      have wb_t10 := w_t10.2
      have w_t10 := Nat.pos_of_ne_zero w_t10.1
      have e_t10 := C_t10.2.2.2.1
      have I_n_t10 := I_n_t3.flat X_t10
      have f_n_t10 := f_n_t3.ex I_n_t3 (X_t10 0)
      have I_m_mdt0_t10 := I_m_mdt0_t3.flat X_t10
      have u_m_mdt0_t10 := u_m_mdt0_t3.ex I_m_mdt0_t3 (X_t10 0)
      refine Kp_child C_t10 I_m_mdt0_t10.1 I_m_mdt0_t10.2.1 I_m_mdt0_t10.2.2.1 (by omega) (by omega) (by decide) (by decide) (fun t11 C_t11 X_t11 a_t11 b_t11 d_t11 w_t11 u_t11 v_t11 j_t11 l_t11 => ?_)
      have e_t11 := C_t11.2.2.2.1
      have I_n_t11 := I_n_t10.chd X_t11 j_t11
      have f_n_t11 := f_n_t10.ex I_n_t10 (X_t11 0 (Nat.zero_le _))
      have I_m_mdt0_t11 := I_m_mdt0_t10.chd X_t11 j_t11
      have u_m_mdt0_t11 := u_m_mdt0_t10.ex I_m_mdt0_t10 (X_t11 0 (Nat.zero_le _))
      have f_m_mdt0_t11 : Fz t11 (m_md t0) := j_t11.2.2.2.2.1
      have I_m_mdt10_t11 : Nq t11 (m_md t10) := Nq.chn j_t11 (by omega) I_m_mdt0_t10 (by decide)
      have u_m_mdt10_t11 : Up t11 (m_md t10) := Or.inl j_t11.2.1
      refine Kp_at C_t11 (fun t12 C_t12 X_t12 a_t12 b_t12 d_t12 w_t12 u_t12 v_t12 j_t12 l_t12 => ?_)
      have e_t12 := C_t12.2.2.2.1
      have I_n_t12 := I_n_t11.flat X_t12
      have f_n_t12 := f_n_t11.ex I_n_t11 (X_t12 0)
      have I_m_mdt0_t12 := I_m_mdt0_t11.flat X_t12
      have f_m_mdt0_t12 := f_m_mdt0_t11.ex I_m_mdt0_t11 (X_t12 0)
      have u_m_mdt0_t12 := u_m_mdt0_t11.ex I_m_mdt0_t11 (X_t12 0)
      have I_m_mdt10_t12 := I_m_mdt10_t11.flat X_t12
      have u_m_mdt10_t12 := u_m_mdt10_t11.ex I_m_mdt10_t11 (X_t12 0)
      refine Ok_ret (show Ok _ _ _ from ?_)
      refine Kp_push C_t12 (by omega) (fun t13 C_t13 X_t13 a_t13 b_t13 d_t13 w_t13 u_t13 v_t13 j_t13 l_t13 => ?_)
      have e_t13 := C_t13.2.2.2.1
      have I_n_t13 := I_n_t12.flat X_t13
      have f_n_t13 := f_n_t12.ex I_n_t12 (X_t13 0)
      have I_m_mdt0_t13 := I_m_mdt0_t12.flat X_t13
      have f_m_mdt0_t13 := f_m_mdt0_t12.ex I_m_mdt0_t12 (X_t13 0)
      have u_m_mdt0_t13 := u_m_mdt0_t12.ex I_m_mdt0_t12 (X_t13 0)
      have I_m_mdt10_t13 := I_m_mdt10_t12.flat X_t13
      have u_m_mdt10_t13 := u_m_mdt10_t12.ex I_m_mdt10_t12 (X_t13 0)
      refine Ok_ret (show Ok _ _ _ from ?_)
      refine Ok_ret (show Ok _ _ _ from ?_)
      exact Or.inl ⟨Nat.ne_of_gt (show 0 < m_wr t13 from by omega), by omega, by omega, C_t13.2.2.2.2.2, by omega⟩
  · refine Ok_ife (show t < 2147483648 from by omega) (by decide) (fun q14 => ?_) (fun q14 => ?_)
    · refine Kp_push C_t3 (by omega) (fun t15 C_t15 X_t15 a_t15 b_t15 d_t15 w_t15 u_t15 v_t15 j_t15 l_t15 => ?_)
      have e_t15 := C_t15.2.2.2.1
      rw [a_t3] at a_t15
      rw [b_t3] at b_t15
      rw [d_t3] at d_t15
      rw [w_t3] at w_t15
      rw [u_t3] at u_t15
      rw [v_t3] at v_t15
      clear d_t3 w_t3 u_t3 v_t3 e_t3 a_t3 b_t3
      have I_n_t15 := I_n_t3.flat X_t15
      have f_n_t15 := f_n_t3.ex I_n_t3 (X_t15 0)
      have I_m_mdt0_t15 := I_m_mdt0_t3.flat X_t15
      have u_m_mdt0_t15 := u_m_mdt0_t3.ex I_m_mdt0_t3 (X_t15 0)
      refine Kp_push C_t15 (by omega) (fun t16 C_t16 X_t16 a_t16 b_t16 d_t16 w_t16 u_t16 v_t16 j_t16 l_t16 => ?_)
      have e_t16 := C_t16.2.2.2.1
      rw [a_t15] at a_t16
      rw [b_t15] at b_t16
      rw [d_t15] at d_t16
      rw [w_t15] at w_t16
      rw [u_t15] at u_t16
      rw [v_t15] at v_t16
      clear d_t15 w_t15 u_t15 v_t15 e_t15 a_t15 b_t15
      have I_n_t16 := I_n_t15.flat X_t16
      have f_n_t16 := f_n_t15.ex I_n_t15 (X_t16 0)
      have I_m_mdt0_t16 := I_m_mdt0_t15.flat X_t16
      have u_m_mdt0_t16 := u_m_mdt0_t15.ex I_m_mdt0_t15 (X_t16 0)
      refine Ok_ret (show Ok _ _ _ from ?_)
      refine Ok_ret (show Ok _ _ _ from ?_)
      refine Hv_mk (Kv_c (x := (29, m_md t0, 0)) rfl (Kv_c (x := (36, m_md t0, 0)) rfl hK)) (C_t16.1.2.2.2.2.2.2 hTt) C_t16 hT (by omega) (by omega) (by omega) ?_ ?_ ?_ (by omega) ?_ ?_ ?_
      · exact ⟨(Io_n (by decide) (by decide) I_m_mdt0_t16.1 I_m_mdt0_t16.2.1 I_m_mdt0_t16.2.2.1 (fun q => absurd q (by decide)) (fun q => absurd q (by decide)) I_m_mdt0_t16.2.2.2), (Nd_0 (by decide) Mo_nil), ⟨(Io_n (by decide) (by decide) I_m_mdt0_t16.1 I_m_mdt0_t16.2.1 I_m_mdt0_t16.2.2.1 (fun q => absurd q (by decide)) (fun q => absurd q (by decide)) I_m_mdt0_t16.2.2.2), (Nd_0 (by decide) (Mo_cons (fun q => show m_md t0 ≤ m_md t0 from by omega) Mo_nil)), Stk_step (N := n) (pop := (33, n, t)) (new := [(36, m_md t0, 0), (29, m_md t0, 0)]) F0 C_t16.1.to2 (fun (h : nk 33 = false) => absurd h (by decide)) (fun q _ h => h (33, n, t) rfl) (fun _ => rfl) (fun y hy hk => ⟨rfl, (Mo_cons (fun q => show n ≤ m_md t0 from by omega) (Mo_cons (fun q => show n ≤ m_md t0 from by omega) Mo_nil)) y hy hk⟩) (fun (h : 33 = 3 ∨ 33 = 18 ∨ 33 = 41) => absurd h (by decide)) (fun (h : 33 = 18) => absurd h (by decide)) (fun (h : 33 = 41 ∨ 33 = 42 ∨ 33 = 43) => absurd h (by decide)) r [] (fun y hy => absurd hy List.not_mem_nil) hS⟩⟩
      · exact (Aj_up (x := (29, m_md t0, 0)) (Aj_sub (y := (36, m_md t0, 0)) hJ (Nat.le_of_ble_eq_true rfl)) (Or.inr (Nat.le_of_ble_eq_true rfl)))
      · show m_dp t16 = (dlt 29 + (dlt 36 + sD r))
        have : dlt 29 = 0 := rfl; have : dlt 33 = 0 := rfl; have : dlt 36 = 0 := rfl; omega
      · show m_rw t16 = (rho 29 + (rho 36 + sR r))
        have : rho 29 = 0 := rfl; have : rho 33 = 0 := rfl; have : rho 36 = 0 := rfl; omega
      · show m_md t16 + (mu7 29 + (mu7 36 + sM r)) ≤ 3 * m_at t16 + 7 * (r.length + 1 + 1) + 10
        have : mu7 29 = 6 := rfl; have : mu7 33 = 7 := rfl; have : mu7 36 = 7 := rfl; omega
      · show (wt 29 + (wt 36 + sW r)) + 6 * (4096 - m_at t16) + 4 * (600 - (r.length + 1 + 1)) < (wt 33 + sW r) + 6 * (4096 - m_at t0) + 4 * (600 - (r.length + 1))
        have : wt 29 = 0 := rfl; have : wt 33 = 2 := rfl; have : wt 36 = 5 := rfl; omega
    · refine Kp_push C_t3 (by omega) (fun t17 C_t17 X_t17 a_t17 b_t17 d_t17 w_t17 u_t17 v_t17 j_t17 l_t17 => ?_)
      have e_t17 := C_t17.2.2.2.1
      rw [a_t3] at a_t17
      rw [b_t3] at b_t17
      rw [d_t3] at d_t17
      rw [w_t3] at w_t17
      rw [u_t3] at u_t17
      rw [v_t3] at v_t17
      clear d_t3 w_t3 u_t3 v_t3 e_t3 a_t3 b_t3
      have I_n_t17 := I_n_t3.flat X_t17
      have f_n_t17 := f_n_t3.ex I_n_t3 (X_t17 0)
      have I_m_mdt0_t17 := I_m_mdt0_t3.flat X_t17
      have u_m_mdt0_t17 := u_m_mdt0_t3.ex I_m_mdt0_t3 (X_t17 0)
      refine Kp_push C_t17 (by omega) (fun t18 C_t18 X_t18 a_t18 b_t18 d_t18 w_t18 u_t18 v_t18 j_t18 l_t18 => ?_)
      have e_t18 := C_t18.2.2.2.1
      rw [a_t17] at a_t18
      rw [b_t17] at b_t18
      rw [d_t17] at d_t18
      rw [w_t17] at w_t18
      rw [u_t17] at u_t18
      rw [v_t17] at v_t18
      clear d_t17 w_t17 u_t17 v_t17 e_t17 a_t17 b_t17
      have I_n_t18 := I_n_t17.flat X_t18
      have f_n_t18 := f_n_t17.ex I_n_t17 (X_t18 0)
      have I_m_mdt0_t18 := I_m_mdt0_t17.flat X_t18
      have u_m_mdt0_t18 := u_m_mdt0_t17.ex I_m_mdt0_t17 (X_t18 0)
      refine Ok_ret (show Ok _ _ _ from ?_)
      refine Ok_ret (show Ok _ _ _ from ?_)
      refine Hv_mk (Kv_c (x := (29, m_md t0, 0)) rfl (Kv_c (x := (37, m_md t0, 0)) rfl hK)) (C_t18.1.2.2.2.2.2.2 hTt) C_t18 hT (by omega) (by omega) (by omega) ?_ ?_ ?_ (by omega) ?_ ?_ ?_
      · exact ⟨(Io_n (by decide) (by decide) I_m_mdt0_t18.1 I_m_mdt0_t18.2.1 I_m_mdt0_t18.2.2.1 (fun q => absurd q (by decide)) (fun q => absurd q (by decide)) I_m_mdt0_t18.2.2.2), (Nd_0 (by decide) Mo_nil), ⟨(Io_n (by decide) (by decide) I_m_mdt0_t18.1 I_m_mdt0_t18.2.1 I_m_mdt0_t18.2.2.1 (fun q => absurd q (by decide)) (fun q => absurd q (by decide)) I_m_mdt0_t18.2.2.2), (Nd_0 (by decide) (Mo_cons (fun q => show m_md t0 ≤ m_md t0 from by omega) Mo_nil)), Stk_step (N := n) (pop := (33, n, t)) (new := [(37, m_md t0, 0), (29, m_md t0, 0)]) F0 C_t18.1.to2 (fun (h : nk 33 = false) => absurd h (by decide)) (fun q _ h => h (33, n, t) rfl) (fun _ => rfl) (fun y hy hk => ⟨rfl, (Mo_cons (fun q => show n ≤ m_md t0 from by omega) (Mo_cons (fun q => show n ≤ m_md t0 from by omega) Mo_nil)) y hy hk⟩) (fun (h : 33 = 3 ∨ 33 = 18 ∨ 33 = 41) => absurd h (by decide)) (fun (h : 33 = 18) => absurd h (by decide)) (fun (h : 33 = 41 ∨ 33 = 42 ∨ 33 = 43) => absurd h (by decide)) r [] (fun y hy => absurd hy List.not_mem_nil) hS⟩⟩
      · exact (Aj_up (x := (29, m_md t0, 0)) (Aj_sub (y := (37, m_md t0, 0)) hJ (Nat.le_of_ble_eq_true rfl)) (Or.inr (Nat.le_of_ble_eq_true rfl)))
      · show m_dp t18 = (dlt 29 + (dlt 37 + sD r))
        have : dlt 29 = 0 := rfl; have : dlt 33 = 0 := rfl; have : dlt 37 = 0 := rfl; omega
      · show m_rw t18 = (rho 29 + (rho 37 + sR r))
        have : rho 29 = 0 := rfl; have : rho 33 = 0 := rfl; have : rho 37 = 0 := rfl; omega
      · show m_md t18 + (mu7 29 + (mu7 37 + sM r)) ≤ 3 * m_at t18 + 7 * (r.length + 1 + 1) + 10
        have : mu7 29 = 6 := rfl; have : mu7 33 = 7 := rfl; have : mu7 37 = 5 := rfl; omega
      · show (wt 29 + (wt 37 + sW r)) + 6 * (4096 - m_at t18) + 4 * (600 - (r.length + 1 + 1)) < (wt 33 + sW r) + 6 * (4096 - m_at t0) + 4 * (600 - (r.length + 1))
        have : wt 29 = 0 := rfl; have : wt 33 = 2 := rfl; have : wt 37 = 2 := rfl; omega

theorem S_34 {t0 : Mm} {n t : Nat} {r : List It} (H : Hp t0 (34, n, t) r) {E : Mm → Prop} : Ok (Qh (mz t0 ((34, n, t) :: r))) E (b_X6_step 34 n t t0) := by
  obtain ⟨hK, hT, hc, hw0, ha, hC, hS, hJ, hdp, hdl, hrw, hmd, htd, hln, hm16, hI, hD, hTt⟩ := Hp_out H
  have C_t0 := hC n
  have F0 := C_t0.2.1
  have I_n_t0 : Nq t0 n := ⟨(hI.2.1 rfl).1, (hI.2.1 rfl).2.1, (hI.2.1 rfl).2.2, hI.2.2.2 rfl⟩
  have m_n_t0 := I_n_t0.1
  have ht : t < 4096 := hI.1.1 (show 34 ≠ 42 by decide) (show 34 ≠ 48 by decide)
  have hdp : m_dp t0 = dlt 34 + sD r := hdp
  have hrw : m_rw t0 = rho 34 + sR r := hrw
  have hmd : m_md t0 + mu7 34 + sM r ≤ 3 * m_at t0 + 7 * r.length + 17 := hmd
  have hand : t &&& 1 ≤ 1 := Nat.and_le_right
  have h01 : (0 &&& 1 : Nat) = 0 := rfl
  have ht8 : t ≤ 8 := hI.1.2.2.2.2.2.2.1 (show 34 = 33 ∨ 34 = 34 ∨ 34 = 35 by decide)
  have h02 : (1 : Nat) * 256 = 256 := rfl
  have hq1 : dlt 34 = 1 := rfl
  have hq2 : rho 34 = 0 := rfl
  have hq3 : mu7 34 = 4 := rfl
  unfold b_X6_step
  refine Ok_ifl (by decide) (by decide) (fun _ => ?_) (fun q => absurd (by decide) q)
  refine Ok_ifl (by decide) (by decide) (fun q => absurd q (by decide)) (fun _ => ?_)
  refine Ok_ifl (by decide) (by decide) (fun q => absurd q (by decide)) (fun _ => ?_)
  refine Ok_ifl (by decide) (by decide) (fun _ => ?_) (fun q => absurd (by decide) q)
  refine Ok_bnc ?_
  try unfold b_X6_declaring
  refine Ok_ck (by decide) ?_
  refine Ok_ife (by decide) (by decide) (fun q => absurd q (by decide)) (fun _ => ?_)
  refine Ok_ife (by decide) (by decide) (fun q => absurd q (by decide)) (fun _ => ?_)
  refine Ok_ife (by decide) (by decide) (fun q => absurd q (by decide)) (fun _ => ?_)
  refine Ok_ife (by decide) (by decide) (fun q => absurd q (by decide)) (fun _ => ?_)
  refine Ok_ife (by decide) (by decide) (fun q => absurd q (by decide)) (fun _ => ?_)
  refine Ok_ife (by decide) (by decide) (fun _ => ?_) (fun q => absurd (by decide) q)
  refine Ok_bnc ?_
  try unfold b_X6_specs
  refine Kp_look C_t0 hT (by omega) ?_
  refine Ok_ife (Nat.lt_trans (lo_lt (C_t0.tk hT) _) (by decide)) (by decide) (fun q3 => ?_) (fun q3 => ?_)
  · have z_t4 : m_at t0 < m_ct t0 := lo_ne (Nat.ne_of_gt (show 0 < lo t0 (m_at t0) from by omega))
    refine Kp_at C_t0 (fun t4 C_t4 X_t4 a_t4 b_t4 d_t4 w_t4 u_t4 v_t4 j_t4 l_t4 => ?_)
    have e_t4 := C_t4.2.2.2.1
    have I_n_t4 := I_n_t0.flat X_t4
    refine Ok_ck (show (m_dp t4) ≠ 0 from by omega) ?_
    refine Kp_dp C_t4 (fun t5 C_t5 X_t5 a_t5 b_t5 d_t5 w_t5 u_t5 v_t5 j_t5 l_t5 => ?_)
    have e_t5 := C_t5.2.2.2.1
    rw [a_t4] at a_t5
    rw [b_t4] at b_t5
    rw [d_t4] at d_t5
    rw [w_t4] at w_t5
    rw [u_t4] at u_t5
    rw [v_t4] at v_t5
    clear d_t4 w_t4 u_t4 v_t4 e_t4 a_t4 b_t4
    have I_n_t5 := I_n_t4.flat X_t5
    refine Ok_ret (show Ok _ _ _ from ?_)
    refine Ok_ret (show Ok _ _ _ from ?_)
    refine Hv_mk hK (C_t5.1.2.2.2.2.2.2 hTt) C_t5 hT (by omega) (by omega) (by omega) ?_ ?_ ?_ (by omega) ?_ ?_ ?_
    · exact Stk_step (N := n) (pop := (34, n, t)) (new := []) F0 C_t5.1.to2 (fun (h : nk 34 = false) => absurd h (by decide)) (fun q _ h => h (34, n, t) rfl) (fun _ => rfl) (fun y hy hk => ⟨rfl, Mo_nil (n := n) y hy hk⟩) (fun (h : 34 = 3 ∨ 34 = 18 ∨ 34 = 41) => absurd h (by decide)) (fun (h : 34 = 18) => absurd h (by decide)) (fun (h : 34 = 41 ∨ 34 = 42 ∨ 34 = 43) => absurd h (by decide)) r [] (fun y hy => absurd hy List.not_mem_nil) hS
    · exact Aj_tl hJ
    · show m_dp t5 = sD r
      have : dlt 34 = 1 := rfl; omega
    · show m_rw t5 = sR r
      have : rho 34 = 0 := rfl; omega
    · show m_md t5 + sM r ≤ 3 * m_at t5 + 7 * (r.length) + 10
      have : mu7 34 = 4 := rfl; omega
    · show sW r + 6 * (4096 - m_at t5) + 4 * (600 - (r.length)) < (wt 34 + sW r) + 6 * (4096 - m_at t0) + 4 * (600 - (r.length + 1))
      have : wt 34 = 0 := rfl; omega
  · refine Kp_push C_t0 (by omega) (fun t6 C_t6 X_t6 a_t6 b_t6 d_t6 w_t6 u_t6 v_t6 j_t6 l_t6 => ?_)
    have e_t6 := C_t6.2.2.2.1
    have I_n_t6 := I_n_t0.flat X_t6
    refine Kp_push C_t6 (by omega) (fun t7 C_t7 X_t7 a_t7 b_t7 d_t7 w_t7 u_t7 v_t7 j_t7 l_t7 => ?_)
    have e_t7 := C_t7.2.2.2.1
    rw [a_t6] at a_t7
    rw [b_t6] at b_t7
    rw [d_t6] at d_t7
    rw [w_t6] at w_t7
    rw [u_t6] at u_t7
    rw [v_t6] at v_t7
    clear d_t6 w_t6 u_t6 v_t6 e_t6 a_t6 b_t6
    have I_n_t7 := I_n_t6.flat X_t7
    refine Ok_ret (show Ok _ _ _ from ?_)
    refine Ok_ret (show Ok _ _ _ from ?_)
    refine Hv_mk (Kv_c (x := (33, n, t)) rfl (Kv_c (x := (35, n, t)) rfl hK)) (C_t7.1.2.2.2.2.2.2 hTt) C_t7 hT (by omega) (by omega) (by omega) ?_ ?_ ?_ (by omega) ?_ ?_ ?_
    · exact ⟨(Io_n (by decide) (show t < 4096 from by omega) I_n_t7.1 I_n_t7.2.1 I_n_t7.2.2.1 (fun q => absurd q (by decide)) (fun _ => show t ≤ 8 from by omega) I_n_t7.2.2.2), (Nd_0 (by decide) Mo_nil), ⟨(Io_n (by decide) (show t < 4096 from by omega) I_n_t7.1 I_n_t7.2.1 I_n_t7.2.2.1 (fun q => absurd q (by decide)) (fun _ => show t ≤ 8 from by omega) I_n_t7.2.2.2), (Nd_0 (by decide) (Mo_cons (fun q => show n ≤ n from by omega) Mo_nil)), Stk_step (N := n) (pop := (34, n, t)) (new := [(35, n, t), (33, n, t)]) F0 C_t7.1.to2 (fun (h : nk 34 = false) => absurd h (by decide)) (fun q _ h => h (34, n, t) rfl) (fun _ => rfl) (fun y hy hk => ⟨rfl, (Mo_cons (fun q => show n ≤ n from by omega) (Mo_cons (fun q => show n ≤ n from by omega) Mo_nil)) y hy hk⟩) (fun (h : 34 = 3 ∨ 34 = 18 ∨ 34 = 41) => absurd h (by decide)) (fun (h : 34 = 18) => absurd h (by decide)) (fun (h : 34 = 41 ∨ 34 = 42 ∨ 34 = 43) => absurd h (by decide)) r [] (fun y hy => absurd hy List.not_mem_nil) hS⟩⟩
    · exact (Aj_up (x := (33, n, t)) (Aj_sub (y := (35, n, t)) hJ (Nat.le_of_ble_eq_true rfl)) (Or.inl (Nat.le_of_ble_eq_true rfl)))
    · show m_dp t7 = (dlt 33 + (dlt 35 + sD r))
      have : dlt 33 = 0 := rfl; have : dlt 34 = 1 := rfl; have : dlt 35 = 1 := rfl; omega
    · show m_rw t7 = (rho 33 + (rho 35 + sR r))
      have : rho 33 = 0 := rfl; have : rho 34 = 0 := rfl; have : rho 35 = 0 := rfl; omega
    · show m_md t7 + (mu7 33 + (mu7 35 + sM r)) ≤ 3 * m_at t7 + 7 * (r.length + 1 + 1) + 10
      have : mu7 33 = 7 := rfl; have : mu7 34 = 4 := rfl; have : mu7 35 = 4 := rfl; omega
    · show (wt 33 + (wt 35 + sW r)) + 6 * (4096 - m_at t7) + 4 * (600 - (r.length + 1 + 1)) < (wt 34 + sW r) + 6 * (4096 - m_at t0) + 4 * (600 - (r.length + 1))
      have : wt 33 = 2 := rfl; have : wt 34 = 0 := rfl; have : wt 35 = 1 := rfl; omega

theorem S_35 {t0 : Mm} {n t : Nat} {r : List It} (H : Hp t0 (35, n, t) r) {E : Mm → Prop} : Ok (Qh (mz t0 ((35, n, t) :: r))) E (b_X6_step 35 n t t0) := by
  obtain ⟨hK, hT, hc, hw0, ha, hC, hS, hJ, hdp, hdl, hrw, hmd, htd, hln, hm16, hI, hD, hTt⟩ := Hp_out H
  have C_t0 := hC n
  have F0 := C_t0.2.1
  have I_n_t0 : Nq t0 n := ⟨(hI.2.1 rfl).1, (hI.2.1 rfl).2.1, (hI.2.1 rfl).2.2, hI.2.2.2 rfl⟩
  have m_n_t0 := I_n_t0.1
  have ht : t < 4096 := hI.1.1 (show 35 ≠ 42 by decide) (show 35 ≠ 48 by decide)
  have hdp : m_dp t0 = dlt 35 + sD r := hdp
  have hrw : m_rw t0 = rho 35 + sR r := hrw
  have hmd : m_md t0 + mu7 35 + sM r ≤ 3 * m_at t0 + 7 * r.length + 17 := hmd
  have hand : t &&& 1 ≤ 1 := Nat.and_le_right
  have h01 : (0 &&& 1 : Nat) = 0 := rfl
  have ht8 : t ≤ 8 := hI.1.2.2.2.2.2.2.1 (show 35 = 33 ∨ 35 = 34 ∨ 35 = 35 by decide)
  have h02 : (1 : Nat) * 256 = 256 := rfl
  have hq1 : dlt 35 = 1 := rfl
  have hq2 : rho 35 = 0 := rfl
  have hq3 : mu7 35 = 4 := rfl
  unfold b_X6_step
  refine Ok_ifl (by decide) (by decide) (fun _ => ?_) (fun q => absurd (by decide) q)
  refine Ok_ifl (by decide) (by decide) (fun q => absurd q (by decide)) (fun _ => ?_)
  refine Ok_ifl (by decide) (by decide) (fun q => absurd q (by decide)) (fun _ => ?_)
  refine Ok_ifl (by decide) (by decide) (fun _ => ?_) (fun q => absurd (by decide) q)
  refine Ok_bnc ?_
  try unfold b_X6_declaring
  refine Ok_ck (by decide) ?_
  refine Ok_ife (by decide) (by decide) (fun q => absurd q (by decide)) (fun _ => ?_)
  refine Ok_ife (by decide) (by decide) (fun q => absurd q (by decide)) (fun _ => ?_)
  refine Ok_ife (by decide) (by decide) (fun q => absurd q (by decide)) (fun _ => ?_)
  refine Ok_ife (by decide) (by decide) (fun q => absurd q (by decide)) (fun _ => ?_)
  refine Ok_ife (by decide) (by decide) (fun q => absurd q (by decide)) (fun _ => ?_)
  refine Ok_ife (by decide) (by decide) (fun q => absurd q (by decide)) (fun _ => ?_)
  refine Ok_ife (by decide) (by decide) (fun _ => ?_) (fun q => absurd (by decide) q)
  refine Ok_bnc ?_
  try unfold b_X6_specsMore
  refine Kp_look C_t0 hT (by omega) ?_
  refine Ok_ife (Nat.lt_trans (lo_lt (C_t0.tk hT) _) (by decide)) (by decide) (fun q3 => ?_) (fun q3 => ?_)
  · refine Kp_push C_t0 (by omega) (fun t4 C_t4 X_t4 a_t4 b_t4 d_t4 w_t4 u_t4 v_t4 j_t4 l_t4 => ?_)
    have e_t4 := C_t4.2.2.2.1
    have I_n_t4 := I_n_t0.flat X_t4
    refine Ok_ret (show Ok _ _ _ from ?_)
    refine Ok_ret (show Ok _ _ _ from ?_)
    refine Hv_mk (Kv_c (x := (34, n, t)) rfl hK) (C_t4.1.2.2.2.2.2.2 hTt) C_t4 hT (by omega) (by omega) (by omega) ?_ ?_ ?_ (by omega) ?_ ?_ ?_
    · exact ⟨(Io_n (by decide) (show t < 4096 from by omega) I_n_t4.1 I_n_t4.2.1 I_n_t4.2.2.1 (fun q => absurd q (by decide)) (fun _ => show t ≤ 8 from by omega) I_n_t4.2.2.2), (Nd_0 (by decide) Mo_nil), Stk_step (N := n) (pop := (35, n, t)) (new := [(34, n, t)]) F0 C_t4.1.to2 (fun (h : nk 35 = false) => absurd h (by decide)) (fun q _ h => h (35, n, t) rfl) (fun _ => rfl) (fun y hy hk => ⟨rfl, (Mo_cons (fun q => show n ≤ n from by omega) Mo_nil) y hy hk⟩) (fun (h : 35 = 3 ∨ 35 = 18 ∨ 35 = 41) => absurd h (by decide)) (fun (h : 35 = 18) => absurd h (by decide)) (fun (h : 35 = 41 ∨ 35 = 42 ∨ 35 = 43) => absurd h (by decide)) r [] (fun y hy => absurd hy List.not_mem_nil) hS⟩
    · exact (Aj_sub (y := (34, n, t)) hJ (Nat.le_of_ble_eq_true rfl))
    · show m_dp t4 = (dlt 34 + sD r)
      have : dlt 34 = 1 := rfl; have : dlt 35 = 1 := rfl; omega
    · show m_rw t4 = (rho 34 + sR r)
      have : rho 34 = 0 := rfl; have : rho 35 = 0 := rfl; omega
    · show m_md t4 + (mu7 34 + sM r) ≤ 3 * m_at t4 + 7 * (r.length + 1) + 10
      have : mu7 34 = 4 := rfl; have : mu7 35 = 4 := rfl; omega
    · show (wt 34 + sW r) + 6 * (4096 - m_at t4) + 4 * (600 - (r.length + 1)) < (wt 35 + sW r) + 6 * (4096 - m_at t0) + 4 * (600 - (r.length + 1))
      have : wt 34 = 0 := rfl; have : wt 35 = 1 := rfl; omega
  · refine Kp_pass C_t0 hT (by omega) (by decide) (by omega) (fun t5 C_t5 X_t5 a_t5 b_t5 d_t5 w_t5 u_t5 v_t5 j_t5 l_t5 => ?_)
    have e_t5 := C_t5.2.2.2.1
    rcases w_t5 with ⟨w_t5, y_t5⟩ | ⟨w_t5, wb_t5⟩
    · have z_t5 : m_at t0 < m_ct t0 := lo_ne (Nat.ne_of_gt (show 0 < lo t0 (m_at t0) from by omega))
      have I_n_t5 := I_n_t0.flat X_t5
      refine Kp_push C_t5 (by omega) (fun t6 C_t6 X_t6 a_t6 b_t6 d_t6 w_t6 u_t6 v_t6 j_t6 l_t6 => ?_)
      have e_t6 := C_t6.2.2.2.1
      rw [a_t5] at a_t6
      rw [b_t5] at b_t6
      rw [d_t5] at d_t6
      rw [w_t5] at w_t6
      rw [u_t5] at u_t6
      rw [v_t5] at v_t6
      clear d_t5 w_t5 u_t5 v_t5 e_t5 a_t5 b_t5
      have I_n_t6 := I_n_t5.flat X_t6
      refine Ok_ret (show Ok _ _ _ from ?_)
      refine Ok_ret (show Ok _ _ _ from ?_)
      refine Hv_mk (Kv_c (x := (34, n, t)) rfl hK) (C_t6.1.2.2.2.2.2.2 hTt) C_t6 hT (by omega) (by omega) (by omega) ?_ ?_ ?_ (by omega) ?_ ?_ ?_
      · exact ⟨(Io_n (by decide) (show t < 4096 from by omega) I_n_t6.1 I_n_t6.2.1 I_n_t6.2.2.1 (fun q => absurd q (by decide)) (fun _ => show t ≤ 8 from by omega) I_n_t6.2.2.2), (Nd_0 (by decide) Mo_nil), Stk_step (N := n) (pop := (35, n, t)) (new := [(34, n, t)]) F0 C_t6.1.to2 (fun (h : nk 35 = false) => absurd h (by decide)) (fun q _ h => h (35, n, t) rfl) (fun _ => rfl) (fun y hy hk => ⟨rfl, (Mo_cons (fun q => show n ≤ n from by omega) Mo_nil) y hy hk⟩) (fun (h : 35 = 3 ∨ 35 = 18 ∨ 35 = 41) => absurd h (by decide)) (fun (h : 35 = 18) => absurd h (by decide)) (fun (h : 35 = 41 ∨ 35 = 42 ∨ 35 = 43) => absurd h (by decide)) r [] (fun y hy => absurd hy List.not_mem_nil) hS⟩
      · exact (Aj_sub (y := (34, n, t)) hJ (Nat.le_of_ble_eq_true rfl))
      · show m_dp t6 = (dlt 34 + sD r)
        have : dlt 34 = 1 := rfl; have : dlt 35 = 1 := rfl; omega
      · show m_rw t6 = (rho 34 + sR r)
        have : rho 34 = 0 := rfl; have : rho 35 = 0 := rfl; omega
      · show m_md t6 + (mu7 34 + sM r) ≤ 3 * m_at t6 + 7 * (r.length + 1) + 10
        have : mu7 34 = 4 := rfl; have : mu7 35 = 4 := rfl; omega
      · show (wt 34 + sW r) + 6 * (4096 - m_at t6) + 4 * (600 - (r.length + 1)) < (wt 35 + sW r) + 6 * (4096 - m_at t0) + 4 * (600 - (r.length + 1))
        have : wt 34 = 0 := rfl; have : wt 35 = 1 := rfl; omega
    · have w_t5 := Nat.pos_of_ne_zero w_t5
      have I_n_t5 := I_n_t0.flat X_t5
      refine Kp_push C_t5 (by omega) (fun t7 C_t7 X_t7 a_t7 b_t7 d_t7 w_t7 u_t7 v_t7 j_t7 l_t7 => ?_)
      have e_t7 := C_t7.2.2.2.1
      have I_n_t7 := I_n_t5.flat X_t7
      refine Ok_ret (show Ok _ _ _ from ?_)
      refine Ok_ret (show Ok _ _ _ from ?_)
      exact Or.inl ⟨Nat.ne_of_gt (show 0 < m_wr t7 from by omega), by omega, by omega, C_t7.2.2.2.2.2, by omega⟩

