/-! The steps of the reference, one by one. -/
theorem S_18_t78 {t0 : Mm} {n t : Nat} {r : List It} (H : Hp t0 (18, n, t) r) {E : Mm → Prop} (hk0 : lo t0 (m_at t0) = 78) : Ok (Qh (mz t0 ((18, n, t) :: r))) E (b_X6_step 18 n t t0) := by
  obtain ⟨hK, hT, hc, hw0, ha, hC, hS, hJ, hdp, hdl, hrw, hmd, htd, hln, hm16, hI, hD, hTt⟩ := Hp_out H
  have C_t0 := hC n
  have F0 := C_t0.2.1
  have I_n_t0 : Nq t0 n := ⟨(hI.2.1 rfl).1, (hI.2.1 rfl).2.1, (hI.2.1 rfl).2.2, hI.2.2.2 rfl⟩
  have m_n_t0 := I_n_t0.1
  have ht : t < 4096 := hI.1.1 (show 18 ≠ 42 by decide) (show 18 ≠ 48 by decide)
  have hdp : m_dp t0 = dlt 18 + sD r := hdp
  have hrw : m_rw t0 = rho 18 + sR r := hrw
  have hmd : m_md t0 + mu7 18 + sM r ≤ 3 * m_at t0 + 7 * r.length + 17 := hmd
  have hand : t &&& 1 ≤ 1 := Nat.and_le_right
  have h01 : (0 &&& 1 : Nat) = 0 := rfl
  have h02 : (1 : Nat) * 256 = 256 := rfl
  have hq1 : dlt 18 = 0 := rfl
  have hq2 : rho 18 = 0 := rfl
  have hq3 : mu7 18 = 5 := rfl
  unfold b_X6_step
  refine Ok_ifl (by decide) (by decide) (fun _ => ?_) (fun q => absurd (by decide) q)
  refine Ok_ifl (by decide) (by decide) (fun q => absurd q (by decide)) (fun _ => ?_)
  refine Ok_ifl (by decide) (by decide) (fun _ => ?_) (fun q => absurd (by decide) q)
  refine Ok_bnc ?_
  try unfold b_X6_typing
  refine Ok_ck (by decide) ?_
  refine Ok_ife (by decide) (by decide) (fun _ => ?_) (fun q => absurd (by decide) q)
  refine Ok_bnc ?_
  try unfold b_X6_type
  refine Kp_look C_t0 hT (by omega) ?_
  refine Ok_ife (Nat.lt_trans (lo_lt (C_t0.tk hT) _) (by decide)) (by decide) (fun q => absurd (hk0.symm.trans q) (by decide)) (fun _ => ?_)
  refine Ok_ck (Nat.lt_trans (lo_lt (C_t0.tk hT) _) (by decide)) ?_
  refine Ok_ifz (f6_beginsType _) (fun q => absurd q (by rw [hk0]; decide)) (fun q => ?_)
  refine Kp_more C_t0 (by omega) (by omega) (fun t3 C_t3 X_t3 a_t3 b_t3 d_t3 w_t3 u_t3 v_t3 j_t3 l_t3 => ?_)
  have e_t3 := C_t3.2.2.2.1
  rcases w_t3 with ⟨w_t3, y_t3⟩ | ⟨w_t3, wb_t3⟩
  · rw [d_t3] at y_t3
    have I_n_t3 := I_n_t0.flat X_t3
    refine Kp_push C_t3 (by omega) (fun t4 C_t4 X_t4 a_t4 b_t4 d_t4 w_t4 u_t4 v_t4 j_t4 l_t4 => ?_)
    have e_t4 := C_t4.2.2.2.1
    rw [a_t3] at a_t4
    rw [b_t3] at b_t4
    rw [d_t3] at d_t4
    rw [w_t3] at w_t4
    rw [u_t3] at u_t4
    rw [v_t3] at v_t4
    clear d_t3 w_t3 u_t3 v_t3 e_t3 a_t3 b_t3
    have I_n_t4 := I_n_t3.flat X_t4
    refine Ok_ife (Nat.lt_trans (lo_lt (C_t0.tk hT) _) (by decide)) (by decide) (fun q => ?_) (fun q => absurd hk0 q)
    have z_t5 : m_at t4 < m_ct t4 := lo_ne (Nat.ne_of_gt (show 0 < lo t4 (m_at t4) from by omega))
    refine Kp_at C_t4 (fun t5 C_t5 X_t5 a_t5 b_t5 d_t5 w_t5 u_t5 v_t5 j_t5 l_t5 => ?_)
    have e_t5 := C_t5.2.2.2.1
    rw [a_t4] at a_t5
    rw [b_t4] at b_t5
    rw [d_t4] at d_t5
    rw [w_t4] at w_t5
    rw [u_t4] at u_t5
    rw [v_t4] at v_t5
    rw [a_t4, e_t4] at z_t5
    clear d_t4 w_t4 u_t4 v_t4 e_t4 a_t4 b_t4
    have I_n_t5 := I_n_t4.flat X_t5
    refine Kp_push C_t5 (by omega) (fun t6 C_t6 X_t6 a_t6 b_t6 d_t6 w_t6 u_t6 v_t6 j_t6 l_t6 => ?_)
    have e_t6 := C_t6.2.2.2.1
    rw [a_t5] at a_t6
    rw [b_t5] at b_t6
    rw [d_t5] at d_t6
    rw [w_t5] at w_t6
    rw [u_t5] at u_t6
    rw [v_t5] at v_t6
    clear d_t5 w_t5 u_t5 v_t5 e_t5 a_t5 b_t5
    have I_n_t6 := I_n_t5.flat X_t6
    refine Kp_push C_t6 (by omega) (fun t7 C_t7 X_t7 a_t7 b_t7 d_t7 w_t7 u_t7 v_t7 j_t7 l_t7 => ?_)
    have e_t7 := C_t7.2.2.2.1
    rw [a_t6] at a_t7
    rw [b_t6] at b_t7
    rw [d_t6] at d_t7
    rw [w_t6] at w_t7
    rw [u_t6] at u_t7
    rw [v_t6] at v_t7
    clear d_t6 w_t6 u_t6 v_t6 e_t6 a_t6 b_t6
    have I_n_t7 := I_n_t6.flat X_t7
    refine Ok_ret (show Ok _ _ _ from ?_)
    refine Ok_ret (show Ok _ _ _ from ?_)
    refine Hv_mk (Kv_c (x := (18, n, 0)) rfl (Kv_c (x := (7, 79, 0)) rfl (Kv_c (x := (6, n, 0)) rfl hK))) (C_t7.1.2.2.2.2.2.2 hTt) C_t7 hT (by omega) (by omega) (by omega) ?_ ?_ ?_ (by omega) ?_ ?_ ?_
    · exact ⟨(Io_n (by decide) (by decide) I_n_t7.1 I_n_t7.2.1 I_n_t7.2.2.1 (fun q => absurd q (by decide)) (fun q => absurd q (by decide)) I_n_t7.2.2.2), (Nd_0 (by decide) Mo_nil), ⟨(Io_78 (by decide) (by decide) (by decide)), (Nd_x (by decide)), ⟨(Io_6 (by decide)), (Nd_x (by decide)), Stk_step (N := n) (pop := (18, n, t)) (new := [(6, n, 0), (7, 79, 0), (18, n, 0)]) F0 C_t7.1.to2 (fun (h : nk 18 = false) => absurd h (by decide)) (fun q _ h => h (18, n, t) rfl) (fun _ => rfl) (fun y hy hk => ⟨rfl, (Mo_cons (fun q => absurd (show nk 6 = true from q) (by decide)) (Mo_cons (fun q => absurd (show nk 7 = true from q) (by decide)) (Mo_cons (fun q => show n ≤ n from by omega) Mo_nil))) y hy hk⟩) (fun _ => Or.inr ⟨(18, n, 0), (List.mem_cons_of_mem _ (List.mem_cons_of_mem _ List.mem_cons_self)), rfl, Or.inr (Or.inl rfl)⟩) (fun _ => (Or.inl ⟨0, rfl⟩)) (fun (h : 18 = 41 ∨ 18 = 42 ∨ 18 = 43) => absurd h (by decide)) r [] (fun y hy => absurd hy List.not_mem_nil) hS⟩⟩⟩
    · exact (Aj_up (x := (18, n, 0)) (Aj_up (x := (7, 79, 0)) (Aj_sub (y := (6, n, 0)) hJ (Nat.zero_le _)) (Or.inl (Nat.le_of_ble_eq_true rfl))) (Or.inr (Nat.le_of_ble_eq_true rfl)))
    · show m_dp t7 = (dlt 18 + (dlt 7 + (dlt 6 + sD r)))
      have : dlt 18 = 0 := rfl; have : dlt 6 = 1 := rfl; have : dlt 7 = 0 := rfl; omega
    · show m_rw t7 = (rho 18 + (rho 7 + (rho 6 + sR r)))
      have : rho 18 = 0 := rfl; have : rho 6 = 0 := rfl; have : rho 7 = 0 := rfl; omega
    · show m_md t7 + (mu7 18 + (mu7 7 + (mu7 6 + sM r))) ≤ 3 * m_at t7 + 7 * (r.length + 1 + 1 + 1) + 10
      have : mu7 18 = 5 := rfl; have : mu7 6 = 7 := rfl; have : mu7 7 = 4 := rfl; omega
    · show (wt 18 + (wt 7 + (wt 6 + sW r))) + 6 * (4096 - m_at t7) + 4 * (600 - (r.length + 1 + 1 + 1)) < (wt 18 + sW r) + 6 * (4096 - m_at t0) + 4 * (600 - (r.length + 1))
      have : wt 18 = 0 := rfl; have : wt 6 = 5 := rfl; have : wt 7 = 0 := rfl; omega
  · have w_t3 := Nat.pos_of_ne_zero w_t3
    have I_n_t3 := I_n_t0.flat X_t3
    refine Kp_push C_t3 (by omega) (fun t8 C_t8 X_t8 a_t8 b_t8 d_t8 w_t8 u_t8 v_t8 j_t8 l_t8 => ?_)
    have e_t8 := C_t8.2.2.2.1
    have I_n_t8 := I_n_t3.flat X_t8
    refine Ok_ife (Nat.lt_trans (lo_lt (C_t0.tk hT) _) (by decide)) (by decide) (fun q => ?_) (fun q => absurd hk0 q)
    refine Kp_at C_t8 (fun t9 C_t9 X_t9 a_t9 b_t9 d_t9 w_t9 u_t9 v_t9 j_t9 l_t9 => ?_)
    have e_t9 := C_t9.2.2.2.1
    have I_n_t9 := I_n_t8.flat X_t9
    refine Kp_push C_t9 (by omega) (fun t10 C_t10 X_t10 a_t10 b_t10 d_t10 w_t10 u_t10 v_t10 j_t10 l_t10 => ?_)
    have e_t10 := C_t10.2.2.2.1
    have I_n_t10 := I_n_t9.flat X_t10
    refine Kp_push C_t10 (by omega) (fun t11 C_t11 X_t11 a_t11 b_t11 d_t11 w_t11 u_t11 v_t11 j_t11 l_t11 => ?_)
    have e_t11 := C_t11.2.2.2.1
    have I_n_t11 := I_n_t10.flat X_t11
    refine Ok_ret (show Ok _ _ _ from ?_)
    refine Ok_ret (show Ok _ _ _ from ?_)
    exact Or.inl ⟨Nat.ne_of_gt (show 0 < m_wr t11 from by omega), by omega, by omega, C_t11.2.2.2.2.2, by omega⟩

theorem S_18_t80 {t0 : Mm} {n t : Nat} {r : List It} (H : Hp t0 (18, n, t) r) {E : Mm → Prop} (hk0 : lo t0 (m_at t0) = 80) : Ok (Qh (mz t0 ((18, n, t) :: r))) E (b_X6_step 18 n t t0) := by
  obtain ⟨hK, hT, hc, hw0, ha, hC, hS, hJ, hdp, hdl, hrw, hmd, htd, hln, hm16, hI, hD, hTt⟩ := Hp_out H
  have C_t0 := hC n
  have F0 := C_t0.2.1
  have I_n_t0 : Nq t0 n := ⟨(hI.2.1 rfl).1, (hI.2.1 rfl).2.1, (hI.2.1 rfl).2.2, hI.2.2.2 rfl⟩
  have m_n_t0 := I_n_t0.1
  have ht : t < 4096 := hI.1.1 (show 18 ≠ 42 by decide) (show 18 ≠ 48 by decide)
  have hdp : m_dp t0 = dlt 18 + sD r := hdp
  have hrw : m_rw t0 = rho 18 + sR r := hrw
  have hmd : m_md t0 + mu7 18 + sM r ≤ 3 * m_at t0 + 7 * r.length + 17 := hmd
  have hand : t &&& 1 ≤ 1 := Nat.and_le_right
  have h01 : (0 &&& 1 : Nat) = 0 := rfl
  have h02 : (1 : Nat) * 256 = 256 := rfl
  have hq1 : dlt 18 = 0 := rfl
  have hq2 : rho 18 = 0 := rfl
  have hq3 : mu7 18 = 5 := rfl
  unfold b_X6_step
  refine Ok_ifl (by decide) (by decide) (fun _ => ?_) (fun q => absurd (by decide) q)
  refine Ok_ifl (by decide) (by decide) (fun q => absurd q (by decide)) (fun _ => ?_)
  refine Ok_ifl (by decide) (by decide) (fun _ => ?_) (fun q => absurd (by decide) q)
  refine Ok_bnc ?_
  try unfold b_X6_typing
  refine Ok_ck (by decide) ?_
  refine Ok_ife (by decide) (by decide) (fun _ => ?_) (fun q => absurd (by decide) q)
  refine Ok_bnc ?_
  try unfold b_X6_type
  refine Kp_look C_t0 hT (by omega) ?_
  refine Ok_ife (Nat.lt_trans (lo_lt (C_t0.tk hT) _) (by decide)) (by decide) (fun q => absurd (hk0.symm.trans q) (by decide)) (fun _ => ?_)
  refine Ok_ck (Nat.lt_trans (lo_lt (C_t0.tk hT) _) (by decide)) ?_
  refine Ok_ifz (f6_beginsType _) (fun q => absurd q (by rw [hk0]; decide)) (fun q => ?_)
  refine Kp_more C_t0 (by omega) (by omega) (fun t3 C_t3 X_t3 a_t3 b_t3 d_t3 w_t3 u_t3 v_t3 j_t3 l_t3 => ?_)
  have e_t3 := C_t3.2.2.2.1
  rcases w_t3 with ⟨w_t3, y_t3⟩ | ⟨w_t3, wb_t3⟩
  · rw [d_t3] at y_t3
    have I_n_t3 := I_n_t0.flat X_t3
    refine Kp_push C_t3 (by omega) (fun t4 C_t4 X_t4 a_t4 b_t4 d_t4 w_t4 u_t4 v_t4 j_t4 l_t4 => ?_)
    have e_t4 := C_t4.2.2.2.1
    rw [a_t3] at a_t4
    rw [b_t3] at b_t4
    rw [d_t3] at d_t4
    rw [w_t3] at w_t4
    rw [u_t3] at u_t4
    rw [v_t3] at v_t4
    clear d_t3 w_t3 u_t3 v_t3 e_t3 a_t3 b_t3
    have I_n_t4 := I_n_t3.flat X_t4
    refine Ok_ife (Nat.lt_trans (lo_lt (C_t0.tk hT) _) (by decide)) (by decide) (fun q => absurd (hk0.symm.trans q) (by decide)) (fun _ => ?_)
    refine Ok_ife (Nat.lt_trans (lo_lt (C_t0.tk hT) _) (by decide)) (by decide) (fun q => ?_) (fun q => absurd hk0 q)
    refine Ok_bnc ?_
    try unfold b_X6_array
    refine Kp_child C_t4 I_n_t4.1 I_n_t4.2.1 I_n_t4.2.2.1 (by omega) (by omega) (by decide) (by decide) (fun t6 C_t6 X_t6 a_t6 b_t6 d_t6 w_t6 u_t6 v_t6 j_t6 l_t6 => ?_)
    have e_t6 := C_t6.2.2.2.1
    rw [a_t4] at a_t6
    rw [b_t4] at b_t6
    rw [d_t4] at d_t6
    rw [w_t4] at w_t6
    rw [u_t4] at u_t6
    rw [v_t4] at v_t6
    clear d_t4 w_t4 u_t4 v_t4 e_t4 a_t4
    have I_n_t6 := I_n_t4.chd X_t6 j_t6
    have f_n_t6 : Fz t6 n := j_t6.2.2.2.2.1
    have I_m_mdt4_t6 : Nq t6 (m_md t4) := Nq.chn j_t6 (by omega) I_n_t4 (by decide)
    have u_m_mdt4_t6 : Up t6 (m_md t4) := Or.inl j_t6.2.1
    have la_n_t6 : m_la t6 n = (m_md t4) + 1 := j_t6.2.2.2.2.2.1
    have wl_n_t6 : m_wh t6 (m_md t4) = 21 := j_t6.1
    have z_t7 : m_at t6 < m_ct t6 := lo_ne (Nat.ne_of_gt (show 0 < lo t6 (m_at t6) from by omega))
    refine Kp_at C_t6 (fun t7 C_t7 X_t7 a_t7 b_t7 d_t7 w_t7 u_t7 v_t7 j_t7 l_t7 => ?_)
    have e_t7 := C_t7.2.2.2.1
    rw [a_t6] at a_t7
    rw [b_t6] at b_t7
    rw [d_t6] at d_t7
    rw [w_t6] at w_t7
    rw [u_t6] at u_t7
    rw [v_t6] at v_t7
    rw [a_t6, e_t6] at z_t7
    clear d_t6 w_t6 u_t6 v_t6 e_t6 a_t6 b_t6
    have I_n_t7 := I_n_t6.flat X_t7
    have f_n_t7 := f_n_t6.ex I_n_t6 (X_t7 0)
    have I_m_mdt4_t7 := I_m_mdt4_t6.flat X_t7
    have u_m_mdt4_t7 := u_m_mdt4_t6.ex I_m_mdt4_t6 (X_t7 0)
    have la_n_t7 : m_la t7 n = (m_md t4) + 1 := by rw [j_t7.2.2.1]; exact la_n_t6
    have wl_n_t7 : m_wh t7 ((m_md t4)) = 21 := by rw [j_t7.1]; exact wl_n_t6
    clear la_n_t6 wl_n_t6
    refine Kp_look C_t7 hT (by omega) ?_
    refine Ok_ife (Nat.lt_trans (lo_lt (C_t7.tk hT) _) (by decide)) (by decide) (fun q8 => ?_) (fun q8 => ?_)
    · refine Ok_ck (show (m_md t4) < 65536 from by omega) ?_
      refine Kp_wh C_t7 (by decide) (by decide) (by decide) (by decide) (fun t9 C_t9 X_t9 a_t9 b_t9 d_t9 w_t9 u_t9 v_t9 j_t9 l_t9 => ?_)
      have e_t9 := C_t9.2.2.2.1
      rw [a_t7] at a_t9
      rw [b_t7] at b_t9
      rw [d_t7] at d_t9
      rw [w_t7] at w_t9
      rw [u_t7] at u_t9
      rw [v_t7] at v_t9
      clear d_t7 w_t7 u_t7 v_t7 e_t7 a_t7 b_t7
      have I_n_t9 := I_n_t7.flat X_t9
      have f_n_t9 := f_n_t7.ex I_n_t7 (X_t9 0)
      have I_m_mdt4_t9 := I_m_mdt4_t7.flat X_t9
      have u_m_mdt4_t9 := u_m_mdt4_t7.ex I_m_mdt4_t7 (X_t9 0)
      have la_n_t9 : m_la t9 n = (m_md t4) + 1 := by rw [j_t9.2.2.1]; exact la_n_t7
      have wl_n_t9 : m_wh t9 ((m_md t4)) = 20 := by rw [j_t9.1]; exact upN_at
      have z_t10 : m_at t9 < m_ct t9 := lo_ne (Nat.ne_of_gt (show 0 < lo t9 (m_at t9) from by omega))
      refine Kp_at C_t9 (fun t10 C_t10 X_t10 a_t10 b_t10 d_t10 w_t10 u_t10 v_t10 j_t10 l_t10 => ?_)
      have e_t10 := C_t10.2.2.2.1
      rw [a_t9] at a_t10
      rw [b_t9] at b_t10
      rw [d_t9] at d_t10
      rw [w_t9] at w_t10
      rw [u_t9] at u_t10
      rw [v_t9] at v_t10
      rw [a_t9, e_t9] at z_t10
      clear z_t7
      clear d_t9 w_t9 u_t9 v_t9 e_t9 a_t9 b_t9
      have I_n_t10 := I_n_t9.flat X_t10
      have f_n_t10 := f_n_t9.ex I_n_t9 (X_t10 0)
      have I_m_mdt4_t10 := I_m_mdt4_t9.flat X_t10
      have u_m_mdt4_t10 := u_m_mdt4_t9.ex I_m_mdt4_t9 (X_t10 0)
      have la_n_t10 : m_la t10 n = (m_md t4) + 1 := by rw [j_t10.2.2.1]; exact la_n_t9
      have wl_n_t10 : m_wh t10 ((m_md t4)) = 20 := by rw [j_t10.1]; exact wl_n_t9
      clear la_n_t9 wl_n_t9
      refine Kp_push C_t10 (by omega) (fun t11 C_t11 X_t11 a_t11 b_t11 d_t11 w_t11 u_t11 v_t11 j_t11 l_t11 => ?_)
      have e_t11 := C_t11.2.2.2.1
      rw [a_t10] at a_t11
      rw [b_t10] at b_t11
      rw [d_t10] at d_t11
      rw [w_t10] at w_t11
      rw [u_t10] at u_t11
      rw [v_t10] at v_t11
      clear d_t10 w_t10 u_t10 v_t10 e_t10 a_t10 b_t10
      have I_n_t11 := I_n_t10.flat X_t11
      have f_n_t11 := f_n_t10.ex I_n_t10 (X_t11 0)
      have I_m_mdt4_t11 := I_m_mdt4_t10.flat X_t11
      have u_m_mdt4_t11 := u_m_mdt4_t10.ex I_m_mdt4_t10 (X_t11 0)
      have la_n_t11 : m_la t11 n = (m_md t4) + 1 := by rw [j_t11.2.2.1]; exact la_n_t10
      have wl_n_t11 : m_wh t11 ((m_md t4)) = 20 := by rw [j_t11.1]; exact wl_n_t10
      clear la_n_t10 wl_n_t10
      refine Ok_ret (show Ok _ _ _ from ?_)
      refine Ok_ret (show Ok _ _ _ from ?_)
      refine Ok_ret (show Ok _ _ _ from ?_)
      refine Hv_mk (Kv_c (x := (18, m_md t4, 0)) rfl (Kv_c (x := (6, n, 0)) rfl hK)) (C_t11.1.2.2.2.2.2.2 hTt) C_t11 hT (by omega) (by omega) (by omega) ?_ ?_ ?_ (by omega) ?_ ?_ ?_
      · exact ⟨(Io_n (by decide) (by decide) I_m_mdt4_t11.1 I_m_mdt4_t11.2.1 I_m_mdt4_t11.2.2.1 (fun q => absurd q (by decide)) (fun q => absurd q (by decide)) I_m_mdt4_t11.2.2.2), (Nd_0 (by decide) Mo_nil), ⟨(Io_6 (by decide)), (Nd_x (by decide)), Stk_step (N := n) (pop := (18, n, t)) (new := [(6, n, 0), (18, m_md t4, 0)]) F0 C_t11.1.to2 (fun (h : nk 18 = false) => absurd h (by decide)) (fun q _ h => h (18, n, t) rfl) (fun _ => rfl) (fun y hy hk => ⟨rfl, (Mo_cons (fun q => absurd (show nk 6 = true from q) (by decide)) (Mo_cons (fun q => show n ≤ m_md t4 from by omega) Mo_nil)) y hy hk⟩) (fun _ => Or.inl f_n_t11) (fun _ => (Or.inr (N5_mk f_n_t11 (Ab_some (y := (18, m_md t4, 0)) rfl (show n < m_md t4 from by omega)) la_n_t11 wl_n_t11 (Or.inl (by decide))))) (fun (h : 18 = 41 ∨ 18 = 42 ∨ 18 = 43) => absurd h (by decide)) r [] (fun y hy => absurd hy List.not_mem_nil) hS⟩⟩
      · exact (Aj_up (x := (18, m_md t4, 0)) (Aj_sub (y := (6, n, 0)) hJ (Nat.zero_le _)) (Or.inl (Nat.le_of_ble_eq_true rfl)))
      · show m_dp t11 = (dlt 18 + (dlt 6 + sD r))
        have : dlt 18 = 0 := rfl; have : dlt 6 = 1 := rfl; omega
      · show m_rw t11 = (rho 18 + (rho 6 + sR r))
        have : rho 18 = 0 := rfl; have : rho 6 = 0 := rfl; omega
      · show m_md t11 + (mu7 18 + (mu7 6 + sM r)) ≤ 3 * m_at t11 + 7 * (r.length + 1 + 1) + 10
        have : mu7 18 = 5 := rfl; have : mu7 6 = 7 := rfl; omega
      · show (wt 18 + (wt 6 + sW r)) + 6 * (4096 - m_at t11) + 4 * (600 - (r.length + 1 + 1)) < (wt 18 + sW r) + 6 * (4096 - m_at t0) + 4 * (600 - (r.length + 1))
        have : wt 18 = 0 := rfl; have : wt 6 = 5 := rfl; omega
    · refine Kp_look C_t7 hT (by omega) ?_
      refine Ok_ife (Nat.lt_trans (lo_lt (C_t7.tk hT) _) (by decide)) (by decide) (fun q12 => ?_) (fun q12 => ?_)
      · refine Ok_ife (show t < 2147483648 from by omega) (by decide) (fun q13 => ?_) (fun q13 => ?_)
        · refine Kp_child C_t7 I_m_mdt4_t7.1 I_m_mdt4_t7.2.1 I_m_mdt4_t7.2.2.1 (by omega) (by omega) (by decide) (by decide) (fun t14 C_t14 X_t14 a_t14 b_t14 d_t14 w_t14 u_t14 v_t14 j_t14 l_t14 => ?_)
          have e_t14 := C_t14.2.2.2.1
          rw [a_t7] at a_t14
          rw [b_t7] at b_t14
          rw [d_t7] at d_t14
          rw [w_t7] at w_t14
          rw [u_t7] at u_t14
          rw [v_t7] at v_t14
          clear d_t7 w_t7 u_t7 v_t7 e_t7 a_t7
          have I_n_t14 := I_n_t7.chd X_t14 j_t14
          have f_n_t14 := f_n_t7.ex I_n_t7 (X_t14 0 (Nat.zero_le _))
          have I_m_mdt4_t14 := I_m_mdt4_t7.chd X_t14 j_t14
          have u_m_mdt4_t14 := u_m_mdt4_t7.ex I_m_mdt4_t7 (X_t14 0 (Nat.zero_le _))
          have la_n_t14 : m_la t14 n = (m_md t4) + 1 := by rw [(j_t14.2.2.2.2.2.2.2.1 n I_n_t7.1 (by omega)).1]; exact la_n_t7
          have wl_n_t14 : m_wh t14 ((m_md t4)) = 21 := by rw [(j_t14.2.2.2.2.2.2.1 ((m_md t4)) (by omega)).2]; exact wl_n_t7
          clear la_n_t7 wl_n_t7
          have f_m_mdt4_t14 : Fz t14 (m_md t4) := j_t14.2.2.2.2.1
          have I_m_mdt7_t14 : Nq t14 (m_md t7) := Nq.chn j_t14 (by omega) I_m_mdt4_t7 (by decide)
          have u_m_mdt7_t14 : Up t14 (m_md t7) := Or.inl j_t14.2.1
          have la_m_mdt4_t14 : m_la t14 (m_md t4) = (m_md t7) + 1 := j_t14.2.2.2.2.2.1
          have wl_m_mdt4_t14 : m_wh t14 (m_md t7) = 17 := j_t14.1
          have z_t15 : m_at t14 < m_ct t14 := lo_ne (Nat.ne_of_gt (show 0 < lo t14 (m_at t14) from by omega))
          refine Kp_at C_t14 (fun t15 C_t15 X_t15 a_t15 b_t15 d_t15 w_t15 u_t15 v_t15 j_t15 l_t15 => ?_)
          have e_t15 := C_t15.2.2.2.1
          rw [a_t14] at a_t15
          rw [b_t14] at b_t15
          rw [d_t14] at d_t15
          rw [w_t14] at w_t15
          rw [u_t14] at u_t15
          rw [v_t14] at v_t15
          rw [a_t14, e_t14] at z_t15
          clear z_t7
          clear d_t14 w_t14 u_t14 v_t14 e_t14 a_t14 b_t14
          have I_n_t15 := I_n_t14.flat X_t15
          have f_n_t15 := f_n_t14.ex I_n_t14 (X_t15 0)
          have I_m_mdt4_t15 := I_m_mdt4_t14.flat X_t15
          have f_m_mdt4_t15 := f_m_mdt4_t14.ex I_m_mdt4_t14 (X_t15 0)
          have u_m_mdt4_t15 := u_m_mdt4_t14.ex I_m_mdt4_t14 (X_t15 0)
          have I_m_mdt7_t15 := I_m_mdt7_t14.flat X_t15
          have u_m_mdt7_t15 := u_m_mdt7_t14.ex I_m_mdt7_t14 (X_t15 0)
          have la_n_t15 : m_la t15 n = (m_md t4) + 1 := by rw [j_t15.2.2.1]; exact la_n_t14
          have wl_n_t15 : m_wh t15 ((m_md t4)) = 21 := by rw [j_t15.1]; exact wl_n_t14
          clear la_n_t14 wl_n_t14
          have la_m_mdt4_t15 : m_la t15 (m_md t4) = (m_md t7) + 1 := by rw [j_t15.2.2.1]; exact la_m_mdt4_t14
          have wl_m_mdt4_t15 : m_wh t15 ((m_md t7)) = 17 := by rw [j_t15.1]; exact wl_m_mdt4_t14
          clear la_m_mdt4_t14 wl_m_mdt4_t14
          refine Kp_pass C_t15 hT (by omega) (by decide) (by omega) (fun t16 C_t16 X_t16 a_t16 b_t16 d_t16 w_t16 u_t16 v_t16 j_t16 l_t16 => ?_)
          have e_t16 := C_t16.2.2.2.1
          rcases w_t16 with ⟨w_t16, y_t16⟩ | ⟨w_t16, wb_t16⟩
          · have z_t16 : m_at t15 < m_ct t15 := lo_ne (Nat.ne_of_gt (show 0 < lo t15 (m_at t15) from by omega))
            rw [a_t15] at a_t16
            rw [b_t15] at b_t16
            rw [d_t15] at d_t16
            rw [w_t15] at w_t16
            rw [u_t15] at u_t16
            rw [v_t15] at v_t16
            rw [a_t15, e_t15] at z_t16
            clear z_t15
            clear d_t15 w_t15 u_t15 v_t15 e_t15 a_t15 b_t15
            have I_n_t16 := I_n_t15.flat X_t16
            have f_n_t16 := f_n_t15.ex I_n_t15 (X_t16 0)
            have I_m_mdt4_t16 := I_m_mdt4_t15.flat X_t16
            have f_m_mdt4_t16 := f_m_mdt4_t15.ex I_m_mdt4_t15 (X_t16 0)
            have u_m_mdt4_t16 := u_m_mdt4_t15.ex I_m_mdt4_t15 (X_t16 0)
            have I_m_mdt7_t16 := I_m_mdt7_t15.flat X_t16
            have u_m_mdt7_t16 := u_m_mdt7_t15.ex I_m_mdt7_t15 (X_t16 0)
            have la_n_t16 : m_la t16 n = (m_md t4) + 1 := by rw [j_t16.2.2.1]; exact la_n_t15
            have wl_n_t16 : m_wh t16 ((m_md t4)) = 21 := by rw [j_t16.1]; exact wl_n_t15
            clear la_n_t15 wl_n_t15
            have la_m_mdt4_t16 : m_la t16 (m_md t4) = (m_md t7) + 1 := by rw [j_t16.2.2.1]; exact la_m_mdt4_t15
            have wl_m_mdt4_t16 : m_wh t16 ((m_md t7)) = 17 := by rw [j_t16.1]; exact wl_m_mdt4_t15
            clear la_m_mdt4_t15 wl_m_mdt4_t15
            refine Kp_push C_t16 (by omega) (fun t17 C_t17 X_t17 a_t17 b_t17 d_t17 w_t17 u_t17 v_t17 j_t17 l_t17 => ?_)
            have e_t17 := C_t17.2.2.2.1
            rw [a_t16] at a_t17
            rw [b_t16] at b_t17
            rw [d_t16] at d_t17
            rw [w_t16] at w_t17
            rw [u_t16] at u_t17
            rw [v_t16] at v_t17
            clear d_t16 w_t16 u_t16 v_t16 e_t16 a_t16 b_t16
            have I_n_t17 := I_n_t16.flat X_t17
            have f_n_t17 := f_n_t16.ex I_n_t16 (X_t17 0)
            have I_m_mdt4_t17 := I_m_mdt4_t16.flat X_t17
            have f_m_mdt4_t17 := f_m_mdt4_t16.ex I_m_mdt4_t16 (X_t17 0)
            have u_m_mdt4_t17 := u_m_mdt4_t16.ex I_m_mdt4_t16 (X_t17 0)
            have I_m_mdt7_t17 := I_m_mdt7_t16.flat X_t17
            have u_m_mdt7_t17 := u_m_mdt7_t16.ex I_m_mdt7_t16 (X_t17 0)
            have la_n_t17 : m_la t17 n = (m_md t4) + 1 := by rw [j_t17.2.2.1]; exact la_n_t16
            have wl_n_t17 : m_wh t17 ((m_md t4)) = 21 := by rw [j_t17.1]; exact wl_n_t16
            clear la_n_t16 wl_n_t16
            have la_m_mdt4_t17 : m_la t17 (m_md t4) = (m_md t7) + 1 := by rw [j_t17.2.2.1]; exact la_m_mdt4_t16
            have wl_m_mdt4_t17 : m_wh t17 ((m_md t7)) = 17 := by rw [j_t17.1]; exact wl_m_mdt4_t16
            clear la_m_mdt4_t16 wl_m_mdt4_t16
            refine Ok_ret (show Ok _ _ _ from ?_)
            refine Ok_ret (show Ok _ _ _ from ?_)
            refine Ok_ret (show Ok _ _ _ from ?_)
            refine Hv_mk (Kv_c (x := (18, m_md t4, 0)) rfl (Kv_c (x := (6, n, 0)) rfl hK)) (C_t17.1.2.2.2.2.2.2 hTt) C_t17 hT (by omega) (by omega) (by omega) ?_ ?_ ?_ (by omega) ?_ ?_ ?_
            · exact ⟨(Io_n (by decide) (by decide) I_m_mdt4_t17.1 I_m_mdt4_t17.2.1 I_m_mdt4_t17.2.2.1 (fun q => absurd q (by decide)) (fun q => absurd q (by decide)) I_m_mdt4_t17.2.2.2), (Nd_0 (by decide) Mo_nil), ⟨(Io_6 (by decide)), (Nd_x (by decide)), Stk_step (N := n) (pop := (18, n, t)) (new := [(6, n, 0), (18, m_md t4, 0)]) F0 C_t17.1.to2 (fun (h : nk 18 = false) => absurd h (by decide)) (fun q _ h => h (18, n, t) rfl) (fun _ => rfl) (fun y hy hk => ⟨rfl, (Mo_cons (fun q => absurd (show nk 6 = true from q) (by decide)) (Mo_cons (fun q => show n ≤ m_md t4 from by omega) Mo_nil)) y hy hk⟩) (fun _ => Or.inl f_n_t17) (fun _ => (Or.inr (N5_mk f_n_t17 (Ab_some (y := (18, m_md t4, 0)) rfl (show n < m_md t4 from by omega)) la_n_t17 wl_n_t17 (Or.inr (Or.inr ⟨(18, m_md t4, 0), (List.mem_cons_of_mem _ List.mem_cons_self), rfl, Or.inr (Or.inl rfl)⟩))))) (fun (h : 18 = 41 ∨ 18 = 42 ∨ 18 = 43) => absurd h (by decide)) r [] (fun y hy => absurd hy List.not_mem_nil) hS⟩⟩
            · exact (Aj_up (x := (18, m_md t4, 0)) (Aj_sub (y := (6, n, 0)) hJ (Nat.zero_le _)) (Or.inl (Nat.le_of_ble_eq_true rfl)))
            · show m_dp t17 = (dlt 18 + (dlt 6 + sD r))
              have : dlt 18 = 0 := rfl; have : dlt 6 = 1 := rfl; omega
            · show m_rw t17 = (rho 18 + (rho 6 + sR r))
              have : rho 18 = 0 := rfl; have : rho 6 = 0 := rfl; omega
            · show m_md t17 + (mu7 18 + (mu7 6 + sM r)) ≤ 3 * m_at t17 + 7 * (r.length + 1 + 1) + 10
              have : mu7 18 = 5 := rfl; have : mu7 6 = 7 := rfl; omega
            · show (wt 18 + (wt 6 + sW r)) + 6 * (4096 - m_at t17) + 4 * (600 - (r.length + 1 + 1)) < (wt 18 + sW r) + 6 * (4096 - m_at t0) + 4 * (600 - (r.length + 1))
              have : wt 18 = 0 := rfl; have : wt 6 = 5 := rfl; omega
          · have w_t16 := Nat.pos_of_ne_zero w_t16
            have I_n_t16 := I_n_t15.flat X_t16
            have f_n_t16 := f_n_t15.ex I_n_t15 (X_t16 0)
            have I_m_mdt4_t16 := I_m_mdt4_t15.flat X_t16
            have f_m_mdt4_t16 := f_m_mdt4_t15.ex I_m_mdt4_t15 (X_t16 0)
            have u_m_mdt4_t16 := u_m_mdt4_t15.ex I_m_mdt4_t15 (X_t16 0)
            have I_m_mdt7_t16 := I_m_mdt7_t15.flat X_t16
            have u_m_mdt7_t16 := u_m_mdt7_t15.ex I_m_mdt7_t15 (X_t16 0)
            have la_n_t16 : m_la t16 n = (m_md t4) + 1 := by rw [j_t16.2.2.1]; exact la_n_t15
            have wl_n_t16 : m_wh t16 ((m_md t4)) = 21 := by rw [j_t16.1]; exact wl_n_t15
            clear la_n_t15 wl_n_t15
            have la_m_mdt4_t16 : m_la t16 (m_md t4) = (m_md t7) + 1 := by rw [j_t16.2.2.1]; exact la_m_mdt4_t15
            have wl_m_mdt4_t16 : m_wh t16 ((m_md t7)) = 17 := by rw [j_t16.1]; exact wl_m_mdt4_t15
            clear la_m_mdt4_t15 wl_m_mdt4_t15
            refine Kp_push C_t16 (by omega) (fun t18 C_t18 X_t18 a_t18 b_t18 d_t18 w_t18 u_t18 v_t18 j_t18 l_t18 => ?_)
            have e_t18 := C_t18.2.2.2.1
            have I_n_t18 := I_n_t16.flat X_t18
            have f_n_t18 := f_n_t16.ex I_n_t16 (X_t18 0)
            have I_m_mdt4_t18 := I_m_mdt4_t16.flat X_t18
            have f_m_mdt4_t18 := f_m_mdt4_t16.ex I_m_mdt4_t16 (X_t18 0)
            have u_m_mdt4_t18 := u_m_mdt4_t16.ex I_m_mdt4_t16 (X_t18 0)
            have I_m_mdt7_t18 := I_m_mdt7_t16.flat X_t18
            have u_m_mdt7_t18 := u_m_mdt7_t16.ex I_m_mdt7_t16 (X_t18 0)
            have la_n_t18 : m_la t18 n = (m_md t4) + 1 := by rw [j_t18.2.2.1]; exact la_n_t16
            have wl_n_t18 : m_wh t18 ((m_md t4)) = 21 := by rw [j_t18.1]; exact wl_n_t16
            clear la_n_t16 wl_n_t16
            have la_m_mdt4_t18 : m_la t18 (m_md t4) = (m_md t7) + 1 := by rw [j_t18.2.2.1]; exact la_m_mdt4_t16
            have wl_m_mdt4_t18 : m_wh t18 ((m_md t7)) = 17 := by rw [j_t18.1]; exact wl_m_mdt4_t16
            clear la_m_mdt4_t16 wl_m_mdt4_t16
            refine Ok_ret (show Ok _ _ _ from ?_)
            refine Ok_ret (show Ok _ _ _ from ?_)
            refine Ok_ret (show Ok _ _ _ from ?_)
            exact Or.inl ⟨Nat.ne_of_gt (show 0 < m_wr t18 from by omega), by omega, by omega, C_t18.2.2.2.2.2, by omega⟩
        · refine Kp_push C_t7 (by omega) (fun t19 C_t19 X_t19 a_t19 b_t19 d_t19 w_t19 u_t19 v_t19 j_t19 l_t19 => ?_)
          have e_t19 := C_t19.2.2.2.1
          rw [a_t7] at a_t19
          rw [b_t7] at b_t19
          rw [d_t7] at d_t19
          rw [w_t7] at w_t19
          rw [u_t7] at u_t19
          rw [v_t7] at v_t19
          clear d_t7 w_t7 u_t7 v_t7 e_t7 a_t7 b_t7
          have I_n_t19 := I_n_t7.flat X_t19
          have f_n_t19 := f_n_t7.ex I_n_t7 (X_t19 0)
          have I_m_mdt4_t19 := I_m_mdt4_t7.flat X_t19
          have u_m_mdt4_t19 := u_m_mdt4_t7.ex I_m_mdt4_t7 (X_t19 0)
          have la_n_t19 : m_la t19 n = (m_md t4) + 1 := by rw [j_t19.2.2.1]; exact la_n_t7
          have wl_n_t19 : m_wh t19 ((m_md t4)) = 21 := by rw [j_t19.1]; exact wl_n_t7
          clear la_n_t7 wl_n_t7
          refine Kp_push C_t19 (by omega) (fun t20 C_t20 X_t20 a_t20 b_t20 d_t20 w_t20 u_t20 v_t20 j_t20 l_t20 => ?_)
          have e_t20 := C_t20.2.2.2.1
          rw [a_t19] at a_t20
          rw [b_t19] at b_t20
          rw [d_t19] at d_t20
          rw [w_t19] at w_t20
          rw [u_t19] at u_t20
          rw [v_t19] at v_t20
          clear d_t19 w_t19 u_t19 v_t19 e_t19 a_t19 b_t19
          have I_n_t20 := I_n_t19.flat X_t20
          have f_n_t20 := f_n_t19.ex I_n_t19 (X_t20 0)
          have I_m_mdt4_t20 := I_m_mdt4_t19.flat X_t20
          have u_m_mdt4_t20 := u_m_mdt4_t19.ex I_m_mdt4_t19 (X_t20 0)
          have la_n_t20 : m_la t20 n = (m_md t4) + 1 := by rw [j_t20.2.2.1]; exact la_n_t19
          have wl_n_t20 : m_wh t20 ((m_md t4)) = 21 := by rw [j_t20.1]; exact wl_n_t19
          clear la_n_t19 wl_n_t19
          refine Ok_bnc ?_
          try unfold b_X6_expression
          refine Kp_push C_t20 (by omega) (fun t22 C_t22 X_t22 a_t22 b_t22 d_t22 w_t22 u_t22 v_t22 j_t22 l_t22 => ?_)
          have e_t22 := C_t22.2.2.2.1
          rw [a_t20] at a_t22
          rw [b_t20] at b_t22
          rw [d_t20] at d_t22
          rw [w_t20] at w_t22
          rw [u_t20] at u_t22
          rw [v_t20] at v_t22
          clear d_t20 w_t20 u_t20 v_t20 e_t20 a_t20 b_t20
          have I_n_t22 := I_n_t20.flat X_t22
          have f_n_t22 := f_n_t20.ex I_n_t20 (X_t22 0)
          have I_m_mdt4_t22 := I_m_mdt4_t20.flat X_t22
          have u_m_mdt4_t22 := u_m_mdt4_t20.ex I_m_mdt4_t20 (X_t22 0)
          have la_n_t22 : m_la t22 n = (m_md t4) + 1 := by rw [j_t22.2.2.1]; exact la_n_t20
          have wl_n_t22 : m_wh t22 ((m_md t4)) = 21 := by rw [j_t22.1]; exact wl_n_t20
          clear la_n_t20 wl_n_t20
          refine Kp_push C_t22 (by omega) (fun t23 C_t23 X_t23 a_t23 b_t23 d_t23 w_t23 u_t23 v_t23 j_t23 l_t23 => ?_)
          have e_t23 := C_t23.2.2.2.1
          rw [a_t22] at a_t23
          rw [b_t22] at b_t23
          rw [d_t22] at d_t23
          rw [w_t22] at w_t23
          rw [u_t22] at u_t23
          rw [v_t22] at v_t23
          clear d_t22 w_t22 u_t22 v_t22 e_t22 a_t22 b_t22
          have I_n_t23 := I_n_t22.flat X_t23
          have f_n_t23 := f_n_t22.ex I_n_t22 (X_t23 0)
          have I_m_mdt4_t23 := I_m_mdt4_t22.flat X_t23
          have u_m_mdt4_t23 := u_m_mdt4_t22.ex I_m_mdt4_t22 (X_t23 0)
          have la_n_t23 : m_la t23 n = (m_md t4) + 1 := by rw [j_t23.2.2.1]; exact la_n_t22
          have wl_n_t23 : m_wh t23 ((m_md t4)) = 21 := by rw [j_t23.1]; exact wl_n_t22
          clear la_n_t22 wl_n_t22
          refine Ok_ret (show Ok _ _ _ from ?_)
          refine Ok_ret (show Ok _ _ _ from ?_)
          refine Ok_ret (show Ok _ _ _ from ?_)
          refine Ok_ret (show Ok _ _ _ from ?_)
          refine Hv_mk (Kv_c (x := (3, m_md t4, 0)) rfl (Kv_c (x := (2, m_md t4, 0 ||| (1 * 256))) rfl (Kv_c (x := (7, 81, 0)) rfl (Kv_c (x := (18, m_md t4, 0)) rfl (Kv_c (x := (6, n, 0)) rfl hK))))) (C_t23.1.2.2.2.2.2.2 hTt) C_t23 hT (by omega) (by omega) (by omega) ?_ ?_ ?_ (by omega) ?_ ?_ ?_
          · exact ⟨(Io_n (by decide) (by decide) I_m_mdt4_t23.1 I_m_mdt4_t23.2.1 I_m_mdt4_t23.2.2.1 (fun q => absurd q (by decide)) (fun q => absurd q (by decide)) I_m_mdt4_t23.2.2.2), (Nd_0 (by decide) Mo_nil), ⟨(Io_2 (by have := or_256 (b := 1) (show 0 < 256 from by omega); omega) (by have := or_256 (b := 1) (show 0 < 256 from by omega); omega) (by have := or_256 (b := 1) (show 0 < 256 from by omega); omega) I_m_mdt4_t23.1 I_m_mdt4_t23.2.1 I_m_mdt4_t23.2.2.1 I_m_mdt4_t23.2.2.2), (Nd_A (by decide) (Mo_cons (fun q => show m_md t4 ≤ m_md t4 from by omega) Mo_nil) (Or.inr ⟨(3, m_md t4, 0), List.mem_cons_self, rfl, Or.inl rfl⟩)), ⟨(Io_78 (by decide) (by decide) (by decide)), (Nd_x (by decide)), ⟨(Io_n (by decide) (by decide) I_m_mdt4_t23.1 I_m_mdt4_t23.2.1 I_m_mdt4_t23.2.2.1 (fun q => absurd q (by decide)) (fun q => absurd q (by decide)) I_m_mdt4_t23.2.2.2), (Nd_0 (by decide) (Mo_cons (fun q => absurd (show nk 7 = true from q) (by decide)) (Mo_cons (fun q => show m_md t4 ≤ m_md t4 from by omega) (Mo_cons (fun q => show m_md t4 ≤ m_md t4 from by omega) Mo_nil)))), ⟨(Io_6 (by decide)), (Nd_x (by decide)), Stk_step (N := n) (pop := (18, n, t)) (new := [(6, n, 0), (18, m_md t4, 0), (7, 81, 0), (2, m_md t4, 0 ||| (1 * 256)), (3, m_md t4, 0)]) F0 C_t23.1.to2 (fun (h : nk 18 = false) => absurd h (by decide)) (fun q _ h => h (18, n, t) rfl) (fun _ => rfl) (fun y hy hk => ⟨rfl, (Mo_cons (fun q => absurd (show nk 6 = true from q) (by decide)) (Mo_cons (fun q => show n ≤ m_md t4 from by omega) (Mo_cons (fun q => absurd (show nk 7 = true from q) (by decide)) (Mo_cons (fun q => show n ≤ m_md t4 from by omega) (Mo_cons (fun q => show n ≤ m_md t4 from by omega) Mo_nil))))) y hy hk⟩) (fun _ => Or.inl f_n_t23) (fun _ => (Or.inr (N5_mk f_n_t23 (Ab_some (y := (18, m_md t4, 0)) rfl (show n < m_md t4 from by omega)) la_n_t23 wl_n_t23 (Or.inr (Or.inr ⟨(18, m_md t4, 0), (List.mem_cons_of_mem _ List.mem_cons_self), rfl, Or.inr (Or.inl rfl)⟩))))) (fun (h : 18 = 41 ∨ 18 = 42 ∨ 18 = 43) => absurd h (by decide)) r [] (fun y hy => absurd hy List.not_mem_nil) hS⟩⟩⟩⟩⟩
          · exact (Aj_up (x := (3, m_md t4, 0)) (Aj_up (x := (2, m_md t4, 0 ||| (1 * 256))) (Aj_up (x := (7, 81, 0)) (Aj_up (x := (18, m_md t4, 0)) (Aj_sub (y := (6, n, 0)) hJ (Nat.zero_le _)) (Or.inl (Nat.le_of_ble_eq_true rfl))) (Or.inr (Nat.le_of_ble_eq_true rfl))) (Or.inr (show 9 - (0 ||| (1 * 256)) / 256 < 9 from by have := or_256 (b := 1) (show 0 < 256 from by omega); omega))) (Or.inr (show 2 < 9 - (0 ||| (1 * 256)) / 256 from by have := or_256 (b := 1) (show 0 < 256 from by omega); omega)))
          · show m_dp t23 = (dlt 3 + (dlt 2 + (dlt 7 + (dlt 18 + (dlt 6 + sD r)))))
            have : dlt 18 = 0 := rfl; have : dlt 2 = 0 := rfl; have : dlt 3 = 0 := rfl; have : dlt 6 = 1 := rfl; have : dlt 7 = 0 := rfl; omega
          · show m_rw t23 = (rho 3 + (rho 2 + (rho 7 + (rho 18 + (rho 6 + sR r)))))
            have : rho 18 = 0 := rfl; have : rho 2 = 0 := rfl; have : rho 3 = 0 := rfl; have : rho 6 = 0 := rfl; have : rho 7 = 0 := rfl; omega
          · show m_md t23 + (mu7 3 + (mu7 2 + (mu7 7 + (mu7 18 + (mu7 6 + sM r))))) ≤ 3 * m_at t23 + 7 * (r.length + 1 + 1 + 1 + 1 + 1) + 10
            have : mu7 18 = 5 := rfl; have : mu7 2 = 7 := rfl; have : mu7 3 = 5 := rfl; have : mu7 6 = 7 := rfl; have : mu7 7 = 4 := rfl; omega
          · show (wt 3 + (wt 2 + (wt 7 + (wt 18 + (wt 6 + sW r))))) + 6 * (4096 - m_at t23) + 4 * (600 - (r.length + 1 + 1 + 1 + 1 + 1)) < (wt 18 + sW r) + 6 * (4096 - m_at t0) + 4 * (600 - (r.length + 1))
            have : wt 18 = 0 := rfl; have : wt 2 = 5 := rfl; have : wt 3 = 3 := rfl; have : wt 6 = 5 := rfl; have : wt 7 = 0 := rfl; omega
      · refine Kp_push C_t7 (by omega) (fun t24 C_t24 X_t24 a_t24 b_t24 d_t24 w_t24 u_t24 v_t24 j_t24 l_t24 => ?_)
        have e_t24 := C_t24.2.2.2.1
        rw [a_t7] at a_t24
        rw [b_t7] at b_t24
        rw [d_t7] at d_t24
        rw [w_t7] at w_t24
        rw [u_t7] at u_t24
        rw [v_t7] at v_t24
        clear d_t7 w_t7 u_t7 v_t7 e_t7 a_t7 b_t7
        have I_n_t24 := I_n_t7.flat X_t24
        have f_n_t24 := f_n_t7.ex I_n_t7 (X_t24 0)
        have I_m_mdt4_t24 := I_m_mdt4_t7.flat X_t24
        have u_m_mdt4_t24 := u_m_mdt4_t7.ex I_m_mdt4_t7 (X_t24 0)
        have la_n_t24 : m_la t24 n = (m_md t4) + 1 := by rw [j_t24.2.2.1]; exact la_n_t7
        have wl_n_t24 : m_wh t24 ((m_md t4)) = 21 := by rw [j_t24.1]; exact wl_n_t7
        clear la_n_t7 wl_n_t7
        refine Kp_push C_t24 (by omega) (fun t25 C_t25 X_t25 a_t25 b_t25 d_t25 w_t25 u_t25 v_t25 j_t25 l_t25 => ?_)
        have e_t25 := C_t25.2.2.2.1
        rw [a_t24] at a_t25
        rw [b_t24] at b_t25
        rw [d_t24] at d_t25
        rw [w_t24] at w_t25
        rw [u_t24] at u_t25
        rw [v_t24] at v_t25
        clear d_t24 w_t24 u_t24 v_t24 e_t24 a_t24 b_t24
        have I_n_t25 := I_n_t24.flat X_t25
        have f_n_t25 := f_n_t24.ex I_n_t24 (X_t25 0)
        have I_m_mdt4_t25 := I_m_mdt4_t24.flat X_t25
        have u_m_mdt4_t25 := u_m_mdt4_t24.ex I_m_mdt4_t24 (X_t25 0)
        have la_n_t25 : m_la t25 n = (m_md t4) + 1 := by rw [j_t25.2.2.1]; exact la_n_t24
        have wl_n_t25 : m_wh t25 ((m_md t4)) = 21 := by rw [j_t25.1]; exact wl_n_t24
        clear la_n_t24 wl_n_t24
        refine Ok_bnc ?_
        try unfold b_X6_expression
        refine Kp_push C_t25 (by omega) (fun t27 C_t27 X_t27 a_t27 b_t27 d_t27 w_t27 u_t27 v_t27 j_t27 l_t27 => ?_)
        have e_t27 := C_t27.2.2.2.1
        rw [a_t25] at a_t27
        rw [b_t25] at b_t27
        rw [d_t25] at d_t27
        rw [w_t25] at w_t27
        rw [u_t25] at u_t27
        rw [v_t25] at v_t27
        clear d_t25 w_t25 u_t25 v_t25 e_t25 a_t25 b_t25
        have I_n_t27 := I_n_t25.flat X_t27
        have f_n_t27 := f_n_t25.ex I_n_t25 (X_t27 0)
        have I_m_mdt4_t27 := I_m_mdt4_t25.flat X_t27
        have u_m_mdt4_t27 := u_m_mdt4_t25.ex I_m_mdt4_t25 (X_t27 0)
        have la_n_t27 : m_la t27 n = (m_md t4) + 1 := by rw [j_t27.2.2.1]; exact la_n_t25
        have wl_n_t27 : m_wh t27 ((m_md t4)) = 21 := by rw [j_t27.1]; exact wl_n_t25
        clear la_n_t25 wl_n_t25
        refine Kp_push C_t27 (by omega) (fun t28 C_t28 X_t28 a_t28 b_t28 d_t28 w_t28 u_t28 v_t28 j_t28 l_t28 => ?_)
        have e_t28 := C_t28.2.2.2.1
        rw [a_t27] at a_t28
        rw [b_t27] at b_t28
        rw [d_t27] at d_t28
        rw [w_t27] at w_t28
        rw [u_t27] at u_t28
        rw [v_t27] at v_t28
        clear d_t27 w_t27 u_t27 v_t27 e_t27 a_t27 b_t27
        have I_n_t28 := I_n_t27.flat X_t28
        have f_n_t28 := f_n_t27.ex I_n_t27 (X_t28 0)
        have I_m_mdt4_t28 := I_m_mdt4_t27.flat X_t28
        have u_m_mdt4_t28 := u_m_mdt4_t27.ex I_m_mdt4_t27 (X_t28 0)
        have la_n_t28 : m_la t28 n = (m_md t4) + 1 := by rw [j_t28.2.2.1]; exact la_n_t27
        have wl_n_t28 : m_wh t28 ((m_md t4)) = 21 := by rw [j_t28.1]; exact wl_n_t27
        clear la_n_t27 wl_n_t27
        refine Ok_ret (show Ok _ _ _ from ?_)
        refine Ok_ret (show Ok _ _ _ from ?_)
        refine Ok_ret (show Ok _ _ _ from ?_)
        refine Ok_ret (show Ok _ _ _ from ?_)
        refine Hv_mk (Kv_c (x := (3, m_md t4, 0)) rfl (Kv_c (x := (2, m_md t4, 0 ||| (1 * 256))) rfl (Kv_c (x := (7, 81, 0)) rfl (Kv_c (x := (18, m_md t4, 0)) rfl (Kv_c (x := (6, n, 0)) rfl hK))))) (C_t28.1.2.2.2.2.2.2 hTt) C_t28 hT (by omega) (by omega) (by omega) ?_ ?_ ?_ (by omega) ?_ ?_ ?_
        · exact ⟨(Io_n (by decide) (by decide) I_m_mdt4_t28.1 I_m_mdt4_t28.2.1 I_m_mdt4_t28.2.2.1 (fun q => absurd q (by decide)) (fun q => absurd q (by decide)) I_m_mdt4_t28.2.2.2), (Nd_0 (by decide) Mo_nil), ⟨(Io_2 (by have := or_256 (b := 1) (show 0 < 256 from by omega); omega) (by have := or_256 (b := 1) (show 0 < 256 from by omega); omega) (by have := or_256 (b := 1) (show 0 < 256 from by omega); omega) I_m_mdt4_t28.1 I_m_mdt4_t28.2.1 I_m_mdt4_t28.2.2.1 I_m_mdt4_t28.2.2.2), (Nd_A (by decide) (Mo_cons (fun q => show m_md t4 ≤ m_md t4 from by omega) Mo_nil) (Or.inr ⟨(3, m_md t4, 0), List.mem_cons_self, rfl, Or.inl rfl⟩)), ⟨(Io_78 (by decide) (by decide) (by decide)), (Nd_x (by decide)), ⟨(Io_n (by decide) (by decide) I_m_mdt4_t28.1 I_m_mdt4_t28.2.1 I_m_mdt4_t28.2.2.1 (fun q => absurd q (by decide)) (fun q => absurd q (by decide)) I_m_mdt4_t28.2.2.2), (Nd_0 (by decide) (Mo_cons (fun q => absurd (show nk 7 = true from q) (by decide)) (Mo_cons (fun q => show m_md t4 ≤ m_md t4 from by omega) (Mo_cons (fun q => show m_md t4 ≤ m_md t4 from by omega) Mo_nil)))), ⟨(Io_6 (by decide)), (Nd_x (by decide)), Stk_step (N := n) (pop := (18, n, t)) (new := [(6, n, 0), (18, m_md t4, 0), (7, 81, 0), (2, m_md t4, 0 ||| (1 * 256)), (3, m_md t4, 0)]) F0 C_t28.1.to2 (fun (h : nk 18 = false) => absurd h (by decide)) (fun q _ h => h (18, n, t) rfl) (fun _ => rfl) (fun y hy hk => ⟨rfl, (Mo_cons (fun q => absurd (show nk 6 = true from q) (by decide)) (Mo_cons (fun q => show n ≤ m_md t4 from by omega) (Mo_cons (fun q => absurd (show nk 7 = true from q) (by decide)) (Mo_cons (fun q => show n ≤ m_md t4 from by omega) (Mo_cons (fun q => show n ≤ m_md t4 from by omega) Mo_nil))))) y hy hk⟩) (fun _ => Or.inl f_n_t28) (fun _ => (Or.inr (N5_mk f_n_t28 (Ab_some (y := (18, m_md t4, 0)) rfl (show n < m_md t4 from by omega)) la_n_t28 wl_n_t28 (Or.inr (Or.inr ⟨(18, m_md t4, 0), (List.mem_cons_of_mem _ List.mem_cons_self), rfl, Or.inr (Or.inl rfl)⟩))))) (fun (h : 18 = 41 ∨ 18 = 42 ∨ 18 = 43) => absurd h (by decide)) r [] (fun y hy => absurd hy List.not_mem_nil) hS⟩⟩⟩⟩⟩
        · exact (Aj_up (x := (3, m_md t4, 0)) (Aj_up (x := (2, m_md t4, 0 ||| (1 * 256))) (Aj_up (x := (7, 81, 0)) (Aj_up (x := (18, m_md t4, 0)) (Aj_sub (y := (6, n, 0)) hJ (Nat.zero_le _)) (Or.inl (Nat.le_of_ble_eq_true rfl))) (Or.inr (Nat.le_of_ble_eq_true rfl))) (Or.inr (show 9 - (0 ||| (1 * 256)) / 256 < 9 from by have := or_256 (b := 1) (show 0 < 256 from by omega); omega))) (Or.inr (show 2 < 9 - (0 ||| (1 * 256)) / 256 from by have := or_256 (b := 1) (show 0 < 256 from by omega); omega)))
        · show m_dp t28 = (dlt 3 + (dlt 2 + (dlt 7 + (dlt 18 + (dlt 6 + sD r)))))
          have : dlt 18 = 0 := rfl; have : dlt 2 = 0 := rfl; have : dlt 3 = 0 := rfl; have : dlt 6 = 1 := rfl; have : dlt 7 = 0 := rfl; omega
        · show m_rw t28 = (rho 3 + (rho 2 + (rho 7 + (rho 18 + (rho 6 + sR r)))))
          have : rho 18 = 0 := rfl; have : rho 2 = 0 := rfl; have : rho 3 = 0 := rfl; have : rho 6 = 0 := rfl; have : rho 7 = 0 := rfl; omega
        · show m_md t28 + (mu7 3 + (mu7 2 + (mu7 7 + (mu7 18 + (mu7 6 + sM r))))) ≤ 3 * m_at t28 + 7 * (r.length + 1 + 1 + 1 + 1 + 1) + 10
          have : mu7 18 = 5 := rfl; have : mu7 2 = 7 := rfl; have : mu7 3 = 5 := rfl; have : mu7 6 = 7 := rfl; have : mu7 7 = 4 := rfl; omega
        · show (wt 3 + (wt 2 + (wt 7 + (wt 18 + (wt 6 + sW r))))) + 6 * (4096 - m_at t28) + 4 * (600 - (r.length + 1 + 1 + 1 + 1 + 1)) < (wt 18 + sW r) + 6 * (4096 - m_at t0) + 4 * (600 - (r.length + 1))
          have : wt 18 = 0 := rfl; have : wt 2 = 5 := rfl; have : wt 3 = 3 := rfl; have : wt 6 = 5 := rfl; have : wt 7 = 0 := rfl; omega
  · have w_t3 := Nat.pos_of_ne_zero w_t3
    have I_n_t3 := I_n_t0.flat X_t3
    refine Kp_push C_t3 (by omega) (fun t29 C_t29 X_t29 a_t29 b_t29 d_t29 w_t29 u_t29 v_t29 j_t29 l_t29 => ?_)
    have e_t29 := C_t29.2.2.2.1
    have I_n_t29 := I_n_t3.flat X_t29
    refine Ok_ife (Nat.lt_trans (lo_lt (C_t0.tk hT) _) (by decide)) (by decide) (fun q => absurd (hk0.symm.trans q) (by decide)) (fun _ => ?_)
    refine Ok_ife (Nat.lt_trans (lo_lt (C_t0.tk hT) _) (by decide)) (by decide) (fun q => ?_) (fun q => absurd hk0 q)
    refine Ok_bnc ?_
    try unfold b_X6_array
    refine Kp_child C_t29 I_n_t29.1 I_n_t29.2.1 I_n_t29.2.2.1 (by omega) (by omega) (by decide) (by decide) (fun t31 C_t31 X_t31 a_t31 b_t31 d_t31 w_t31 u_t31 v_t31 j_t31 l_t31 => ?_)
    have e_t31 := C_t31.2.2.2.1
    have I_n_t31 := I_n_t29.chd X_t31 j_t31
    have f_n_t31 : Fz t31 n := j_t31.2.2.2.2.1
    have I_m_mdt29_t31 : Nq t31 (m_md t29) := Nq.chn j_t31 (by omega) I_n_t29 (by decide)
    have u_m_mdt29_t31 : Up t31 (m_md t29) := Or.inl j_t31.2.1
    have la_n_t31 : m_la t31 n = (m_md t29) + 1 := j_t31.2.2.2.2.2.1
    have wl_n_t31 : m_wh t31 (m_md t29) = 21 := j_t31.1
    refine Kp_at C_t31 (fun t32 C_t32 X_t32 a_t32 b_t32 d_t32 w_t32 u_t32 v_t32 j_t32 l_t32 => ?_)
    have e_t32 := C_t32.2.2.2.1
    have I_n_t32 := I_n_t31.flat X_t32
    have f_n_t32 := f_n_t31.ex I_n_t31 (X_t32 0)
    have I_m_mdt29_t32 := I_m_mdt29_t31.flat X_t32
    have u_m_mdt29_t32 := u_m_mdt29_t31.ex I_m_mdt29_t31 (X_t32 0)
    have la_n_t32 : m_la t32 n = (m_md t29) + 1 := by rw [j_t32.2.2.1]; exact la_n_t31
    have wl_n_t32 : m_wh t32 ((m_md t29)) = 21 := by rw [j_t32.1]; exact wl_n_t31
    clear la_n_t31 wl_n_t31
    refine Kp_look C_t32 hT (by omega) ?_
    refine Ok_ife (Nat.lt_trans (lo_lt (C_t32.tk hT) _) (by decide)) (by decide) (fun q33 => ?_) (fun q33 => ?_)
    · refine Ok_ck (show (m_md t29) < 65536 from by omega) ?_
      refine Kp_wh C_t32 (by decide) (by decide) (by decide) (by decide) (fun t34 C_t34 X_t34 a_t34 b_t34 d_t34 w_t34 u_t34 v_t34 j_t34 l_t34 => ?_)
      have e_t34 := C_t34.2.2.2.1
      have I_n_t34 := I_n_t32.flat X_t34
      have f_n_t34 := f_n_t32.ex I_n_t32 (X_t34 0)
      have I_m_mdt29_t34 := I_m_mdt29_t32.flat X_t34
      have u_m_mdt29_t34 := u_m_mdt29_t32.ex I_m_mdt29_t32 (X_t34 0)
      have la_n_t34 : m_la t34 n = (m_md t29) + 1 := by rw [j_t34.2.2.1]; exact la_n_t32
      have wl_n_t34 : m_wh t34 ((m_md t29)) = 20 := by rw [j_t34.1]; exact upN_at
      refine Kp_at C_t34 (fun t35 C_t35 X_t35 a_t35 b_t35 d_t35 w_t35 u_t35 v_t35 j_t35 l_t35 => ?_)
      have e_t35 := C_t35.2.2.2.1
      have I_n_t35 := I_n_t34.flat X_t35
      have f_n_t35 := f_n_t34.ex I_n_t34 (X_t35 0)
      have I_m_mdt29_t35 := I_m_mdt29_t34.flat X_t35
      have u_m_mdt29_t35 := u_m_mdt29_t34.ex I_m_mdt29_t34 (X_t35 0)
      have la_n_t35 : m_la t35 n = (m_md t29) + 1 := by rw [j_t35.2.2.1]; exact la_n_t34
      have wl_n_t35 : m_wh t35 ((m_md t29)) = 20 := by rw [j_t35.1]; exact wl_n_t34
      clear la_n_t34 wl_n_t34
      refine Kp_push C_t35 (by omega) (fun t36 C_t36 X_t36 a_t36 b_t36 d_t36 w_t36 u_t36 v_t36 j_t36 l_t36 => ?_)
      have e_t36 := C_t36.2.2.2.1
      have I_n_t36 := I_n_t35.flat X_t36
      have f_n_t36 := f_n_t35.ex I_n_t35 (X_t36 0)
      have I_m_mdt29_t36 := I_m_mdt29_t35.flat X_t36
      have u_m_mdt29_t36 := u_m_mdt29_t35.ex I_m_mdt29_t35 (X_t36 0)
      have la_n_t36 : m_la t36 n = (m_md t29) + 1 := by rw [j_t36.2.2.1]; exact la_n_t35
      have wl_n_t36 : m_wh t36 ((m_md t29)) = 20 := by rw [j_t36.1]; exact wl_n_t35
      clear la_n_t35 wl_n_t35
      refine Ok_ret (show Ok _ _ _ from ?_)
      refine Ok_ret (show Ok _ _ _ from ?_)
      refine Ok_ret (show Ok _ _ _ from ?_)
      exact Or.inl ⟨Nat.ne_of_gt (show 0 < m_wr t36 from by omega), by omega, by omega, C_t36.2.2.2.2.2, by omega⟩
    · refine Kp_look C_t32 hT (by omega) ?_
      refine Ok_ife (Nat.lt_trans (lo_lt (C_t32.tk hT) _) (by decide)) (by decide) (fun q37 => ?_) (fun q37 => ?_)
      · refine Ok_ife (show t < 2147483648 from by omega) (by decide) (fun q38 => ?_) (fun q38 => ?_)
        · refine Kp_child C_t32 I_m_mdt29_t32.1 I_m_mdt29_t32.2.1 I_m_mdt29_t32.2.2.1 (by omega) (by omega) (by decide) (by decide) (fun t39 C_t39 X_t39 a_t39 b_t39 d_t39 w_t39 u_t39 v_t39 j_t39 l_t39 => ?_)
          have e_t39 := C_t39.2.2.2.1
          have I_n_t39 := I_n_t32.chd X_t39 j_t39
          have f_n_t39 := f_n_t32.ex I_n_t32 (X_t39 0 (Nat.zero_le _))
          have I_m_mdt29_t39 := I_m_mdt29_t32.chd X_t39 j_t39
          have u_m_mdt29_t39 := u_m_mdt29_t32.ex I_m_mdt29_t32 (X_t39 0 (Nat.zero_le _))
          have la_n_t39 : m_la t39 n = (m_md t29) + 1 := by rw [(j_t39.2.2.2.2.2.2.2.1 n I_n_t32.1 (by omega)).1]; exact la_n_t32
          have wl_n_t39 : m_wh t39 ((m_md t29)) = 21 := by rw [(j_t39.2.2.2.2.2.2.1 ((m_md t29)) (by omega)).2]; exact wl_n_t32
          clear la_n_t32 wl_n_t32
          have f_m_mdt29_t39 : Fz t39 (m_md t29) := j_t39.2.2.2.2.1
          have I_m_mdt32_t39 : Nq t39 (m_md t32) := Nq.chn j_t39 (by omega) I_m_mdt29_t32 (by decide)
          have u_m_mdt32_t39 : Up t39 (m_md t32) := Or.inl j_t39.2.1
          have la_m_mdt29_t39 : m_la t39 (m_md t29) = (m_md t32) + 1 := j_t39.2.2.2.2.2.1
          have wl_m_mdt29_t39 : m_wh t39 (m_md t32) = 17 := j_t39.1
          refine Kp_at C_t39 (fun t40 C_t40 X_t40 a_t40 b_t40 d_t40 w_t40 u_t40 v_t40 j_t40 l_t40 => ?_)
          have e_t40 := C_t40.2.2.2.1
          have I_n_t40 := I_n_t39.flat X_t40
          have f_n_t40 := f_n_t39.ex I_n_t39 (X_t40 0)
          have I_m_mdt29_t40 := I_m_mdt29_t39.flat X_t40
          have f_m_mdt29_t40 := f_m_mdt29_t39.ex I_m_mdt29_t39 (X_t40 0)
          have u_m_mdt29_t40 := u_m_mdt29_t39.ex I_m_mdt29_t39 (X_t40 0)
          have I_m_mdt32_t40 := I_m_mdt32_t39.flat X_t40
          have u_m_mdt32_t40 := u_m_mdt32_t39.ex I_m_mdt32_t39 (X_t40 0)
          have la_n_t40 : m_la t40 n = (m_md t29) + 1 := by rw [j_t40.2.2.1]; exact la_n_t39
          have wl_n_t40 : m_wh t40 ((m_md t29)) = 21 := by rw [j_t40.1]; exact wl_n_t39
          clear la_n_t39 wl_n_t39
          have la_m_mdt29_t40 : m_la t40 (m_md t29) = (m_md t32) + 1 := by rw [j_t40.2.2.1]; exact la_m_mdt29_t39
          have wl_m_mdt29_t40 : m_wh t40 ((m_md t32)) = 17 := by rw [j_t40.1]; exact wl_m_mdt29_t39
          clear la_m_mdt29_t39 wl_m_mdt29_t39
          refine Kp_pass C_t40 hT (by omega) (by decide) (by omega) (fun t41 C_t41 X_t41 a_t41 b_t41 d_t41 w_t41 u_t41 v_t41 j_t41 l_t41 => ?_)
          have e_t41 := C_t41.2.2.2.1
          have w_t41 : 0 < m_wr t41 ∧ m_wr t41 ≤ m_wr t40 + m_at t40 + 1 := by omega
          have I_n_t41 := I_n_t40.flat X_t41
          have f_n_t41 := f_n_t40.ex I_n_t40 (X_t41 0)
          have I_m_mdt29_t41 := I_m_mdt29_t40.flat X_t41
          have f_m_mdt29_t41 := f_m_mdt29_t40.ex I_m_mdt29_t40 (X_t41 0)
          have u_m_mdt29_t41 := u_m_mdt29_t40.ex I_m_mdt29_t40 (X_t41 0)
          have I_m_mdt32_t41 := I_m_mdt32_t40.flat X_t41
          have u_m_mdt32_t41 := u_m_mdt32_t40.ex I_m_mdt32_t40 (X_t41 0)
          have la_n_t41 : m_la t41 n = (m_md t29) + 1 := by rw [j_t41.2.2.1]; exact la_n_t40
          have wl_n_t41 : m_wh t41 ((m_md t29)) = 21 := by rw [j_t41.1]; exact wl_n_t40
          clear la_n_t40 wl_n_t40
          have la_m_mdt29_t41 : m_la t41 (m_md t29) = (m_md t32) + 1 := by rw [j_t41.2.2.1]; exact la_m_mdt29_t40
          have wl_m_mdt29_t41 : m_wh t41 ((m_md t32)) = 17 := by rw [j_t41.1]; exact wl_m_mdt29_t40
          clear la_m_mdt29_t40 wl_m_mdt29_t40
          refine Kp_push C_t41 (by omega) (fun t42 C_t42 X_t42 a_t42 b_t42 d_t42 w_t42 u_t42 v_t42 j_t42 l_t42 => ?_)
          have e_t42 := C_t42.2.2.2.1
          have I_n_t42 := I_n_t41.flat X_t42
          have f_n_t42 := f_n_t41.ex I_n_t41 (X_t42 0)
          have I_m_mdt29_t42 := I_m_mdt29_t41.flat X_t42
          have f_m_mdt29_t42 := f_m_mdt29_t41.ex I_m_mdt29_t41 (X_t42 0)
          have u_m_mdt29_t42 := u_m_mdt29_t41.ex I_m_mdt29_t41 (X_t42 0)
          have I_m_mdt32_t42 := I_m_mdt32_t41.flat X_t42
          have u_m_mdt32_t42 := u_m_mdt32_t41.ex I_m_mdt32_t41 (X_t42 0)
          have la_n_t42 : m_la t42 n = (m_md t29) + 1 := by rw [j_t42.2.2.1]; exact la_n_t41
          have wl_n_t42 : m_wh t42 ((m_md t29)) = 21 := by rw [j_t42.1]; exact wl_n_t41
          clear la_n_t41 wl_n_t41
          have la_m_mdt29_t42 : m_la t42 (m_md t29) = (m_md t32) + 1 := by rw [j_t42.2.2.1]; exact la_m_mdt29_t41
          have wl_m_mdt29_t42 : m_wh t42 ((m_md t32)) = 17 := by rw [j_t42.1]; exact wl_m_mdt29_t41
          clear la_m_mdt29_t41 wl_m_mdt29_t41
          refine Ok_ret (show Ok _ _ _ from ?_)
          refine Ok_ret (show Ok _ _ _ from ?_)
          refine Ok_ret (show Ok _ _ _ from ?_)
          exact Or.inl ⟨Nat.ne_of_gt (show 0 < m_wr t42 from by omega), by omega, by omega, C_t42.2.2.2.2.2, by omega⟩
        · refine Kp_push C_t32 (by omega) (fun t43 C_t43 X_t43 a_t43 b_t43 d_t43 w_t43 u_t43 v_t43 j_t43 l_t43 => ?_)
          have e_t43 := C_t43.2.2.2.1
          have I_n_t43 := I_n_t32.flat X_t43
          have f_n_t43 := f_n_t32.ex I_n_t32 (X_t43 0)
          have I_m_mdt29_t43 := I_m_mdt29_t32.flat X_t43
          have u_m_mdt29_t43 := u_m_mdt29_t32.ex I_m_mdt29_t32 (X_t43 0)
          have la_n_t43 : m_la t43 n = (m_md t29) + 1 := by rw [j_t43.2.2.1]; exact la_n_t32
          have wl_n_t43 : m_wh t43 ((m_md t29)) = 21 := by rw [j_t43.1]; exact wl_n_t32
          clear la_n_t32 wl_n_t32
          refine Kp_push C_t43 (by omega) (fun t44 C_t44 X_t44 a_t44 b_t44 d_t44 w_t44 u_t44 v_t44 j_t44 l_t44 => ?_)
          have e_t44 := C_t44.2.2.2.1
          have I_n_t44 := I_n_t43.flat X_t44
          have f_n_t44 := f_n_t43.ex I_n_t43 (X_t44 0)
          have I_m_mdt29_t44 := I_m_mdt29_t43.flat X_t44
          have u_m_mdt29_t44 := u_m_mdt29_t43.ex I_m_mdt29_t43 (X_t44 0)
          have la_n_t44 : m_la t44 n = (m_md t29) + 1 := by rw [j_t44.2.2.1]; exact la_n_t43
          have wl_n_t44 : m_wh t44 ((m_md t29)) = 21 := by rw [j_t44.1]; exact wl_n_t43
          clear la_n_t43 wl_n_t43
          refine Ok_bnc ?_
          try unfold b_X6_expression
          refine Kp_push C_t44 (by omega) (fun t46 C_t46 X_t46 a_t46 b_t46 d_t46 w_t46 u_t46 v_t46 j_t46 l_t46 => ?_)
          have e_t46 := C_t46.2.2.2.1
          have I_n_t46 := I_n_t44.flat X_t46
          have f_n_t46 := f_n_t44.ex I_n_t44 (X_t46 0)
          have I_m_mdt29_t46 := I_m_mdt29_t44.flat X_t46
          have u_m_mdt29_t46 := u_m_mdt29_t44.ex I_m_mdt29_t44 (X_t46 0)
          have la_n_t46 : m_la t46 n = (m_md t29) + 1 := by rw [j_t46.2.2.1]; exact la_n_t44
          have wl_n_t46 : m_wh t46 ((m_md t29)) = 21 := by rw [j_t46.1]; exact wl_n_t44
          clear la_n_t44 wl_n_t44
          refine Kp_push C_t46 (by omega) (fun t47 C_t47 X_t47 a_t47 b_t47 d_t47 w_t47 u_t47 v_t47 j_t47 l_t47 => ?_)
          have e_t47 := C_t47.2.2.2.1
          have I_n_t47 := I_n_t46.flat X_t47
          have f_n_t47 := f_n_t46.ex I_n_t46 (X_t47 0)
          have I_m_mdt29_t47 := I_m_mdt29_t46.flat X_t47
          have u_m_mdt29_t47 := u_m_mdt29_t46.ex I_m_mdt29_t46 (X_t47 0)
          have la_n_t47 : m_la t47 n = (m_md t29) + 1 := by rw [j_t47.2.2.1]; exact la_n_t46
          have wl_n_t47 : m_wh t47 ((m_md t29)) = 21 := by rw [j_t47.1]; exact wl_n_t46
          clear la_n_t46 wl_n_t46
          refine Ok_ret (show Ok _ _ _ from ?_)
          refine Ok_ret (show Ok _ _ _ from ?_)
          refine Ok_ret (show Ok _ _ _ from ?_)
          refine Ok_ret (show Ok _ _ _ from ?_)
          exact Or.inl ⟨Nat.ne_of_gt (show 0 < m_wr t47 from by omega), by omega, by omega, C_t47.2.2.2.2.2, by omega⟩
      · refine Kp_push C_t32 (by omega) (fun t48 C_t48 X_t48 a_t48 b_t48 d_t48 w_t48 u_t48 v_t48 j_t48 l_t48 => ?_)
        have e_t48 := C_t48.2.2.2.1
        have I_n_t48 := I_n_t32.flat X_t48
        have f_n_t48 := f_n_t32.ex I_n_t32 (X_t48 0)
        have I_m_mdt29_t48 := I_m_mdt29_t32.flat X_t48
        have u_m_mdt29_t48 := u_m_mdt29_t32.ex I_m_mdt29_t32 (X_t48 0)
        have la_n_t48 : m_la t48 n = (m_md t29) + 1 := by rw [j_t48.2.2.1]; exact la_n_t32
        have wl_n_t48 : m_wh t48 ((m_md t29)) = 21 := by rw [j_t48.1]; exact wl_n_t32
        clear la_n_t32 wl_n_t32
        refine Kp_push C_t48 (by omega) (fun t49 C_t49 X_t49 a_t49 b_t49 d_t49 w_t49 u_t49 v_t49 j_t49 l_t49 => ?_)
        have e_t49 := C_t49.2.2.2.1
        have I_n_t49 := I_n_t48.flat X_t49
        have f_n_t49 := f_n_t48.ex I_n_t48 (X_t49 0)
        have I_m_mdt29_t49 := I_m_mdt29_t48.flat X_t49
        have u_m_mdt29_t49 := u_m_mdt29_t48.ex I_m_mdt29_t48 (X_t49 0)
        have la_n_t49 : m_la t49 n = (m_md t29) + 1 := by rw [j_t49.2.2.1]; exact la_n_t48
        have wl_n_t49 : m_wh t49 ((m_md t29)) = 21 := by rw [j_t49.1]; exact wl_n_t48
        clear la_n_t48 wl_n_t48
        refine Ok_bnc ?_
        try unfold b_X6_expression
        refine Kp_push C_t49 (by omega) (fun t51 C_t51 X_t51 a_t51 b_t51 d_t51 w_t51 u_t51 v_t51 j_t51 l_t51 => ?_)
        have e_t51 := C_t51.2.2.2.1
        have I_n_t51 := I_n_t49.flat X_t51
        have f_n_t51 := f_n_t49.ex I_n_t49 (X_t51 0)
        have I_m_mdt29_t51 := I_m_mdt29_t49.flat X_t51
        have u_m_mdt29_t51 := u_m_mdt29_t49.ex I_m_mdt29_t49 (X_t51 0)
        have la_n_t51 : m_la t51 n = (m_md t29) + 1 := by rw [j_t51.2.2.1]; exact la_n_t49
        have wl_n_t51 : m_wh t51 ((m_md t29)) = 21 := by rw [j_t51.1]; exact wl_n_t49
        clear la_n_t49 wl_n_t49
        refine Kp_push C_t51 (by omega) (fun t52 C_t52 X_t52 a_t52 b_t52 d_t52 w_t52 u_t52 v_t52 j_t52 l_t52 => ?_)
        have e_t52 := C_t52.2.2.2.1
        have I_n_t52 := I_n_t51.flat X_t52
        have f_n_t52 := f_n_t51.ex I_n_t51 (X_t52 0)
        have I_m_mdt29_t52 := I_m_mdt29_t51.flat X_t52
        have u_m_mdt29_t52 := u_m_mdt29_t51.ex I_m_mdt29_t51 (X_t52 0)
        have la_n_t52 : m_la t52 n = (m_md t29) + 1 := by rw [j_t52.2.2.1]; exact la_n_t51
        have wl_n_t52 : m_wh t52 ((m_md t29)) = 21 := by rw [j_t52.1]; exact wl_n_t51
        clear la_n_t51 wl_n_t51
        refine Ok_ret (show Ok _ _ _ from ?_)
        refine Ok_ret (show Ok _ _ _ from ?_)
        refine Ok_ret (show Ok _ _ _ from ?_)
        refine Ok_ret (show Ok _ _ _ from ?_)
        exact Or.inl ⟨Nat.ne_of_gt (show 0 < m_wr t52 from by omega), by omega, by omega, C_t52.2.2.2.2.2, by omega⟩

