/-! The steps of the reference, one by one. -/
theorem S_45_o {t0 : Mm} {n t : Nat} {r : List It} (H : Hp t0 (45, n, t) r) {E : Mm → Prop} (hk0 : lo t0 (m_at t0) ≠ 17) : Ok (Qh (mz t0 ((45, n, t) :: r))) E (b_X6_step 45 n t t0) := by
  obtain ⟨hK, hT, hc, hw0, ha, hC, hS, hJ, hdp, hdl, hrw, hmd, htd, hln, hm16, hI, hD, hTt⟩ := Hp_out H
  have C_t0 := hC n
  have F0 := C_t0.2.1
  have I_n_t0 : Nq t0 n := ⟨(hI.2.1 rfl).1, (hI.2.1 rfl).2.1, (hI.2.1 rfl).2.2, hI.2.2.2 rfl⟩
  have m_n_t0 := I_n_t0.1
  have ht : t < 4096 := hI.1.1 (show 45 ≠ 42 by decide) (show 45 ≠ 48 by decide)
  have hdp : m_dp t0 = dlt 45 + sD r := hdp
  have hrw : m_rw t0 = rho 45 + sR r := hrw
  have hmd : m_md t0 + mu7 45 + sM r ≤ 3 * m_at t0 + 7 * r.length + 17 := hmd
  have hand : t &&& 1 ≤ 1 := Nat.and_le_right
  have h01 : (0 &&& 1 : Nat) = 0 := rfl
  have h02 : (1 : Nat) * 256 = 256 := rfl
  have hq1 : dlt 45 = 0 := rfl
  have hq2 : rho 45 = 0 := rfl
  have hq3 : mu7 45 = 7 := rfl
  unfold b_X6_step
  refine Ok_ifl (by decide) (by decide) (fun _ => ?_) (fun q => absurd (by decide) q)
  refine Ok_ifl (by decide) (by decide) (fun q => absurd q (by decide)) (fun _ => ?_)
  refine Ok_ifl (by decide) (by decide) (fun q => absurd q (by decide)) (fun _ => ?_)
  refine Ok_ifl (by decide) (by decide) (fun q => absurd q (by decide)) (fun _ => ?_)
  refine Ok_bnc ?_
  try unfold b_X6_stating
  refine Ok_ck (by decide) ?_
  refine Ok_ife (by decide) (by decide) (fun q => absurd q (by decide)) (fun _ => ?_)
  refine Ok_ife (by decide) (by decide) (fun q => absurd q (by decide)) (fun _ => ?_)
  refine Ok_ife (by decide) (by decide) (fun q => absurd q (by decide)) (fun _ => ?_)
  refine Ok_ife (by decide) (by decide) (fun q => absurd q (by decide)) (fun _ => ?_)
  refine Ok_ife (by decide) (by decide) (fun _ => ?_) (fun q => absurd (by decide) q)
  refine Ok_bnc ?_
  try unfold b_X6_ifElse
  refine Kp_look C_t0 hT (by omega) ?_
  refine Ok_ife (Nat.lt_trans (lo_lt (C_t0.tk hT) _) (by decide)) (by decide) (fun q => absurd q hk0) (fun q => ?_)
  refine Ok_ret (show Ok _ _ _ from ?_)
  refine Ok_ret (show Ok _ _ _ from ?_)
  refine Hv_mk hK (C_t0.1.2.2.2.2.2.2 hTt) C_t0 hT (by omega) (by omega) (by omega) ?_ ?_ ?_ (by omega) ?_ ?_ ?_
  · exact Stk_step (N := n) (pop := (45, n, t)) (new := []) F0 C_t0.1.to2 (fun (h : nk 45 = false) => absurd h (by decide)) (fun q _ h => h (45, n, t) rfl) (fun _ => rfl) (fun y hy hk => ⟨rfl, Mo_nil (n := n) y hy hk⟩) (fun (h : 45 = 3 ∨ 45 = 18 ∨ 45 = 41) => absurd h (by decide)) (fun (h : 45 = 18) => absurd h (by decide)) (fun (h : 45 = 41 ∨ 45 = 42 ∨ 45 = 43) => absurd h (by decide)) r [] (fun y hy => absurd hy List.not_mem_nil) hS
  · exact Aj_tl hJ
  · show m_dp t0 = sD r
    have : dlt 45 = 0 := rfl; omega
  · show m_rw t0 = sR r
    have : rho 45 = 0 := rfl; omega
  · show m_md t0 + sM r ≤ 3 * m_at t0 + 7 * (r.length) + 10
    have : mu7 45 = 7 := rfl; omega
  · show sW r + 6 * (4096 - m_at t0) + 4 * (600 - (r.length)) < (wt 45 + sW r) + 6 * (4096 - m_at t0) + 4 * (600 - (r.length + 1))
    have : wt 45 = 5 := rfl; omega

theorem S_45 {t0 : Mm} {n t : Nat} {r : List It} (H : Hp t0 (45, n, t) r) {E : Mm → Prop} : Ok (Qh (mz t0 ((45, n, t) :: r))) E (b_X6_step 45 n t t0) := by
  by_cases h17 : lo t0 (m_at t0) = 17
  · exact S_45_t17 H h17
  exact S_45_o H h17

theorem S_46 {t0 : Mm} {n t : Nat} {r : List It} (H : Hp t0 (46, n, t) r) {E : Mm → Prop} : Ok (Qh (mz t0 ((46, n, t) :: r))) E (b_X6_step 46 n t t0) := by
  obtain ⟨hK, hT, hc, hw0, ha, hC, hS, hJ, hdp, hdl, hrw, hmd, htd, hln, hm16, hI, hD, hTt⟩ := Hp_out H
  have C_t0 := hC n
  have F0 := C_t0.2.1
  have I_n_t0 : Nq t0 n := ⟨(hI.2.1 rfl).1, (hI.2.1 rfl).2.1, (hI.2.1 rfl).2.2, hI.2.2.2 rfl⟩
  have m_n_t0 := I_n_t0.1
  have ht : t < 4096 := hI.1.1 (show 46 ≠ 42 by decide) (show 46 ≠ 48 by decide)
  have hdp : m_dp t0 = dlt 46 + sD r := hdp
  have hrw : m_rw t0 = rho 46 + sR r := hrw
  have hmd : m_md t0 + mu7 46 + sM r ≤ 3 * m_at t0 + 7 * r.length + 17 := hmd
  have hand : t &&& 1 ≤ 1 := Nat.and_le_right
  have h01 : (0 &&& 1 : Nat) = 0 := rfl
  have h02 : (1 : Nat) * 256 = 256 := rfl
  have hq1 : dlt 46 = 0 := rfl
  have hq2 : rho 46 = 0 := rfl
  have hq3 : mu7 46 = 2 := rfl
  obtain ⟨f5, -, hH50⟩ : N44 t0 n [] := (hD.2.2.2.2.1 (show 46 = 44 ∨ 46 = 46 ∨ 46 = 49 by decide)).resolve_left (fun ⟨_, h, _⟩ => by cases h)
  have f_n_t0 : Fz t0 n := f5
  obtain ⟨hla0, hla2, -, -⟩ := Fo_lp F0 I_n_t0 f_n_t0
  have hla1 : m_la t0 n - 1 < m_md t0 := by omega
  have u_n_t0 : Up t0 n := hI.2.2.1 rfl
  unfold b_X6_step
  refine Ok_ifl (by decide) (by decide) (fun _ => ?_) (fun q => absurd (by decide) q)
  refine Ok_ifl (by decide) (by decide) (fun q => absurd q (by decide)) (fun _ => ?_)
  refine Ok_ifl (by decide) (by decide) (fun q => absurd q (by decide)) (fun _ => ?_)
  refine Ok_ifl (by decide) (by decide) (fun q => absurd q (by decide)) (fun _ => ?_)
  refine Ok_bnc ?_
  try unfold b_X6_stating
  refine Ok_ck (by decide) ?_
  refine Ok_ife (by decide) (by decide) (fun q => absurd q (by decide)) (fun _ => ?_)
  refine Ok_ife (by decide) (by decide) (fun q => absurd q (by decide)) (fun _ => ?_)
  refine Ok_ife (by decide) (by decide) (fun q => absurd q (by decide)) (fun _ => ?_)
  refine Ok_ife (by decide) (by decide) (fun q => absurd q (by decide)) (fun _ => ?_)
  refine Ok_ife (by decide) (by decide) (fun q => absurd q (by decide)) (fun _ => ?_)
  refine Ok_ife (by decide) (by decide) (fun _ => ?_) (fun q => absurd (by decide) q)
  refine Ok_bnc ?_
  try unfold b_X6_forRest
  refine Ok_ck (show n < 65536 from by omega) ?_
  refine Ok_ck (show (m_la t0 n) ≠ 0 from by omega) ?_
  refine Ok_ck (show ((m_la t0 n) - 1) < 65536 from by omega) ?_
  refine Ok_ife (Nat.lt_trans (C_t0.2.2.2.2.2.2.1 _) (by decide)) (by decide) (fun q3 => ?_) (fun q3 => ?_)
  · refine Ok_bnc ?_
    try unfold b_X6_block
    refine Kp_look C_t0 hT (by omega) ?_
    refine Ok_ife (Nat.lt_trans (lo_lt (C_t0.tk hT) _) (by decide)) (by decide) (fun q5 => ?_) (fun q5 => ?_)
    · refine Kp_child C_t0 I_n_t0.1 I_n_t0.2.1 I_n_t0.2.2.1 (by omega) (by omega) (by decide) (by decide) (fun t6 C_t6 X_t6 a_t6 b_t6 d_t6 w_t6 u_t6 v_t6 j_t6 l_t6 => ?_)
      have e_t6 := C_t6.2.2.2.1
      have I_n_t6 := I_n_t0.chd X_t6 j_t6
      have f_n_t6 := f_n_t0.ex I_n_t0 (X_t6 0 (Nat.zero_le _))
      have u_n_t6 := u_n_t0.ex I_n_t0 (X_t6 0 (Nat.zero_le _))
      have f_n_t6 : Fz t6 n := j_t6.2.2.2.2.1
      have I_m_mdt0_t6 : Nq t6 (m_md t0) := Nq.chn j_t6 (by omega) I_n_t0 (by decide)
      have u_m_mdt0_t6 : Up t6 (m_md t0) := Or.inl j_t6.2.1
      refine Kp_more C_t6 (by omega) (by omega) (fun t7 C_t7 X_t7 a_t7 b_t7 d_t7 w_t7 u_t7 v_t7 j_t7 l_t7 => ?_)
      have e_t7 := C_t7.2.2.2.1
      rcases w_t7 with ⟨w_t7, y_t7⟩ | ⟨w_t7, wb_t7⟩
      · rw [a_t6] at a_t7
        rw [b_t6] at b_t7
        rw [d_t6] at d_t7
        rw [w_t6] at w_t7
        rw [u_t6] at u_t7
        rw [v_t6] at v_t7
        rw [d_t7] at y_t7
        clear d_t6 w_t6 u_t6 v_t6 e_t6 a_t6 b_t6
        have I_n_t7 := I_n_t6.flat X_t7
        have f_n_t7 := f_n_t6.ex I_n_t6 (X_t7 0)
        have u_n_t7 := u_n_t6.ex I_n_t6 (X_t7 0)
        have I_m_mdt0_t7 := I_m_mdt0_t6.flat X_t7
        have u_m_mdt0_t7 := u_m_mdt0_t6.ex I_m_mdt0_t6 (X_t7 0)
        have z_t8 : m_at t7 < m_ct t7 := lo_ne (Nat.ne_of_gt (show 0 < lo t7 (m_at t7) from by omega))
        refine Kp_at C_t7 (fun t8 C_t8 X_t8 a_t8 b_t8 d_t8 w_t8 u_t8 v_t8 j_t8 l_t8 => ?_)
        have e_t8 := C_t8.2.2.2.1
        rw [a_t7] at a_t8
        rw [b_t7] at b_t8
        rw [d_t7] at d_t8
        rw [w_t7] at w_t8
        rw [u_t7] at u_t8
        rw [v_t7] at v_t8
        rw [a_t7, e_t7] at z_t8
        clear d_t7 w_t7 u_t7 v_t7 e_t7 a_t7 b_t7
        have I_n_t8 := I_n_t7.flat X_t8
        have f_n_t8 := f_n_t7.ex I_n_t7 (X_t8 0)
        have u_n_t8 := u_n_t7.ex I_n_t7 (X_t8 0)
        have I_m_mdt0_t8 := I_m_mdt0_t7.flat X_t8
        have u_m_mdt0_t8 := u_m_mdt0_t7.ex I_m_mdt0_t7 (X_t8 0)
        refine Kp_push C_t8 (by omega) (fun t9 C_t9 X_t9 a_t9 b_t9 d_t9 w_t9 u_t9 v_t9 j_t9 l_t9 => ?_)
        have e_t9 := C_t9.2.2.2.1
        rw [a_t8] at a_t9
        rw [b_t8] at b_t9
        rw [d_t8] at d_t9
        rw [w_t8] at w_t9
        rw [u_t8] at u_t9
        rw [v_t8] at v_t9
        clear d_t8 w_t8 u_t8 v_t8 e_t8 a_t8 b_t8
        have I_n_t9 := I_n_t8.flat X_t9
        have f_n_t9 := f_n_t8.ex I_n_t8 (X_t9 0)
        have u_n_t9 := u_n_t8.ex I_n_t8 (X_t9 0)
        have I_m_mdt0_t9 := I_m_mdt0_t8.flat X_t9
        have u_m_mdt0_t9 := u_m_mdt0_t8.ex I_m_mdt0_t8 (X_t9 0)
        refine Kp_push C_t9 (by omega) (fun t10 C_t10 X_t10 a_t10 b_t10 d_t10 w_t10 u_t10 v_t10 j_t10 l_t10 => ?_)
        have e_t10 := C_t10.2.2.2.1
        rw [a_t9] at a_t10
        rw [b_t9] at b_t10
        rw [d_t9] at d_t10
        rw [w_t9] at w_t10
        rw [u_t9] at u_t10
        rw [v_t9] at v_t10
        clear d_t9 w_t9 u_t9 v_t9 e_t9 a_t9 b_t9
        have I_n_t10 := I_n_t9.flat X_t10
        have f_n_t10 := f_n_t9.ex I_n_t9 (X_t10 0)
        have u_n_t10 := u_n_t9.ex I_n_t9 (X_t10 0)
        have I_m_mdt0_t10 := I_m_mdt0_t9.flat X_t10
        have u_m_mdt0_t10 := u_m_mdt0_t9.ex I_m_mdt0_t9 (X_t10 0)
        refine Ok_ret (show Ok _ _ _ from ?_)
        refine Ok_ret (show Ok _ _ _ from ?_)
        refine Ok_ret (show Ok _ _ _ from ?_)
        refine Hv_mk (Kv_c (x := (39, m_md t0, 0)) rfl (Kv_c (x := (8, 83, 0)) rfl hK)) (C_t10.1.2.2.2.2.2.2 hTt) C_t10 hT (by omega) (by omega) (by omega) ?_ ?_ ?_ (by omega) ?_ ?_ ?_
        · exact ⟨(Io_n (by decide) (by decide) I_m_mdt0_t10.1 I_m_mdt0_t10.2.1 I_m_mdt0_t10.2.2.1 (fun _ => u_m_mdt0_t10) (fun q => absurd q (by decide)) I_m_mdt0_t10.2.2.2), (Nd_0 (by decide) Mo_nil), ⟨(Io_78 (by decide) (by decide) (by decide)), (Nd_x (by decide)), Stk_step (N := n) (pop := (46, n, t)) (new := [(8, 83, 0), (39, m_md t0, 0)]) F0 C_t10.1.to2 (fun (h : nk 46 = false) => absurd h (by decide)) (fun q _ h => h (46, n, t) rfl) (fun _ => rfl) (fun y hy hk => ⟨rfl, (Mo_cons (fun q => absurd (show nk 8 = true from q) (by decide)) (Mo_cons (fun q => show n ≤ m_md t0 from by omega) Mo_nil)) y hy hk⟩) (fun (h : 46 = 3 ∨ 46 = 18 ∨ 46 = 41) => absurd h (by decide)) (fun (h : 46 = 18) => absurd h (by decide)) (fun (h : 46 = 41 ∨ 46 = 42 ∨ 46 = 43) => absurd h (by decide)) r [] (fun y hy => absurd hy List.not_mem_nil) hS⟩⟩
        · exact (Aj_up (x := (39, m_md t0, 0)) (Aj_sub (y := (8, 83, 0)) hJ (Nat.le_of_ble_eq_true rfl)) (Or.inl (Nat.le_of_ble_eq_true rfl)))
        · show m_dp t10 = (dlt 39 + (dlt 8 + sD r))
          have : dlt 39 = 0 := rfl; have : dlt 46 = 0 := rfl; have : dlt 8 = 1 := rfl; omega
        · show m_rw t10 = (rho 39 + (rho 8 + sR r))
          have : rho 39 = 0 := rfl; have : rho 46 = 0 := rfl; have : rho 8 = 0 := rfl; omega
        · show m_md t10 + (mu7 39 + (mu7 8 + sM r)) ≤ 3 * m_at t10 + 7 * (r.length + 1 + 1) + 10
          have : mu7 39 = 7 := rfl; have : mu7 46 = 2 := rfl; have : mu7 8 = 4 := rfl; omega
        · show (wt 39 + (wt 8 + sW r)) + 6 * (4096 - m_at t10) + 4 * (600 - (r.length + 1 + 1)) < (wt 46 + sW r) + 6 * (4096 - m_at t0) + 4 * (600 - (r.length + 1))
          have : wt 39 = 9 := rfl; have : wt 46 = 0 := rfl; have : wt 8 = 0 := rfl; omega
      · have w_t7 := Nat.pos_of_ne_zero w_t7
        have I_n_t7 := I_n_t6.flat X_t7
        have f_n_t7 := f_n_t6.ex I_n_t6 (X_t7 0)
        have u_n_t7 := u_n_t6.ex I_n_t6 (X_t7 0)
        have I_m_mdt0_t7 := I_m_mdt0_t6.flat X_t7
        have u_m_mdt0_t7 := u_m_mdt0_t6.ex I_m_mdt0_t6 (X_t7 0)
        refine Kp_at C_t7 (fun t11 C_t11 X_t11 a_t11 b_t11 d_t11 w_t11 u_t11 v_t11 j_t11 l_t11 => ?_)
        have e_t11 := C_t11.2.2.2.1
        have I_n_t11 := I_n_t7.flat X_t11
        have f_n_t11 := f_n_t7.ex I_n_t7 (X_t11 0)
        have u_n_t11 := u_n_t7.ex I_n_t7 (X_t11 0)
        have I_m_mdt0_t11 := I_m_mdt0_t7.flat X_t11
        have u_m_mdt0_t11 := u_m_mdt0_t7.ex I_m_mdt0_t7 (X_t11 0)
        refine Kp_push C_t11 (by omega) (fun t12 C_t12 X_t12 a_t12 b_t12 d_t12 w_t12 u_t12 v_t12 j_t12 l_t12 => ?_)
        have e_t12 := C_t12.2.2.2.1
        have I_n_t12 := I_n_t11.flat X_t12
        have f_n_t12 := f_n_t11.ex I_n_t11 (X_t12 0)
        have u_n_t12 := u_n_t11.ex I_n_t11 (X_t12 0)
        have I_m_mdt0_t12 := I_m_mdt0_t11.flat X_t12
        have u_m_mdt0_t12 := u_m_mdt0_t11.ex I_m_mdt0_t11 (X_t12 0)
        refine Kp_push C_t12 (by omega) (fun t13 C_t13 X_t13 a_t13 b_t13 d_t13 w_t13 u_t13 v_t13 j_t13 l_t13 => ?_)
        have e_t13 := C_t13.2.2.2.1
        have I_n_t13 := I_n_t12.flat X_t13
        have f_n_t13 := f_n_t12.ex I_n_t12 (X_t13 0)
        have u_n_t13 := u_n_t12.ex I_n_t12 (X_t13 0)
        have I_m_mdt0_t13 := I_m_mdt0_t12.flat X_t13
        have u_m_mdt0_t13 := u_m_mdt0_t12.ex I_m_mdt0_t12 (X_t13 0)
        refine Ok_ret (show Ok _ _ _ from ?_)
        refine Ok_ret (show Ok _ _ _ from ?_)
        refine Ok_ret (show Ok _ _ _ from ?_)
        exact Or.inl ⟨Nat.ne_of_gt (show 0 < m_wr t13 from by omega), by omega, by omega, C_t13.2.2.2.2.2, by omega⟩
    · refine Kp_error C_t0 (by omega) (fun t14 C_t14 X_t14 a_t14 b_t14 d_t14 w_t14 u_t14 v_t14 j_t14 l_t14 => ?_)
      have wb_t14 := w_t14.2
      have w_t14 := Nat.pos_of_ne_zero w_t14.1
      have e_t14 := C_t14.2.2.2.1
      have I_n_t14 := I_n_t0.flat X_t14
      have f_n_t14 := f_n_t0.ex I_n_t0 (X_t14 0)
      have u_n_t14 := u_n_t0.ex I_n_t0 (X_t14 0)
      refine Ok_ret (show Ok _ _ _ from ?_)
      refine Ok_ret (show Ok _ _ _ from ?_)
      refine Ok_ret (show Ok _ _ _ from ?_)
      exact Or.inl ⟨Nat.ne_of_gt (show 0 < m_wr t14 from by omega), by omega, by omega, C_t14.2.2.2.2.2, by omega⟩
  · refine Kp_look C_t0 hT (by omega) ?_
    refine Ok_ife (Nat.lt_trans (lo_lt (C_t0.tk hT) _) (by decide)) (by decide) (fun q15 => ?_) (fun q15 => ?_)
    · refine Kp_wrap C_t0 I_n_t0.1 I_n_t0.2.1 f_n_t0 I_n_t0.2.2.1 (by omega) (by omega) (by decide) (fun t16 C_t16 X_t16 a_t16 b_t16 d_t16 w_t16 u_t16 v_t16 j_t16 l_t16 => ?_)
      have e_t16 := C_t16.2.2.2.1
      have I_n_t16 := I_n_t0.le X_t16 (by omega)
      have f_n_t16 := f_n_t0.ex I_n_t0 (X_t16 0 (Nat.zero_le _))
      have u_n_t16 := u_n_t0.ex I_n_t0 (X_t16 0 (Nat.zero_le _))
      have I_m_mdt0_t16 : Nq t16 (m_md t0) := Nq.wrn j_t16 (by omega) I_n_t0 (by decide)
      have f_m_mdt0_t16 : Fz t16 (m_md t0) := by unfold Fz; rw [j_t16.2.1]; exact j_t16.2.2.1
      have z_t17 : m_at t16 < m_ct t16 := lo_ne (Nat.ne_of_gt (show 0 < lo t16 (m_at t16) from by omega))
      refine Kp_at C_t16 (fun t17 C_t17 X_t17 a_t17 b_t17 d_t17 w_t17 u_t17 v_t17 j_t17 l_t17 => ?_)
      have e_t17 := C_t17.2.2.2.1
      rw [a_t16] at a_t17
      rw [b_t16] at b_t17
      rw [d_t16] at d_t17
      rw [w_t16] at w_t17
      rw [u_t16] at u_t17
      rw [v_t16] at v_t17
      rw [a_t16, e_t16] at z_t17
      clear d_t16 w_t16 u_t16 v_t16 e_t16 a_t16 b_t16
      have I_n_t17 := I_n_t16.flat X_t17
      have f_n_t17 := f_n_t16.ex I_n_t16 (X_t17 0)
      have u_n_t17 := u_n_t16.ex I_n_t16 (X_t17 0)
      have I_m_mdt0_t17 := I_m_mdt0_t16.flat X_t17
      have f_m_mdt0_t17 := f_m_mdt0_t16.ex I_m_mdt0_t16 (X_t17 0)
      refine Ok_bnc ?_
      try unfold b_X6_condition
      refine Kp_child C_t17 I_n_t17.1 I_n_t17.2.1 I_n_t17.2.2.1 (by omega) (by omega) (by decide) (by decide) (fun t19 C_t19 X_t19 a_t19 b_t19 d_t19 w_t19 u_t19 v_t19 j_t19 l_t19 => ?_)
      have e_t19 := C_t19.2.2.2.1
      rw [a_t17] at a_t19
      rw [b_t17] at b_t19
      rw [d_t17] at d_t19
      rw [w_t17] at w_t19
      rw [u_t17] at u_t19
      rw [v_t17] at v_t19
      clear d_t17 w_t17 u_t17 v_t17 e_t17 a_t17
      have I_n_t19 := I_n_t17.chd X_t19 j_t19
      have f_n_t19 := f_n_t17.ex I_n_t17 (X_t19 0 (Nat.zero_le _))
      have u_n_t19 := u_n_t17.ex I_n_t17 (X_t19 0 (Nat.zero_le _))
      have I_m_mdt0_t19 := I_m_mdt0_t17.chd X_t19 j_t19
      have f_m_mdt0_t19 := f_m_mdt0_t17.ex I_m_mdt0_t17 (X_t19 0 (Nat.zero_le _))
      have f_n_t19 : Fz t19 n := j_t19.2.2.2.2.1
      have I_m_mdt17_t19 : Nq t19 (m_md t17) := Nq.chn j_t19 (by omega) I_n_t17 (by decide)
      have u_m_mdt17_t19 : Up t19 (m_md t17) := Or.inl j_t19.2.1
      refine Kp_push C_t19 (by omega) (fun t20 C_t20 X_t20 a_t20 b_t20 d_t20 w_t20 u_t20 v_t20 j_t20 l_t20 => ?_)
      have e_t20 := C_t20.2.2.2.1
      rw [a_t19] at a_t20
      rw [b_t19] at b_t20
      rw [d_t19] at d_t20
      rw [w_t19] at w_t20
      rw [u_t19] at u_t20
      rw [v_t19] at v_t20
      clear d_t19 w_t19 u_t19 v_t19 e_t19 a_t19 b_t19
      have I_n_t20 := I_n_t19.flat X_t20
      have f_n_t20 := f_n_t19.ex I_n_t19 (X_t20 0)
      have u_n_t20 := u_n_t19.ex I_n_t19 (X_t20 0)
      have I_m_mdt0_t20 := I_m_mdt0_t19.flat X_t20
      have f_m_mdt0_t20 := f_m_mdt0_t19.ex I_m_mdt0_t19 (X_t20 0)
      have I_m_mdt17_t20 := I_m_mdt17_t19.flat X_t20
      have u_m_mdt17_t20 := u_m_mdt17_t19.ex I_m_mdt17_t19 (X_t20 0)
      refine Kp_look C_t20 hT (by omega) ?_
      refine Ok_ife (Nat.lt_trans (lo_lt (C_t20.tk hT) _) (by decide)) (by decide) (fun q21 => ?_) (fun q21 => ?_)
      · refine Ok_ret (show Ok _ _ _ from ?_)
        refine Ok_ret (show Ok _ _ _ from ?_)
        refine Ok_ret (show Ok _ _ _ from ?_)
        refine Hv_mk (Kv_c (x := (48, n, m_md t17)) rfl hK) (C_t20.1.2.2.2.2.2.2 hTt) C_t20 hT (by omega) (by omega) (by omega) ?_ ?_ ?_ (by omega) ?_ ?_ ?_
        · exact ⟨(Io_48 (show m_md t17 < m_md t20 from by omega) I_n_t20.1 I_n_t20.2.1 I_n_t20.2.2.1 I_n_t20.2.2.2), (Nd_0 (by decide) Mo_nil), Stk_step (N := n) (pop := (46, n, t)) (new := [(48, n, m_md t17)]) F0 C_t20.1.to2 (fun (h : nk 46 = false) => absurd h (by decide)) (fun q _ h => h (46, n, t) rfl) (fun _ => rfl) (fun y hy hk => ⟨rfl, (Mo_cons (fun q => show n ≤ n from by omega) Mo_nil) y hy hk⟩) (fun (h : 46 = 3 ∨ 46 = 18 ∨ 46 = 41) => absurd h (by decide)) (fun (h : 46 = 18) => absurd h (by decide)) (fun (h : 46 = 41 ∨ 46 = 42 ∨ 46 = 43) => absurd h (by decide)) r [] (fun y hy => absurd hy List.not_mem_nil) hS⟩
        · exact (Aj_sub (y := (48, n, m_md t17)) hJ (Nat.le_of_ble_eq_true rfl))
        · show m_dp t20 = (dlt 48 + sD r)
          have : dlt 46 = 0 := rfl; have : dlt 48 = 0 := rfl; omega
        · show m_rw t20 = (rho 48 + sR r)
          have : rho 46 = 0 := rfl; have : rho 48 = 0 := rfl; omega
        · show m_md t20 + (mu7 48 + sM r) ≤ 3 * m_at t20 + 7 * (r.length + 1) + 10
          have : mu7 46 = 2 := rfl; have : mu7 48 = 0 := rfl; omega
        · show (wt 48 + sW r) + 6 * (4096 - m_at t20) + 4 * (600 - (r.length + 1)) < (wt 46 + sW r) + 6 * (4096 - m_at t0) + 4 * (600 - (r.length + 1))
          have : wt 46 = 0 := rfl; have : wt 48 = 0 := rfl; omega
      · refine Ok_bnc ?_
        try unfold b_X6_expression
        refine Kp_push C_t20 (by omega) (fun t23 C_t23 X_t23 a_t23 b_t23 d_t23 w_t23 u_t23 v_t23 j_t23 l_t23 => ?_)
        have e_t23 := C_t23.2.2.2.1
        rw [a_t20] at a_t23
        rw [b_t20] at b_t23
        rw [d_t20] at d_t23
        rw [w_t20] at w_t23
        rw [u_t20] at u_t23
        rw [v_t20] at v_t23
        clear d_t20 w_t20 u_t20 v_t20 e_t20 a_t20 b_t20
        have I_n_t23 := I_n_t20.flat X_t23
        have f_n_t23 := f_n_t20.ex I_n_t20 (X_t23 0)
        have u_n_t23 := u_n_t20.ex I_n_t20 (X_t23 0)
        have I_m_mdt0_t23 := I_m_mdt0_t20.flat X_t23
        have f_m_mdt0_t23 := f_m_mdt0_t20.ex I_m_mdt0_t20 (X_t23 0)
        have I_m_mdt17_t23 := I_m_mdt17_t20.flat X_t23
        have u_m_mdt17_t23 := u_m_mdt17_t20.ex I_m_mdt17_t20 (X_t23 0)
        refine Kp_push C_t23 (by omega) (fun t24 C_t24 X_t24 a_t24 b_t24 d_t24 w_t24 u_t24 v_t24 j_t24 l_t24 => ?_)
        have e_t24 := C_t24.2.2.2.1
        rw [a_t23] at a_t24
        rw [b_t23] at b_t24
        rw [d_t23] at d_t24
        rw [w_t23] at w_t24
        rw [u_t23] at u_t24
        rw [v_t23] at v_t24
        clear d_t23 w_t23 u_t23 v_t23 e_t23 a_t23 b_t23
        have I_n_t24 := I_n_t23.flat X_t24
        have f_n_t24 := f_n_t23.ex I_n_t23 (X_t24 0)
        have u_n_t24 := u_n_t23.ex I_n_t23 (X_t24 0)
        have I_m_mdt0_t24 := I_m_mdt0_t23.flat X_t24
        have f_m_mdt0_t24 := f_m_mdt0_t23.ex I_m_mdt0_t23 (X_t24 0)
        have I_m_mdt17_t24 := I_m_mdt17_t23.flat X_t24
        have u_m_mdt17_t24 := u_m_mdt17_t23.ex I_m_mdt17_t23 (X_t24 0)
        refine Ok_ret (show Ok _ _ _ from ?_)
        refine Ok_ret (show Ok _ _ _ from ?_)
        refine Ok_ret (show Ok _ _ _ from ?_)
        refine Ok_ret (show Ok _ _ _ from ?_)
        refine Hv_mk (Kv_c (x := (3, m_md t17, 1)) rfl (Kv_c (x := (2, m_md t17, 1 ||| (1 * 256))) rfl (Kv_c (x := (48, n, m_md t17)) rfl hK))) (C_t24.1.2.2.2.2.2.2 hTt) C_t24 hT (by omega) (by omega) (by omega) ?_ ?_ ?_ (by omega) ?_ ?_ ?_
        · exact ⟨(Io_n (by decide) (by decide) I_m_mdt17_t24.1 I_m_mdt17_t24.2.1 I_m_mdt17_t24.2.2.1 (fun q => absurd q (by decide)) (fun q => absurd q (by decide)) I_m_mdt17_t24.2.2.2), (Nd_0 (by decide) Mo_nil), ⟨(Io_2 (by have := or_256 (b := 1) (show 1 < 256 from by omega); omega) (by have := or_256 (b := 1) (show 1 < 256 from by omega); omega) (by have := or_256 (b := 1) (show 1 < 256 from by omega); omega) I_m_mdt17_t24.1 I_m_mdt17_t24.2.1 I_m_mdt17_t24.2.2.1 I_m_mdt17_t24.2.2.2), (Nd_A (by decide) (Mo_cons (fun q => show m_md t17 ≤ m_md t17 from by omega) Mo_nil) (Or.inr ⟨(3, m_md t17, 1), List.mem_cons_self, rfl, Or.inl rfl⟩)), ⟨(Io_48 (show m_md t17 < m_md t24 from by omega) I_n_t24.1 I_n_t24.2.1 I_n_t24.2.2.1 I_n_t24.2.2.2), (Nd_0 (by decide) (Mo_cons (fun q => show n ≤ m_md t17 from by omega) (Mo_cons (fun q => show n ≤ m_md t17 from by omega) Mo_nil))), Stk_step (N := n) (pop := (46, n, t)) (new := [(48, n, m_md t17), (2, m_md t17, 1 ||| (1 * 256)), (3, m_md t17, 1)]) F0 C_t24.1.to2 (fun (h : nk 46 = false) => absurd h (by decide)) (fun q _ h => h (46, n, t) rfl) (fun _ => rfl) (fun y hy hk => ⟨rfl, (Mo_cons (fun q => show n ≤ n from by omega) (Mo_cons (fun q => show n ≤ m_md t17 from by omega) (Mo_cons (fun q => show n ≤ m_md t17 from by omega) Mo_nil))) y hy hk⟩) (fun (h : 46 = 3 ∨ 46 = 18 ∨ 46 = 41) => absurd h (by decide)) (fun (h : 46 = 18) => absurd h (by decide)) (fun (h : 46 = 41 ∨ 46 = 42 ∨ 46 = 43) => absurd h (by decide)) r [] (fun y hy => absurd hy List.not_mem_nil) hS⟩⟩⟩
        · exact (Aj_up (x := (3, m_md t17, 1)) (Aj_up (x := (2, m_md t17, 1 ||| (1 * 256))) (Aj_sub (y := (48, n, m_md t17)) hJ (Nat.le_of_ble_eq_true rfl)) (Or.inr (show 9 - (1 ||| (1 * 256)) / 256 < 12 from by have := or_256 (b := 1) (show 1 < 256 from by omega); omega))) (Or.inr (show 2 < 9 - (1 ||| (1 * 256)) / 256 from by have := or_256 (b := 1) (show 1 < 256 from by omega); omega)))
        · show m_dp t24 = (dlt 3 + (dlt 2 + (dlt 48 + sD r)))
          have : dlt 2 = 0 := rfl; have : dlt 3 = 0 := rfl; have : dlt 46 = 0 := rfl; have : dlt 48 = 0 := rfl; omega
        · show m_rw t24 = (rho 3 + (rho 2 + (rho 48 + sR r)))
          have : rho 2 = 0 := rfl; have : rho 3 = 0 := rfl; have : rho 46 = 0 := rfl; have : rho 48 = 0 := rfl; omega
        · show m_md t24 + (mu7 3 + (mu7 2 + (mu7 48 + sM r))) ≤ 3 * m_at t24 + 7 * (r.length + 1 + 1 + 1) + 10
          have : mu7 2 = 7 := rfl; have : mu7 3 = 5 := rfl; have : mu7 46 = 2 := rfl; have : mu7 48 = 0 := rfl; omega
        · show (wt 3 + (wt 2 + (wt 48 + sW r))) + 6 * (4096 - m_at t24) + 4 * (600 - (r.length + 1 + 1 + 1)) < (wt 46 + sW r) + 6 * (4096 - m_at t0) + 4 * (600 - (r.length + 1))
          have : wt 2 = 5 := rfl; have : wt 3 = 3 := rfl; have : wt 46 = 0 := rfl; have : wt 48 = 0 := rfl; omega
    · refine Ok_ck (show n < 65536 from by omega) ?_
      refine Ok_ck (show (m_la t0 n) ≠ 0 from by omega) ?_
      refine Ok_ck (show ((m_la t0 n) - 1) < 65536 from by omega) ?_
      refine Ok_ife (Nat.lt_trans (C_t0.2.2.2.2.2.2.1 _) (by decide)) (by decide) (fun q25 => ?_) (fun q25 => ?_)
      · refine Kp_unwrap C_t0 I_n_t0.1 I_n_t0.2.1 f_n_t0 I_n_t0.2.2.1 (by omega) (by omega) q25 hH50 (fun t26 C_t26 X_t26 a_t26 b_t26 d_t26 w_t26 u_t26 v_t26 j_t26 l_t26 => ?_)
        have e_t26 := C_t26.2.2.2.1
        have I_n_t26 := I_n_t0.le X_t26 (by omega)
        have f_n_t26 := f_n_t0.ex I_n_t0 (X_t26 0 (Nat.zero_le _))
        have u_n_t26 := u_n_t0.ex I_n_t0 (X_t26 0 (Nat.zero_le _))
        refine Ok_bnc ?_
        try unfold b_X6_block
        refine Kp_look C_t26 hT (by omega) ?_
        refine Ok_ife (Nat.lt_trans (lo_lt (C_t26.tk hT) _) (by decide)) (by decide) (fun q28 => ?_) (fun q28 => ?_)
        · refine Kp_child C_t26 I_n_t26.1 I_n_t26.2.1 I_n_t26.2.2.1 (by omega) (by omega) (by decide) (by decide) (fun t29 C_t29 X_t29 a_t29 b_t29 d_t29 w_t29 u_t29 v_t29 j_t29 l_t29 => ?_)
          have e_t29 := C_t29.2.2.2.1
          rw [a_t26] at a_t29
          rw [b_t26] at b_t29
          rw [d_t26] at d_t29
          rw [w_t26] at w_t29
          rw [u_t26] at u_t29
          rw [v_t26] at v_t29
          clear d_t26 w_t26 u_t26 v_t26 e_t26 a_t26
          have I_n_t29 := I_n_t26.chd X_t29 j_t29
          have f_n_t29 := f_n_t26.ex I_n_t26 (X_t29 0 (Nat.zero_le _))
          have u_n_t29 := u_n_t26.ex I_n_t26 (X_t29 0 (Nat.zero_le _))
          have f_n_t29 : Fz t29 n := j_t29.2.2.2.2.1
          have I_m_mdt26_t29 : Nq t29 (m_md t26) := Nq.chn j_t29 (by omega) I_n_t26 (by decide)
          have u_m_mdt26_t29 : Up t29 (m_md t26) := Or.inl j_t29.2.1
          refine Kp_more C_t29 (by omega) (by omega) (fun t30 C_t30 X_t30 a_t30 b_t30 d_t30 w_t30 u_t30 v_t30 j_t30 l_t30 => ?_)
          have e_t30 := C_t30.2.2.2.1
          rcases w_t30 with ⟨w_t30, y_t30⟩ | ⟨w_t30, wb_t30⟩
          · rw [a_t29] at a_t30
            rw [b_t29] at b_t30
            rw [d_t29] at d_t30
            rw [w_t29] at w_t30
            rw [u_t29] at u_t30
            rw [v_t29] at v_t30
            rw [d_t30] at y_t30
            clear d_t29 w_t29 u_t29 v_t29 e_t29 a_t29 b_t29
            have I_n_t30 := I_n_t29.flat X_t30
            have f_n_t30 := f_n_t29.ex I_n_t29 (X_t30 0)
            have u_n_t30 := u_n_t29.ex I_n_t29 (X_t30 0)
            have I_m_mdt26_t30 := I_m_mdt26_t29.flat X_t30
            have u_m_mdt26_t30 := u_m_mdt26_t29.ex I_m_mdt26_t29 (X_t30 0)
            have z_t31 : m_at t30 < m_ct t30 := lo_ne (Nat.ne_of_gt (show 0 < lo t30 (m_at t30) from by omega))
            refine Kp_at C_t30 (fun t31 C_t31 X_t31 a_t31 b_t31 d_t31 w_t31 u_t31 v_t31 j_t31 l_t31 => ?_)
            have e_t31 := C_t31.2.2.2.1
            rw [a_t30] at a_t31
            rw [b_t30] at b_t31
            rw [d_t30] at d_t31
            rw [w_t30] at w_t31
            rw [u_t30] at u_t31
            rw [v_t30] at v_t31
            rw [a_t30, e_t30] at z_t31
            clear d_t30 w_t30 u_t30 v_t30 e_t30 a_t30 b_t30
            have I_n_t31 := I_n_t30.flat X_t31
            have f_n_t31 := f_n_t30.ex I_n_t30 (X_t31 0)
            have u_n_t31 := u_n_t30.ex I_n_t30 (X_t31 0)
            have I_m_mdt26_t31 := I_m_mdt26_t30.flat X_t31
            have u_m_mdt26_t31 := u_m_mdt26_t30.ex I_m_mdt26_t30 (X_t31 0)
            refine Kp_push C_t31 (by omega) (fun t32 C_t32 X_t32 a_t32 b_t32 d_t32 w_t32 u_t32 v_t32 j_t32 l_t32 => ?_)
            have e_t32 := C_t32.2.2.2.1
            rw [a_t31] at a_t32
            rw [b_t31] at b_t32
            rw [d_t31] at d_t32
            rw [w_t31] at w_t32
            rw [u_t31] at u_t32
            rw [v_t31] at v_t32
            clear d_t31 w_t31 u_t31 v_t31 e_t31 a_t31 b_t31
            have I_n_t32 := I_n_t31.flat X_t32
            have f_n_t32 := f_n_t31.ex I_n_t31 (X_t32 0)
            have u_n_t32 := u_n_t31.ex I_n_t31 (X_t32 0)
            have I_m_mdt26_t32 := I_m_mdt26_t31.flat X_t32
            have u_m_mdt26_t32 := u_m_mdt26_t31.ex I_m_mdt26_t31 (X_t32 0)
            refine Kp_push C_t32 (by omega) (fun t33 C_t33 X_t33 a_t33 b_t33 d_t33 w_t33 u_t33 v_t33 j_t33 l_t33 => ?_)
            have e_t33 := C_t33.2.2.2.1
            rw [a_t32] at a_t33
            rw [b_t32] at b_t33
            rw [d_t32] at d_t33
            rw [w_t32] at w_t33
            rw [u_t32] at u_t33
            rw [v_t32] at v_t33
            clear d_t32 w_t32 u_t32 v_t32 e_t32 a_t32 b_t32
            have I_n_t33 := I_n_t32.flat X_t33
            have f_n_t33 := f_n_t32.ex I_n_t32 (X_t33 0)
            have u_n_t33 := u_n_t32.ex I_n_t32 (X_t33 0)
            have I_m_mdt26_t33 := I_m_mdt26_t32.flat X_t33
            have u_m_mdt26_t33 := u_m_mdt26_t32.ex I_m_mdt26_t32 (X_t33 0)
            refine Ok_ret (show Ok _ _ _ from ?_)
            refine Ok_ret (show Ok _ _ _ from ?_)
            refine Ok_ret (show Ok _ _ _ from ?_)
            refine Hv_mk (Kv_c (x := (39, m_md t26, 0)) rfl (Kv_c (x := (8, 83, 0)) rfl hK)) (C_t33.1.2.2.2.2.2.2 hTt) C_t33 hT (by omega) (by omega) (by omega) ?_ ?_ ?_ (by omega) ?_ ?_ ?_
            · exact ⟨(Io_n (by decide) (by decide) I_m_mdt26_t33.1 I_m_mdt26_t33.2.1 I_m_mdt26_t33.2.2.1 (fun _ => u_m_mdt26_t33) (fun q => absurd q (by decide)) I_m_mdt26_t33.2.2.2), (Nd_0 (by decide) Mo_nil), ⟨(Io_78 (by decide) (by decide) (by decide)), (Nd_x (by decide)), Stk_step (N := n) (pop := (46, n, t)) (new := [(8, 83, 0), (39, m_md t26, 0)]) F0 C_t33.1.to2 (fun (h : nk 46 = false) => absurd h (by decide)) (fun q _ h => h (46, n, t) rfl) (fun _ => rfl) (fun y hy hk => ⟨rfl, (Mo_cons (fun q => absurd (show nk 8 = true from q) (by decide)) (Mo_cons (fun q => show n ≤ m_md t26 from by omega) Mo_nil)) y hy hk⟩) (fun (h : 46 = 3 ∨ 46 = 18 ∨ 46 = 41) => absurd h (by decide)) (fun (h : 46 = 18) => absurd h (by decide)) (fun (h : 46 = 41 ∨ 46 = 42 ∨ 46 = 43) => absurd h (by decide)) r [] (fun y hy => absurd hy List.not_mem_nil) hS⟩⟩
            · exact (Aj_up (x := (39, m_md t26, 0)) (Aj_sub (y := (8, 83, 0)) hJ (Nat.le_of_ble_eq_true rfl)) (Or.inl (Nat.le_of_ble_eq_true rfl)))
            · show m_dp t33 = (dlt 39 + (dlt 8 + sD r))
              have : dlt 39 = 0 := rfl; have : dlt 46 = 0 := rfl; have : dlt 8 = 1 := rfl; omega
            · show m_rw t33 = (rho 39 + (rho 8 + sR r))
              have : rho 39 = 0 := rfl; have : rho 46 = 0 := rfl; have : rho 8 = 0 := rfl; omega
            · show m_md t33 + (mu7 39 + (mu7 8 + sM r)) ≤ 3 * m_at t33 + 7 * (r.length + 1 + 1) + 10
              have : mu7 39 = 7 := rfl; have : mu7 46 = 2 := rfl; have : mu7 8 = 4 := rfl; omega
            · show (wt 39 + (wt 8 + sW r)) + 6 * (4096 - m_at t33) + 4 * (600 - (r.length + 1 + 1)) < (wt 46 + sW r) + 6 * (4096 - m_at t0) + 4 * (600 - (r.length + 1))
              have : wt 39 = 9 := rfl; have : wt 46 = 0 := rfl; have : wt 8 = 0 := rfl; omega
          · have w_t30 := Nat.pos_of_ne_zero w_t30
            have I_n_t30 := I_n_t29.flat X_t30
            have f_n_t30 := f_n_t29.ex I_n_t29 (X_t30 0)
            have u_n_t30 := u_n_t29.ex I_n_t29 (X_t30 0)
            have I_m_mdt26_t30 := I_m_mdt26_t29.flat X_t30
            have u_m_mdt26_t30 := u_m_mdt26_t29.ex I_m_mdt26_t29 (X_t30 0)
            refine Kp_at C_t30 (fun t34 C_t34 X_t34 a_t34 b_t34 d_t34 w_t34 u_t34 v_t34 j_t34 l_t34 => ?_)
            have e_t34 := C_t34.2.2.2.1
            have I_n_t34 := I_n_t30.flat X_t34
            have f_n_t34 := f_n_t30.ex I_n_t30 (X_t34 0)
            have u_n_t34 := u_n_t30.ex I_n_t30 (X_t34 0)
            have I_m_mdt26_t34 := I_m_mdt26_t30.flat X_t34
            have u_m_mdt26_t34 := u_m_mdt26_t30.ex I_m_mdt26_t30 (X_t34 0)
            refine Kp_push C_t34 (by omega) (fun t35 C_t35 X_t35 a_t35 b_t35 d_t35 w_t35 u_t35 v_t35 j_t35 l_t35 => ?_)
            have e_t35 := C_t35.2.2.2.1
            have I_n_t35 := I_n_t34.flat X_t35
            have f_n_t35 := f_n_t34.ex I_n_t34 (X_t35 0)
            have u_n_t35 := u_n_t34.ex I_n_t34 (X_t35 0)
            have I_m_mdt26_t35 := I_m_mdt26_t34.flat X_t35
            have u_m_mdt26_t35 := u_m_mdt26_t34.ex I_m_mdt26_t34 (X_t35 0)
            refine Kp_push C_t35 (by omega) (fun t36 C_t36 X_t36 a_t36 b_t36 d_t36 w_t36 u_t36 v_t36 j_t36 l_t36 => ?_)
            have e_t36 := C_t36.2.2.2.1
            have I_n_t36 := I_n_t35.flat X_t36
            have f_n_t36 := f_n_t35.ex I_n_t35 (X_t36 0)
            have u_n_t36 := u_n_t35.ex I_n_t35 (X_t36 0)
            have I_m_mdt26_t36 := I_m_mdt26_t35.flat X_t36
            have u_m_mdt26_t36 := u_m_mdt26_t35.ex I_m_mdt26_t35 (X_t36 0)
            refine Ok_ret (show Ok _ _ _ from ?_)
            refine Ok_ret (show Ok _ _ _ from ?_)
            refine Ok_ret (show Ok _ _ _ from ?_)
            exact Or.inl ⟨Nat.ne_of_gt (show 0 < m_wr t36 from by omega), by omega, by omega, C_t36.2.2.2.2.2, by omega⟩
        · refine Kp_error C_t26 (by omega) (fun t37 C_t37 X_t37 a_t37 b_t37 d_t37 w_t37 u_t37 v_t37 j_t37 l_t37 => ?_)
          have wb_t37 := w_t37.2
          have w_t37 := Nat.pos_of_ne_zero w_t37.1
          have e_t37 := C_t37.2.2.2.1
          have I_n_t37 := I_n_t26.flat X_t37
          have f_n_t37 := f_n_t26.ex I_n_t26 (X_t37 0)
          have u_n_t37 := u_n_t26.ex I_n_t26 (X_t37 0)
          refine Ok_ret (show Ok _ _ _ from ?_)
          refine Ok_ret (show Ok _ _ _ from ?_)
          refine Ok_ret (show Ok _ _ _ from ?_)
          exact Or.inl ⟨Nat.ne_of_gt (show 0 < m_wr t37 from by omega), by omega, by omega, C_t37.2.2.2.2.2, by omega⟩
      · refine Kp_error C_t0 (by omega) (fun t38 C_t38 X_t38 a_t38 b_t38 d_t38 w_t38 u_t38 v_t38 j_t38 l_t38 => ?_)
        have wb_t38 := w_t38.2
        have w_t38 := Nat.pos_of_ne_zero w_t38.1
        have e_t38 := C_t38.2.2.2.1
        have I_n_t38 := I_n_t0.flat X_t38
        have f_n_t38 := f_n_t0.ex I_n_t0 (X_t38 0)
        have u_n_t38 := u_n_t0.ex I_n_t0 (X_t38 0)
        refine Ok_ret (show Ok _ _ _ from ?_)
        refine Ok_ret (show Ok _ _ _ from ?_)
        exact Or.inl ⟨Nat.ne_of_gt (show 0 < m_wr t38 from by omega), by omega, by omega, C_t38.2.2.2.2.2, by omega⟩

theorem S_47 {t0 : Mm} {n t : Nat} {r : List It} (H : Hp t0 (47, n, t) r) {E : Mm → Prop} : Ok (Qh (mz t0 ((47, n, t) :: r))) E (b_X6_step 47 n t t0) := by
  obtain ⟨hK, hT, hc, hw0, ha, hC, hS, hJ, hdp, hdl, hrw, hmd, htd, hln, hm16, hI, hD, hTt⟩ := Hp_out H
  have C_t0 := hC n
  have F0 := C_t0.2.1
  have I_n_t0 : Nq t0 n := ⟨(hI.2.1 rfl).1, (hI.2.1 rfl).2.1, (hI.2.1 rfl).2.2, hI.2.2.2 rfl⟩
  have m_n_t0 := I_n_t0.1
  have ht : t < 4096 := hI.1.1 (show 47 ≠ 42 by decide) (show 47 ≠ 48 by decide)
  have hdp : m_dp t0 = dlt 47 + sD r := hdp
  have hrw : m_rw t0 = rho 47 + sR r := hrw
  have hmd : m_md t0 + mu7 47 + sM r ≤ 3 * m_at t0 + 7 * r.length + 17 := hmd
  have hand : t &&& 1 ≤ 1 := Nat.and_le_right
  have h01 : (0 &&& 1 : Nat) = 0 := rfl
  have h02 : (1 : Nat) * 256 = 256 := rfl
  have hq1 : dlt 47 = 0 := rfl
  have hq2 : rho 47 = 0 := rfl
  have hq3 : mu7 47 = 7 := rfl
  unfold b_X6_step
  refine Ok_ifl (by decide) (by decide) (fun _ => ?_) (fun q => absurd (by decide) q)
  refine Ok_ifl (by decide) (by decide) (fun q => absurd q (by decide)) (fun _ => ?_)
  refine Ok_ifl (by decide) (by decide) (fun q => absurd q (by decide)) (fun _ => ?_)
  refine Ok_ifl (by decide) (by decide) (fun q => absurd q (by decide)) (fun _ => ?_)
  refine Ok_bnc ?_
  try unfold b_X6_stating
  refine Ok_ck (by decide) ?_
  refine Ok_ife (by decide) (by decide) (fun q => absurd q (by decide)) (fun _ => ?_)
  refine Ok_ife (by decide) (by decide) (fun q => absurd q (by decide)) (fun _ => ?_)
  refine Ok_ife (by decide) (by decide) (fun q => absurd q (by decide)) (fun _ => ?_)
  refine Ok_ife (by decide) (by decide) (fun q => absurd q (by decide)) (fun _ => ?_)
  refine Ok_ife (by decide) (by decide) (fun q => absurd q (by decide)) (fun _ => ?_)
  refine Ok_ife (by decide) (by decide) (fun q => absurd q (by decide)) (fun _ => ?_)
  refine Ok_ife (by decide) (by decide) (fun _ => ?_) (fun q => absurd (by decide) q)
  refine Ok_bnc ?_
  try unfold b_X6_valued
  refine Kp_look C_t0 hT (by omega) ?_
  refine Ok_ife (Nat.lt_trans (lo_lt (C_t0.tk hT) _) (by decide)) (by decide) (fun q3 => ?_) (fun q3 => ?_)
  · refine Kp_pass C_t0 hT (by omega) (by decide) (by omega) (fun t4 C_t4 X_t4 a_t4 b_t4 d_t4 w_t4 u_t4 v_t4 j_t4 l_t4 => ?_)
    have e_t4 := C_t4.2.2.2.1
    rcases w_t4 with ⟨w_t4, y_t4⟩ | ⟨w_t4, wb_t4⟩
    · have z_t4 : m_at t0 < m_ct t0 := lo_ne (Nat.ne_of_gt (show 0 < lo t0 (m_at t0) from by omega))
      have I_n_t4 := I_n_t0.flat X_t4
      refine Ok_bnc ?_
      try unfold b_X6_exprs
      refine Kp_child C_t4 I_n_t4.1 I_n_t4.2.1 I_n_t4.2.2.1 (by omega) (by omega) (by decide) (by decide) (fun t6 C_t6 X_t6 a_t6 b_t6 d_t6 w_t6 u_t6 v_t6 j_t6 l_t6 => ?_)
      have e_t6 := C_t6.2.2.2.1
      rw [a_t4] at a_t6
      rw [b_t4] at b_t6
      rw [d_t4] at d_t6
      rw [w_t4] at w_t6
      rw [u_t4] at u_t6
      rw [v_t4] at v_t6
      clear d_t4 w_t4 u_t4 v_t4 e_t4 a_t4
      have I_n_t6 := I_n_t4.chd X_t6 j_t6
      have f_n_t6 : Fz t6 n := j_t6.2.2.2.2.1
      have I_m_mdt4_t6 : Nq t6 (m_md t4) := Nq.chn j_t6 (by omega) I_n_t4 (by decide)
      have u_m_mdt4_t6 : Up t6 (m_md t4) := Or.inl j_t6.2.1
      refine Kp_push C_t6 (by omega) (fun t7 C_t7 X_t7 a_t7 b_t7 d_t7 w_t7 u_t7 v_t7 j_t7 l_t7 => ?_)
      have e_t7 := C_t7.2.2.2.1
      rw [a_t6] at a_t7
      rw [b_t6] at b_t7
      rw [d_t6] at d_t7
      rw [w_t6] at w_t7
      rw [u_t6] at u_t7
      rw [v_t6] at v_t7
      clear d_t6 w_t6 u_t6 v_t6 e_t6 a_t6 b_t6
      have I_n_t7 := I_n_t6.flat X_t7
      have f_n_t7 := f_n_t6.ex I_n_t6 (X_t7 0)
      have I_m_mdt4_t7 := I_m_mdt4_t6.flat X_t7
      have u_m_mdt4_t7 := u_m_mdt4_t6.ex I_m_mdt4_t6 (X_t7 0)
      refine Ok_bnc ?_
      try unfold b_X6_expression
      refine Kp_push C_t7 (by omega) (fun t9 C_t9 X_t9 a_t9 b_t9 d_t9 w_t9 u_t9 v_t9 j_t9 l_t9 => ?_)
      have e_t9 := C_t9.2.2.2.1
      rw [a_t7] at a_t9
      rw [b_t7] at b_t9
      rw [d_t7] at d_t9
      rw [w_t7] at w_t9
      rw [u_t7] at u_t9
      rw [v_t7] at v_t9
      clear d_t7 w_t7 u_t7 v_t7 e_t7 a_t7 b_t7
      have I_n_t9 := I_n_t7.flat X_t9
      have f_n_t9 := f_n_t7.ex I_n_t7 (X_t9 0)
      have I_m_mdt4_t9 := I_m_mdt4_t7.flat X_t9
      have u_m_mdt4_t9 := u_m_mdt4_t7.ex I_m_mdt4_t7 (X_t9 0)
      refine Kp_push C_t9 (by omega) (fun t10 C_t10 X_t10 a_t10 b_t10 d_t10 w_t10 u_t10 v_t10 j_t10 l_t10 => ?_)
      have e_t10 := C_t10.2.2.2.1
      rw [a_t9] at a_t10
      rw [b_t9] at b_t10
      rw [d_t9] at d_t10
      rw [w_t9] at w_t10
      rw [u_t9] at u_t10
      rw [v_t9] at v_t10
      clear d_t9 w_t9 u_t9 v_t9 e_t9 a_t9 b_t9
      have I_n_t10 := I_n_t9.flat X_t10
      have f_n_t10 := f_n_t9.ex I_n_t9 (X_t10 0)
      have I_m_mdt4_t10 := I_m_mdt4_t9.flat X_t10
      have u_m_mdt4_t10 := u_m_mdt4_t9.ex I_m_mdt4_t9 (X_t10 0)
      refine Ok_ret (show Ok _ _ _ from ?_)
      refine Ok_ret (show Ok _ _ _ from ?_)
      refine Ok_ret (show Ok _ _ _ from ?_)
      refine Ok_ret (show Ok _ _ _ from ?_)
      refine Hv_mk (Kv_c (x := (3, m_md t4, 0 &&& 1)) rfl (Kv_c (x := (2, m_md t4, (0 &&& 1) ||| (1 * 256))) rfl (Kv_c (x := (32, m_md t4, 0 &&& 1)) rfl hK))) (C_t10.1.2.2.2.2.2.2 hTt) C_t10 hT (by omega) (by omega) (by omega) ?_ ?_ ?_ (by omega) ?_ ?_ ?_
      · exact ⟨(Io_n (by decide) (show 0 &&& 1 < 4096 from by omega) I_m_mdt4_t10.1 I_m_mdt4_t10.2.1 I_m_mdt4_t10.2.2.1 (fun q => absurd q (by decide)) (fun q => absurd q (by decide)) I_m_mdt4_t10.2.2.2), (Nd_0 (by decide) Mo_nil), ⟨(Io_2 (by have := or_256 (b := 1) (show (0 &&& 1) < 256 from by omega); omega) (by have := or_256 (b := 1) (show (0 &&& 1) < 256 from by omega); omega) (by have := or_256 (b := 1) (show (0 &&& 1) < 256 from by omega); omega) I_m_mdt4_t10.1 I_m_mdt4_t10.2.1 I_m_mdt4_t10.2.2.1 I_m_mdt4_t10.2.2.2), (Nd_A (by decide) (Mo_cons (fun q => show m_md t4 ≤ m_md t4 from by omega) Mo_nil) (Or.inr ⟨(3, m_md t4, 0 &&& 1), List.mem_cons_self, rfl, Or.inl rfl⟩)), ⟨(Io_n (by decide) (show 0 &&& 1 < 4096 from by omega) I_m_mdt4_t10.1 I_m_mdt4_t10.2.1 I_m_mdt4_t10.2.2.1 (fun q => absurd q (by decide)) (fun q => absurd q (by decide)) I_m_mdt4_t10.2.2.2), (Nd_0 (by decide) (Mo_cons (fun q => show m_md t4 ≤ m_md t4 from by omega) (Mo_cons (fun q => show m_md t4 ≤ m_md t4 from by omega) Mo_nil))), Stk_step (N := n) (pop := (47, n, t)) (new := [(32, m_md t4, 0 &&& 1), (2, m_md t4, (0 &&& 1) ||| (1 * 256)), (3, m_md t4, 0 &&& 1)]) F0 C_t10.1.to2 (fun (h : nk 47 = false) => absurd h (by decide)) (fun q _ h => h (47, n, t) rfl) (fun _ => rfl) (fun y hy hk => ⟨rfl, (Mo_cons (fun q => show n ≤ m_md t4 from by omega) (Mo_cons (fun q => show n ≤ m_md t4 from by omega) (Mo_cons (fun q => show n ≤ m_md t4 from by omega) Mo_nil))) y hy hk⟩) (fun (h : 47 = 3 ∨ 47 = 18 ∨ 47 = 41) => absurd h (by decide)) (fun (h : 47 = 18) => absurd h (by decide)) (fun (h : 47 = 41 ∨ 47 = 42 ∨ 47 = 43) => absurd h (by decide)) r [] (fun y hy => absurd hy List.not_mem_nil) hS⟩⟩⟩
      · exact (Aj_up (x := (3, m_md t4, 0 &&& 1)) (Aj_up (x := (2, m_md t4, (0 &&& 1) ||| (1 * 256))) (Aj_sub (y := (32, m_md t4, 0 &&& 1)) hJ (Nat.le_of_ble_eq_true rfl)) (Or.inr (show 9 - ((0 &&& 1) ||| (1 * 256)) / 256 < 9 from by have := or_256 (b := 1) (show (0 &&& 1) < 256 from by omega); omega))) (Or.inr (show 2 < 9 - ((0 &&& 1) ||| (1 * 256)) / 256 from by have := or_256 (b := 1) (show (0 &&& 1) < 256 from by omega); omega)))
      · show m_dp t10 = (dlt 3 + (dlt 2 + (dlt 32 + sD r)))
        have : dlt 2 = 0 := rfl; have : dlt 3 = 0 := rfl; have : dlt 32 = 0 := rfl; have : dlt 47 = 0 := rfl; omega
      · show m_rw t10 = (rho 3 + (rho 2 + (rho 32 + sR r)))
        have : rho 2 = 0 := rfl; have : rho 3 = 0 := rfl; have : rho 32 = 0 := rfl; have : rho 47 = 0 := rfl; omega
      · show m_md t10 + (mu7 3 + (mu7 2 + (mu7 32 + sM r))) ≤ 3 * m_at t10 + 7 * (r.length + 1 + 1 + 1) + 10
        have : mu7 2 = 7 := rfl; have : mu7 3 = 5 := rfl; have : mu7 32 = 7 := rfl; have : mu7 47 = 7 := rfl; omega
      · show (wt 3 + (wt 2 + (wt 32 + sW r))) + 6 * (4096 - m_at t10) + 4 * (600 - (r.length + 1 + 1 + 1)) < (wt 47 + sW r) + 6 * (4096 - m_at t0) + 4 * (600 - (r.length + 1))
        have : wt 2 = 5 := rfl; have : wt 3 = 3 := rfl; have : wt 32 = 5 := rfl; have : wt 47 = 5 := rfl; omega
    · have w_t4 := Nat.pos_of_ne_zero w_t4
      have I_n_t4 := I_n_t0.flat X_t4
      refine Ok_bnc ?_
      try unfold b_X6_exprs
      refine Kp_child C_t4 I_n_t4.1 I_n_t4.2.1 I_n_t4.2.2.1 (by omega) (by omega) (by decide) (by decide) (fun t12 C_t12 X_t12 a_t12 b_t12 d_t12 w_t12 u_t12 v_t12 j_t12 l_t12 => ?_)
      have e_t12 := C_t12.2.2.2.1
      have I_n_t12 := I_n_t4.chd X_t12 j_t12
      have f_n_t12 : Fz t12 n := j_t12.2.2.2.2.1
      have I_m_mdt4_t12 : Nq t12 (m_md t4) := Nq.chn j_t12 (by omega) I_n_t4 (by decide)
      have u_m_mdt4_t12 : Up t12 (m_md t4) := Or.inl j_t12.2.1
      refine Kp_push C_t12 (by omega) (fun t13 C_t13 X_t13 a_t13 b_t13 d_t13 w_t13 u_t13 v_t13 j_t13 l_t13 => ?_)
      have e_t13 := C_t13.2.2.2.1
      have I_n_t13 := I_n_t12.flat X_t13
      have f_n_t13 := f_n_t12.ex I_n_t12 (X_t13 0)
      have I_m_mdt4_t13 := I_m_mdt4_t12.flat X_t13
      have u_m_mdt4_t13 := u_m_mdt4_t12.ex I_m_mdt4_t12 (X_t13 0)
      refine Ok_bnc ?_
      try unfold b_X6_expression
      refine Kp_push C_t13 (by omega) (fun t15 C_t15 X_t15 a_t15 b_t15 d_t15 w_t15 u_t15 v_t15 j_t15 l_t15 => ?_)
      have e_t15 := C_t15.2.2.2.1
      have I_n_t15 := I_n_t13.flat X_t15
      have f_n_t15 := f_n_t13.ex I_n_t13 (X_t15 0)
      have I_m_mdt4_t15 := I_m_mdt4_t13.flat X_t15
      have u_m_mdt4_t15 := u_m_mdt4_t13.ex I_m_mdt4_t13 (X_t15 0)
      refine Kp_push C_t15 (by omega) (fun t16 C_t16 X_t16 a_t16 b_t16 d_t16 w_t16 u_t16 v_t16 j_t16 l_t16 => ?_)
      have e_t16 := C_t16.2.2.2.1
      have I_n_t16 := I_n_t15.flat X_t16
      have f_n_t16 := f_n_t15.ex I_n_t15 (X_t16 0)
      have I_m_mdt4_t16 := I_m_mdt4_t15.flat X_t16
      have u_m_mdt4_t16 := u_m_mdt4_t15.ex I_m_mdt4_t15 (X_t16 0)
      refine Ok_ret (show Ok _ _ _ from ?_)
      refine Ok_ret (show Ok _ _ _ from ?_)
      refine Ok_ret (show Ok _ _ _ from ?_)
      refine Ok_ret (show Ok _ _ _ from ?_)
      exact Or.inl ⟨Nat.ne_of_gt (show 0 < m_wr t16 from by omega), by omega, by omega, C_t16.2.2.2.2.2, by omega⟩
  · refine Ok_ife (show t < 2147483648 from by omega) (by decide) (fun q17 => ?_) (fun q17 => ?_)
    · refine Kp_pass C_t0 hT (by omega) (by decide) (by omega) (fun t18 C_t18 X_t18 a_t18 b_t18 d_t18 w_t18 u_t18 v_t18 j_t18 l_t18 => ?_)
      have e_t18 := C_t18.2.2.2.1
      rcases w_t18 with ⟨w_t18, y_t18⟩ | ⟨w_t18, wb_t18⟩
      · have z_t18 : m_at t0 < m_ct t0 := lo_ne (Nat.ne_of_gt (show 0 < lo t0 (m_at t0) from by omega))
        have I_n_t18 := I_n_t0.flat X_t18
        refine Ok_bnc ?_
        try unfold b_X6_exprs
        refine Kp_child C_t18 I_n_t18.1 I_n_t18.2.1 I_n_t18.2.2.1 (by omega) (by omega) (by decide) (by decide) (fun t20 C_t20 X_t20 a_t20 b_t20 d_t20 w_t20 u_t20 v_t20 j_t20 l_t20 => ?_)
        have e_t20 := C_t20.2.2.2.1
        rw [a_t18] at a_t20
        rw [b_t18] at b_t20
        rw [d_t18] at d_t20
        rw [w_t18] at w_t20
        rw [u_t18] at u_t20
        rw [v_t18] at v_t20
        clear d_t18 w_t18 u_t18 v_t18 e_t18 a_t18
        have I_n_t20 := I_n_t18.chd X_t20 j_t20
        have f_n_t20 : Fz t20 n := j_t20.2.2.2.2.1
        have I_m_mdt18_t20 : Nq t20 (m_md t18) := Nq.chn j_t20 (by omega) I_n_t18 (by decide)
        have u_m_mdt18_t20 : Up t20 (m_md t18) := Or.inl j_t20.2.1
        refine Kp_push C_t20 (by omega) (fun t21 C_t21 X_t21 a_t21 b_t21 d_t21 w_t21 u_t21 v_t21 j_t21 l_t21 => ?_)
        have e_t21 := C_t21.2.2.2.1
        rw [a_t20] at a_t21
        rw [b_t20] at b_t21
        rw [d_t20] at d_t21
        rw [w_t20] at w_t21
        rw [u_t20] at u_t21
        rw [v_t20] at v_t21
        clear d_t20 w_t20 u_t20 v_t20 e_t20 a_t20 b_t20
        have I_n_t21 := I_n_t20.flat X_t21
        have f_n_t21 := f_n_t20.ex I_n_t20 (X_t21 0)
        have I_m_mdt18_t21 := I_m_mdt18_t20.flat X_t21
        have u_m_mdt18_t21 := u_m_mdt18_t20.ex I_m_mdt18_t20 (X_t21 0)
        refine Ok_bnc ?_
        try unfold b_X6_expression
        refine Kp_push C_t21 (by omega) (fun t23 C_t23 X_t23 a_t23 b_t23 d_t23 w_t23 u_t23 v_t23 j_t23 l_t23 => ?_)
        have e_t23 := C_t23.2.2.2.1
        rw [a_t21] at a_t23
        rw [b_t21] at b_t23
        rw [d_t21] at d_t23
        rw [w_t21] at w_t23
        rw [u_t21] at u_t23
        rw [v_t21] at v_t23
        clear d_t21 w_t21 u_t21 v_t21 e_t21 a_t21 b_t21
        have I_n_t23 := I_n_t21.flat X_t23
        have f_n_t23 := f_n_t21.ex I_n_t21 (X_t23 0)
        have I_m_mdt18_t23 := I_m_mdt18_t21.flat X_t23
        have u_m_mdt18_t23 := u_m_mdt18_t21.ex I_m_mdt18_t21 (X_t23 0)
        refine Kp_push C_t23 (by omega) (fun t24 C_t24 X_t24 a_t24 b_t24 d_t24 w_t24 u_t24 v_t24 j_t24 l_t24 => ?_)
        have e_t24 := C_t24.2.2.2.1
        rw [a_t23] at a_t24
        rw [b_t23] at b_t24
        rw [d_t23] at d_t24
        rw [w_t23] at w_t24
        rw [u_t23] at u_t24
        rw [v_t23] at v_t24
        clear d_t23 w_t23 u_t23 v_t23 e_t23 a_t23 b_t23
        have I_n_t24 := I_n_t23.flat X_t24
        have f_n_t24 := f_n_t23.ex I_n_t23 (X_t24 0)
        have I_m_mdt18_t24 := I_m_mdt18_t23.flat X_t24
        have u_m_mdt18_t24 := u_m_mdt18_t23.ex I_m_mdt18_t23 (X_t24 0)
        refine Ok_ret (show Ok _ _ _ from ?_)
        refine Ok_ret (show Ok _ _ _ from ?_)
        refine Ok_ret (show Ok _ _ _ from ?_)
        refine Ok_ret (show Ok _ _ _ from ?_)
        refine Hv_mk (Kv_c (x := (3, m_md t18, 0 &&& 1)) rfl (Kv_c (x := (2, m_md t18, (0 &&& 1) ||| (1 * 256))) rfl (Kv_c (x := (32, m_md t18, 0 &&& 1)) rfl hK))) (C_t24.1.2.2.2.2.2.2 hTt) C_t24 hT (by omega) (by omega) (by omega) ?_ ?_ ?_ (by omega) ?_ ?_ ?_
        · exact ⟨(Io_n (by decide) (show 0 &&& 1 < 4096 from by omega) I_m_mdt18_t24.1 I_m_mdt18_t24.2.1 I_m_mdt18_t24.2.2.1 (fun q => absurd q (by decide)) (fun q => absurd q (by decide)) I_m_mdt18_t24.2.2.2), (Nd_0 (by decide) Mo_nil), ⟨(Io_2 (by have := or_256 (b := 1) (show (0 &&& 1) < 256 from by omega); omega) (by have := or_256 (b := 1) (show (0 &&& 1) < 256 from by omega); omega) (by have := or_256 (b := 1) (show (0 &&& 1) < 256 from by omega); omega) I_m_mdt18_t24.1 I_m_mdt18_t24.2.1 I_m_mdt18_t24.2.2.1 I_m_mdt18_t24.2.2.2), (Nd_A (by decide) (Mo_cons (fun q => show m_md t18 ≤ m_md t18 from by omega) Mo_nil) (Or.inr ⟨(3, m_md t18, 0 &&& 1), List.mem_cons_self, rfl, Or.inl rfl⟩)), ⟨(Io_n (by decide) (show 0 &&& 1 < 4096 from by omega) I_m_mdt18_t24.1 I_m_mdt18_t24.2.1 I_m_mdt18_t24.2.2.1 (fun q => absurd q (by decide)) (fun q => absurd q (by decide)) I_m_mdt18_t24.2.2.2), (Nd_0 (by decide) (Mo_cons (fun q => show m_md t18 ≤ m_md t18 from by omega) (Mo_cons (fun q => show m_md t18 ≤ m_md t18 from by omega) Mo_nil))), Stk_step (N := n) (pop := (47, n, t)) (new := [(32, m_md t18, 0 &&& 1), (2, m_md t18, (0 &&& 1) ||| (1 * 256)), (3, m_md t18, 0 &&& 1)]) F0 C_t24.1.to2 (fun (h : nk 47 = false) => absurd h (by decide)) (fun q _ h => h (47, n, t) rfl) (fun _ => rfl) (fun y hy hk => ⟨rfl, (Mo_cons (fun q => show n ≤ m_md t18 from by omega) (Mo_cons (fun q => show n ≤ m_md t18 from by omega) (Mo_cons (fun q => show n ≤ m_md t18 from by omega) Mo_nil))) y hy hk⟩) (fun (h : 47 = 3 ∨ 47 = 18 ∨ 47 = 41) => absurd h (by decide)) (fun (h : 47 = 18) => absurd h (by decide)) (fun (h : 47 = 41 ∨ 47 = 42 ∨ 47 = 43) => absurd h (by decide)) r [] (fun y hy => absurd hy List.not_mem_nil) hS⟩⟩⟩
        · exact (Aj_up (x := (3, m_md t18, 0 &&& 1)) (Aj_up (x := (2, m_md t18, (0 &&& 1) ||| (1 * 256))) (Aj_sub (y := (32, m_md t18, 0 &&& 1)) hJ (Nat.le_of_ble_eq_true rfl)) (Or.inr (show 9 - ((0 &&& 1) ||| (1 * 256)) / 256 < 9 from by have := or_256 (b := 1) (show (0 &&& 1) < 256 from by omega); omega))) (Or.inr (show 2 < 9 - ((0 &&& 1) ||| (1 * 256)) / 256 from by have := or_256 (b := 1) (show (0 &&& 1) < 256 from by omega); omega)))
        · show m_dp t24 = (dlt 3 + (dlt 2 + (dlt 32 + sD r)))
          have : dlt 2 = 0 := rfl; have : dlt 3 = 0 := rfl; have : dlt 32 = 0 := rfl; have : dlt 47 = 0 := rfl; omega
        · show m_rw t24 = (rho 3 + (rho 2 + (rho 32 + sR r)))
          have : rho 2 = 0 := rfl; have : rho 3 = 0 := rfl; have : rho 32 = 0 := rfl; have : rho 47 = 0 := rfl; omega
        · show m_md t24 + (mu7 3 + (mu7 2 + (mu7 32 + sM r))) ≤ 3 * m_at t24 + 7 * (r.length + 1 + 1 + 1) + 10
          have : mu7 2 = 7 := rfl; have : mu7 3 = 5 := rfl; have : mu7 32 = 7 := rfl; have : mu7 47 = 7 := rfl; omega
        · show (wt 3 + (wt 2 + (wt 32 + sW r))) + 6 * (4096 - m_at t24) + 4 * (600 - (r.length + 1 + 1 + 1)) < (wt 47 + sW r) + 6 * (4096 - m_at t0) + 4 * (600 - (r.length + 1))
          have : wt 2 = 5 := rfl; have : wt 3 = 3 := rfl; have : wt 32 = 5 := rfl; have : wt 47 = 5 := rfl; omega
      · have w_t18 := Nat.pos_of_ne_zero w_t18
        have I_n_t18 := I_n_t0.flat X_t18
        refine Ok_bnc ?_
        try unfold b_X6_exprs
        refine Kp_child C_t18 I_n_t18.1 I_n_t18.2.1 I_n_t18.2.2.1 (by omega) (by omega) (by decide) (by decide) (fun t26 C_t26 X_t26 a_t26 b_t26 d_t26 w_t26 u_t26 v_t26 j_t26 l_t26 => ?_)
        have e_t26 := C_t26.2.2.2.1
        have I_n_t26 := I_n_t18.chd X_t26 j_t26
        have f_n_t26 : Fz t26 n := j_t26.2.2.2.2.1
        have I_m_mdt18_t26 : Nq t26 (m_md t18) := Nq.chn j_t26 (by omega) I_n_t18 (by decide)
        have u_m_mdt18_t26 : Up t26 (m_md t18) := Or.inl j_t26.2.1
        refine Kp_push C_t26 (by omega) (fun t27 C_t27 X_t27 a_t27 b_t27 d_t27 w_t27 u_t27 v_t27 j_t27 l_t27 => ?_)
        have e_t27 := C_t27.2.2.2.1
        have I_n_t27 := I_n_t26.flat X_t27
        have f_n_t27 := f_n_t26.ex I_n_t26 (X_t27 0)
        have I_m_mdt18_t27 := I_m_mdt18_t26.flat X_t27
        have u_m_mdt18_t27 := u_m_mdt18_t26.ex I_m_mdt18_t26 (X_t27 0)
        refine Ok_bnc ?_
        try unfold b_X6_expression
        refine Kp_push C_t27 (by omega) (fun t29 C_t29 X_t29 a_t29 b_t29 d_t29 w_t29 u_t29 v_t29 j_t29 l_t29 => ?_)
        have e_t29 := C_t29.2.2.2.1
        have I_n_t29 := I_n_t27.flat X_t29
        have f_n_t29 := f_n_t27.ex I_n_t27 (X_t29 0)
        have I_m_mdt18_t29 := I_m_mdt18_t27.flat X_t29
        have u_m_mdt18_t29 := u_m_mdt18_t27.ex I_m_mdt18_t27 (X_t29 0)
        refine Kp_push C_t29 (by omega) (fun t30 C_t30 X_t30 a_t30 b_t30 d_t30 w_t30 u_t30 v_t30 j_t30 l_t30 => ?_)
        have e_t30 := C_t30.2.2.2.1
        have I_n_t30 := I_n_t29.flat X_t30
        have f_n_t30 := f_n_t29.ex I_n_t29 (X_t30 0)
        have I_m_mdt18_t30 := I_m_mdt18_t29.flat X_t30
        have u_m_mdt18_t30 := u_m_mdt18_t29.ex I_m_mdt18_t29 (X_t30 0)
        refine Ok_ret (show Ok _ _ _ from ?_)
        refine Ok_ret (show Ok _ _ _ from ?_)
        refine Ok_ret (show Ok _ _ _ from ?_)
        refine Ok_ret (show Ok _ _ _ from ?_)
        exact Or.inl ⟨Nat.ne_of_gt (show 0 < m_wr t30 from by omega), by omega, by omega, C_t30.2.2.2.2.2, by omega⟩
    · refine Ok_ret (show Ok _ _ _ from ?_)
      refine Ok_ret (show Ok _ _ _ from ?_)
      refine Hv_mk hK (C_t0.1.2.2.2.2.2.2 hTt) C_t0 hT (by omega) (by omega) (by omega) ?_ ?_ ?_ (by omega) ?_ ?_ ?_
      · exact Stk_step (N := n) (pop := (47, n, t)) (new := []) F0 C_t0.1.to2 (fun (h : nk 47 = false) => absurd h (by decide)) (fun q _ h => h (47, n, t) rfl) (fun _ => rfl) (fun y hy hk => ⟨rfl, Mo_nil (n := n) y hy hk⟩) (fun (h : 47 = 3 ∨ 47 = 18 ∨ 47 = 41) => absurd h (by decide)) (fun (h : 47 = 18) => absurd h (by decide)) (fun (h : 47 = 41 ∨ 47 = 42 ∨ 47 = 43) => absurd h (by decide)) r [] (fun y hy => absurd hy List.not_mem_nil) hS
      · exact Aj_tl hJ
      · show m_dp t0 = sD r
        have : dlt 47 = 0 := rfl; omega
      · show m_rw t0 = sR r
        have : rho 47 = 0 := rfl; omega
      · show m_md t0 + sM r ≤ 3 * m_at t0 + 7 * (r.length) + 10
        have : mu7 47 = 7 := rfl; omega
      · show sW r + 6 * (4096 - m_at t0) + 4 * (600 - (r.length)) < (wt 47 + sW r) + 6 * (4096 - m_at t0) + 4 * (600 - (r.length + 1))
        have : wt 47 = 5 := rfl; omega

