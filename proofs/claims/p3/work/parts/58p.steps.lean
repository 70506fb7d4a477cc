/-! The steps of the reference, one by one. -/
theorem S_48 {t0 : Mm} {n t : Nat} {r : List It} (H : Hp t0 (48, n, t) r) {E : Mm → Prop} : Ok (Qh (mz t0 ((48, n, t) :: r))) E (b_X6_step 48 n t t0) := by
  obtain ⟨hK, hT, hc, hw0, ha, hC, hS, hJ, hdp, hdl, hrw, hmd, htd, hln, hm16, hI, hD, hTt⟩ := Hp_out H
  have C_t0 := hC n
  have F0 := C_t0.2.1
  have I_n_t0 : Nq t0 n := ⟨(hI.2.1 rfl).1, (hI.2.1 rfl).2.1, (hI.2.1 rfl).2.2, hI.2.2.2 rfl⟩
  have m_n_t0 := I_n_t0.1
  have ht : t < m_md t0 := hI.1.2.2.2.1 rfl
  have hdp : m_dp t0 = dlt 48 + sD r := hdp
  have hrw : m_rw t0 = rho 48 + sR r := hrw
  have hmd : m_md t0 + mu7 48 + sM r ≤ 3 * m_at t0 + 7 * r.length + 17 := hmd
  have hand : t &&& 1 ≤ 1 := Nat.and_le_right
  have h01 : (0 &&& 1 : Nat) = 0 := rfl
  have h02 : (1 : Nat) * 256 = 256 := rfl
  have hq1 : dlt 48 = 0 := rfl
  have hq2 : rho 48 = 0 := rfl
  have hq3 : mu7 48 = 0 := rfl
  unfold b_X6_step
  refine Ok_ifl (by decide) (by decide) (fun _ => ?_) (fun q => absurd (by decide) q)
  refine Ok_ifl (by decide) (by decide) (fun q => absurd q (by decide)) (fun _ => ?_)
  refine Ok_ifl (by decide) (by decide) (fun q => absurd q (by decide)) (fun _ => ?_)
  refine Ok_ifl (by decide) (by decide) (fun q => absurd q (by decide)) (fun _ => ?_)
  refine Ok_bnc ?_
  try unfold b_X6_stating
  refine Ok_ck (by decide) ?_
  refine Ok_ife (by decide) (by decide) (fun q => absurd q (by decide)) (fun _ => ?_)
  refine Ok_ife (by decide) (by decide) (fun q => absurd q (by decide)) (fun _ => ?_)
  refine Ok_ife (by decide) (by decide) (fun q => absurd q (by decide)) (fun _ => ?_)
  refine Ok_ife (by decide) (by decide) (fun q => absurd q (by decide)) (fun _ => ?_)
  refine Ok_ife (by decide) (by decide) (fun q => absurd q (by decide)) (fun _ => ?_)
  refine Ok_ife (by decide) (by decide) (fun q => absurd q (by decide)) (fun _ => ?_)
  refine Ok_ife (by decide) (by decide) (fun q => absurd q (by decide)) (fun _ => ?_)
  refine Ok_ife (by decide) (by decide) (fun _ => ?_) (fun q => absurd (by decide) q)
  refine Ok_bnc ?_
  try unfold b_X6_forPost
  refine Kp_look C_t0 hT (by omega) ?_
  refine Ok_ife (Nat.lt_trans (lo_lt (C_t0.tk hT) _) (by decide)) (by decide) (fun q3 => ?_) (fun q3 => ?_)
  · refine Ok_ck (show t < 65536 from by omega) ?_
    refine Kp_tk C_t0 (fun t4 C_t4 X_t4 a_t4 b_t4 d_t4 w_t4 u_t4 v_t4 j_t4 l_t4 => ?_)
    have e_t4 := C_t4.2.2.2.1
    have I_n_t4 := I_n_t0.flat X_t4
    refine Kp_child C_t4 I_n_t4.1 I_n_t4.2.1 I_n_t4.2.2.1 (by omega) (by omega) (by decide) (by decide) (fun t5 C_t5 X_t5 a_t5 b_t5 d_t5 w_t5 u_t5 v_t5 j_t5 l_t5 => ?_)
    have e_t5 := C_t5.2.2.2.1
    rw [a_t4] at a_t5
    rw [b_t4] at b_t5
    rw [d_t4] at d_t5
    rw [w_t4] at w_t5
    rw [u_t4] at u_t5
    rw [v_t4] at v_t5
    clear d_t4 w_t4 u_t4 v_t4 e_t4 a_t4
    have I_n_t5 := I_n_t4.chd X_t5 j_t5
    have f_n_t5 : Fz t5 n := j_t5.2.2.2.2.1
    have I_m_mdt4_t5 : Nq t5 (m_md t4) := Nq.chn j_t5 (by omega) I_n_t4 (by decide)
    have u_m_mdt4_t5 : Up t5 (m_md t4) := Or.inl j_t5.2.1
    have z_t6 : m_at t5 < m_ct t5 := lo_ne (Nat.ne_of_gt (show 0 < lo t5 (m_at t5) from by omega))
    refine Kp_at C_t5 (fun t6 C_t6 X_t6 a_t6 b_t6 d_t6 w_t6 u_t6 v_t6 j_t6 l_t6 => ?_)
    have e_t6 := C_t6.2.2.2.1
    rw [a_t5] at a_t6
    rw [b_t5] at b_t6
    rw [d_t5] at d_t6
    rw [w_t5] at w_t6
    rw [u_t5] at u_t6
    rw [v_t5] at v_t6
    rw [a_t5, e_t5] at z_t6
    clear d_t5 w_t5 u_t5 v_t5 e_t5 a_t5 b_t5
    have I_n_t6 := I_n_t5.flat X_t6
    have f_n_t6 := f_n_t5.ex I_n_t5 (X_t6 0)
    have I_m_mdt4_t6 := I_m_mdt4_t5.flat X_t6
    have u_m_mdt4_t6 := u_m_mdt4_t5.ex I_m_mdt4_t5 (X_t6 0)
    refine Kp_push C_t6 (by omega) (fun t7 C_t7 X_t7 a_t7 b_t7 d_t7 w_t7 u_t7 v_t7 j_t7 l_t7 => ?_)
    have e_t7 := C_t7.2.2.2.1
    rw [a_t6] at a_t7
    rw [b_t6] at b_t7
    rw [d_t6] at d_t7
    rw [w_t6] at w_t7
    rw [u_t6] at u_t7
    rw [v_t6] at v_t7
    clear d_t6 w_t6 u_t6 v_t6 e_t6 a_t6 b_t6
    have I_n_t7 := I_n_t6.flat X_t7
    have f_n_t7 := f_n_t6.ex I_n_t6 (X_t7 0)
    have I_m_mdt4_t7 := I_m_mdt4_t6.flat X_t7
    have u_m_mdt4_t7 := u_m_mdt4_t6.ex I_m_mdt4_t6 (X_t7 0)
    refine Kp_look C_t7 hT (by omega) ?_
    refine Ok_ife (Nat.lt_trans (lo_lt (C_t7.tk hT) _) (by decide)) (by decide) (fun q8 => ?_) (fun q8 => ?_)
    · refine Ok_ret (show Ok _ _ _ from ?_)
      refine Ok_ret (show Ok _ _ _ from ?_)
      refine Hv_mk (Kv_c (x := (38, n, 0)) rfl hK) (C_t7.1.2.2.2.2.2.2 hTt) C_t7 hT (by omega) (by omega) (by omega) ?_ ?_ ?_ (by omega) ?_ ?_ ?_
      · exact ⟨(Io_n (by decide) (by decide) I_n_t7.1 I_n_t7.2.1 I_n_t7.2.2.1 (fun q => absurd q (by decide)) (fun q => absurd q (by decide)) I_n_t7.2.2.2), (Nd_0 (by decide) Mo_nil), Stk_step (N := n) (pop := (48, n, t)) (new := [(38, n, 0)]) F0 C_t7.1.to2 (fun (h : nk 48 = false) => absurd h (by decide)) (fun q _ h => h (48, n, t) rfl) (fun _ => rfl) (fun y hy hk => ⟨rfl, (Mo_cons (fun q => show n ≤ n from by omega) Mo_nil) y hy hk⟩) (fun (h : 48 = 3 ∨ 48 = 18 ∨ 48 = 41) => absurd h (by decide)) (fun (h : 48 = 18) => absurd h (by decide)) (fun (h : 48 = 41 ∨ 48 = 42 ∨ 48 = 43) => absurd h (by decide)) r [] (fun y hy => absurd hy List.not_mem_nil) hS⟩
      · exact (Aj_sub (y := (38, n, 0)) hJ (Nat.le_of_ble_eq_true rfl))
      · show m_dp t7 = (dlt 38 + sD r)
        have : dlt 38 = 0 := rfl; have : dlt 48 = 0 := rfl; omega
      · show m_rw t7 = (rho 38 + sR r)
        have : rho 38 = 0 := rfl; have : rho 48 = 0 := rfl; omega
      · show m_md t7 + (mu7 38 + sM r) ≤ 3 * m_at t7 + 7 * (r.length + 1) + 10
        have : mu7 38 = 2 := rfl; have : mu7 48 = 0 := rfl; omega
      · show (wt 38 + sW r) + 6 * (4096 - m_at t7) + 4 * (600 - (r.length + 1)) < (wt 48 + sW r) + 6 * (4096 - m_at t0) + 4 * (600 - (r.length + 1))
        have : wt 38 = 0 := rfl; have : wt 48 = 0 := rfl; omega
    · refine Kp_push C_t7 (by omega) (fun t9 C_t9 X_t9 a_t9 b_t9 d_t9 w_t9 u_t9 v_t9 j_t9 l_t9 => ?_)
      have e_t9 := C_t9.2.2.2.1
      rw [a_t7] at a_t9
      rw [b_t7] at b_t9
      rw [d_t7] at d_t9
      rw [w_t7] at w_t9
      rw [u_t7] at u_t9
      rw [v_t7] at v_t9
      clear d_t7 w_t7 u_t7 v_t7 e_t7 a_t7 b_t7
      have I_n_t9 := I_n_t7.flat X_t9
      have f_n_t9 := f_n_t7.ex I_n_t7 (X_t9 0)
      have I_m_mdt4_t9 := I_m_mdt4_t7.flat X_t9
      have u_m_mdt4_t9 := u_m_mdt4_t7.ex I_m_mdt4_t7 (X_t9 0)
      refine Ok_ret (show Ok _ _ _ from ?_)
      refine Ok_ret (show Ok _ _ _ from ?_)
      refine Hv_mk (Kv_c (x := (41, m_md t4, 65)) rfl (Kv_c (x := (38, n, 0)) rfl hK)) (C_t9.1.2.2.2.2.2.2 hTt) C_t9 hT (by omega) (by omega) (by omega) ?_ ?_ ?_ (by omega) ?_ ?_ ?_
      · exact ⟨(Io_41 (by decide) I_m_mdt4_t9.1 I_m_mdt4_t9.2.1 I_m_mdt4_t9.2.2.1 u_m_mdt4_t9 I_m_mdt4_t9.2.2.2), (Nd_0 (by decide) Mo_nil), ⟨(Io_n (by decide) (by decide) I_n_t9.1 I_n_t9.2.1 I_n_t9.2.2.1 (fun q => absurd q (by decide)) (fun q => absurd q (by decide)) I_n_t9.2.2.2), (Nd_0 (by decide) (Mo_cons (fun q => show n ≤ m_md t4 from by omega) Mo_nil)), Stk_step (N := n) (pop := (48, n, t)) (new := [(38, n, 0), (41, m_md t4, 65)]) F0 C_t9.1.to2 (fun (h : nk 48 = false) => absurd h (by decide)) (fun q _ h => h (48, n, t) rfl) (fun _ => rfl) (fun y hy hk => ⟨rfl, (Mo_cons (fun q => show n ≤ n from by omega) (Mo_cons (fun q => show n ≤ m_md t4 from by omega) Mo_nil)) y hy hk⟩) (fun (h : 48 = 3 ∨ 48 = 18 ∨ 48 = 41) => absurd h (by decide)) (fun (h : 48 = 18) => absurd h (by decide)) (fun (h : 48 = 41 ∨ 48 = 42 ∨ 48 = 43) => absurd h (by decide)) r [] (fun y hy => absurd hy List.not_mem_nil) hS⟩⟩
      · exact (Aj_up (x := (41, m_md t4, 65)) (Aj_sub (y := (38, n, 0)) hJ (Nat.le_of_ble_eq_true rfl)) (Or.inr (Nat.le_of_ble_eq_true rfl)))
      · show m_dp t9 = (dlt 41 + (dlt 38 + sD r))
        have : dlt 38 = 0 := rfl; have : dlt 41 = 0 := rfl; have : dlt 48 = 0 := rfl; omega
      · show m_rw t9 = (rho 41 + (rho 38 + sR r))
        have : rho 38 = 0 := rfl; have : rho 41 = 0 := rfl; have : rho 48 = 0 := rfl; omega
      · show m_md t9 + (mu7 41 + (mu7 38 + sM r)) ≤ 3 * m_at t9 + 7 * (r.length + 1 + 1) + 10
        have : mu7 38 = 2 := rfl; have : mu7 41 = 6 := rfl; have : mu7 48 = 0 := rfl; omega
      · show (wt 41 + (wt 38 + sW r)) + 6 * (4096 - m_at t9) + 4 * (600 - (r.length + 1 + 1)) < (wt 48 + sW r) + 6 * (4096 - m_at t0) + 4 * (600 - (r.length + 1))
        have : wt 38 = 0 := rfl; have : wt 41 = 6 := rfl; have : wt 48 = 0 := rfl; omega
  · refine Kp_error C_t0 (by omega) (fun t10 C_t10 X_t10 a_t10 b_t10 d_t10 w_t10 u_t10 v_t10 j_t10 l_t10 => ?_)
    have wb_t10 := w_t10.2
    have w_t10 := Nat.pos_of_ne_zero w_t10.1
    have e_t10 := C_t10.2.2.2.1
    have I_n_t10 := I_n_t0.flat X_t10
    refine Ok_ret (show Ok _ _ _ from ?_)
    refine Ok_ret (show Ok _ _ _ from ?_)
    exact Or.inl ⟨Nat.ne_of_gt (show 0 < m_wr t10 from by omega), by omega, by omega, C_t10.2.2.2.2.2, by omega⟩

theorem S_49 {t0 : Mm} {n t : Nat} {r : List It} (H : Hp t0 (49, n, t) r) {E : Mm → Prop} : Ok (Qh (mz t0 ((49, n, t) :: r))) E (b_X6_step 49 n t t0) := by
  obtain ⟨hK, hT, hc, hw0, ha, hC, hS, hJ, hdp, hdl, hrw, hmd, htd, hln, hm16, hI, hD, hTt⟩ := Hp_out H
  have C_t0 := hC n
  have F0 := C_t0.2.1
  have I_n_t0 : Nq t0 n := ⟨(hI.2.1 rfl).1, (hI.2.1 rfl).2.1, (hI.2.1 rfl).2.2, hI.2.2.2 rfl⟩
  have m_n_t0 := I_n_t0.1
  have ht : t < 4096 := hI.1.1 (show 49 ≠ 42 by decide) (show 49 ≠ 48 by decide)
  have hdp : m_dp t0 = dlt 49 + sD r := hdp
  have hrw : m_rw t0 = rho 49 + sR r := hrw
  have hmd : m_md t0 + mu7 49 + sM r ≤ 3 * m_at t0 + 7 * r.length + 17 := hmd
  have hand : t &&& 1 ≤ 1 := Nat.and_le_right
  have h01 : (0 &&& 1 : Nat) = 0 := rfl
  have h02 : (1 : Nat) * 256 = 256 := rfl
  have hq1 : dlt 49 = 0 := rfl
  have hq2 : rho 49 = 0 := rfl
  have hq3 : mu7 49 = 1 := rfl
  obtain ⟨f5, -, hH50⟩ : N44 t0 n [] := (hD.2.2.2.2.1 (show 49 = 44 ∨ 49 = 46 ∨ 49 = 49 by decide)).resolve_left (fun ⟨_, h, _⟩ => by cases h)
  have f_n_t0 : Fz t0 n := f5
  obtain ⟨hla0, hla2, -, -⟩ := Fo_lp F0 I_n_t0 f_n_t0
  have hla1 : m_la t0 n - 1 < m_md t0 := by omega
  have u_n_t0 : Up t0 n := hI.2.2.1 rfl
  unfold b_X6_step
  refine Ok_ifl (by decide) (by decide) (fun _ => ?_) (fun q => absurd (by decide) q)
  refine Ok_ifl (by decide) (by decide) (fun q => absurd q (by decide)) (fun _ => ?_)
  refine Ok_ifl (by decide) (by decide) (fun q => absurd q (by decide)) (fun _ => ?_)
  refine Ok_ifl (by decide) (by decide) (fun q => absurd q (by decide)) (fun _ => ?_)
  refine Ok_bnc ?_
  try unfold b_X6_stating
  refine Ok_ck (by decide) ?_
  refine Ok_ife (by decide) (by decide) (fun q => absurd q (by decide)) (fun _ => ?_)
  refine Ok_ife (by decide) (by decide) (fun q => absurd q (by decide)) (fun _ => ?_)
  refine Ok_ife (by decide) (by decide) (fun q => absurd q (by decide)) (fun _ => ?_)
  refine Ok_ife (by decide) (by decide) (fun q => absurd q (by decide)) (fun _ => ?_)
  refine Ok_ife (by decide) (by decide) (fun q => absurd q (by decide)) (fun _ => ?_)
  refine Ok_ife (by decide) (by decide) (fun q => absurd q (by decide)) (fun _ => ?_)
  refine Ok_ife (by decide) (by decide) (fun q => absurd q (by decide)) (fun _ => ?_)
  refine Ok_ife (by decide) (by decide) (fun q => absurd q (by decide)) (fun _ => ?_)
  refine Ok_ife (by decide) (by decide) (fun _ => ?_) (fun q => absurd (by decide) q)
  refine Ok_bnc ?_
  try unfold b_X6_switchRest
  refine Ok_ck (show n < 65536 from by omega) ?_
  refine Ok_ck (show (m_la t0 n) ≠ 0 from by omega) ?_
  refine Ok_ck (show ((m_la t0 n) - 1) < 65536 from by omega) ?_
  refine Ok_ife (Nat.lt_trans (C_t0.2.2.2.2.2.2.1 _) (by decide)) (by decide) (fun q3 => ?_) (fun q3 => ?_)
  · refine Ok_bnc ?_
    try unfold b_X6_body
    refine Kp_look C_t0 hT (by omega) ?_
    refine Ok_ife (Nat.lt_trans (lo_lt (C_t0.tk hT) _) (by decide)) (by decide) (fun q5 => ?_) (fun q5 => ?_)
    · refine Kp_more C_t0 (by omega) (by omega) (fun t6 C_t6 X_t6 a_t6 b_t6 d_t6 w_t6 u_t6 v_t6 j_t6 l_t6 => ?_)
      have e_t6 := C_t6.2.2.2.1
      rcases w_t6 with ⟨w_t6, y_t6⟩ | ⟨w_t6, wb_t6⟩
      · rw [d_t6] at y_t6
        have I_n_t6 := I_n_t0.flat X_t6
        have f_n_t6 := f_n_t0.ex I_n_t0 (X_t6 0)
        have u_n_t6 := u_n_t0.ex I_n_t0 (X_t6 0)
        have z_t7 : m_at t6 < m_ct t6 := lo_ne (Nat.ne_of_gt (show 0 < lo t6 (m_at t6) from by omega))
        refine Kp_at C_t6 (fun t7 C_t7 X_t7 a_t7 b_t7 d_t7 w_t7 u_t7 v_t7 j_t7 l_t7 => ?_)
        have e_t7 := C_t7.2.2.2.1
        rw [a_t6] at a_t7
        rw [b_t6] at b_t7
        rw [d_t6] at d_t7
        rw [w_t6] at w_t7
        rw [u_t6] at u_t7
        rw [v_t6] at v_t7
        rw [a_t6, e_t6] at z_t7
        clear d_t6 w_t6 u_t6 v_t6 e_t6 a_t6 b_t6
        have I_n_t7 := I_n_t6.flat X_t7
        have f_n_t7 := f_n_t6.ex I_n_t6 (X_t7 0)
        have u_n_t7 := u_n_t6.ex I_n_t6 (X_t7 0)
        refine Kp_push C_t7 (by omega) (fun t8 C_t8 X_t8 a_t8 b_t8 d_t8 w_t8 u_t8 v_t8 j_t8 l_t8 => ?_)
        have e_t8 := C_t8.2.2.2.1
        rw [a_t7] at a_t8
        rw [b_t7] at b_t8
        rw [d_t7] at d_t8
        rw [w_t7] at w_t8
        rw [u_t7] at u_t8
        rw [v_t7] at v_t8
        clear d_t7 w_t7 u_t7 v_t7 e_t7 a_t7 b_t7
        have I_n_t8 := I_n_t7.flat X_t8
        have f_n_t8 := f_n_t7.ex I_n_t7 (X_t8 0)
        have u_n_t8 := u_n_t7.ex I_n_t7 (X_t8 0)
        refine Ok_ret (show Ok _ _ _ from ?_)
        refine Ok_ret (show Ok _ _ _ from ?_)
        refine Ok_ret (show Ok _ _ _ from ?_)
        refine Hv_mk (Kv_c (x := (51, n, 1)) rfl hK) (C_t8.1.2.2.2.2.2.2 hTt) C_t8 hT (by omega) (by omega) (by omega) ?_ ?_ ?_ (by omega) ?_ ?_ ?_
        · exact ⟨(Io_n (by decide) (by decide) I_n_t8.1 I_n_t8.2.1 I_n_t8.2.2.1 (fun q => absurd q (by decide)) (fun q => absurd q (by decide)) I_n_t8.2.2.2), (Nd_0 (by decide) Mo_nil), Stk_step (N := n) (pop := (49, n, t)) (new := [(51, n, 1)]) F0 C_t8.1.to2 (fun (h : nk 49 = false) => absurd h (by decide)) (fun q _ h => h (49, n, t) rfl) (fun _ => rfl) (fun y hy hk => ⟨rfl, (Mo_cons (fun q => show n ≤ n from by omega) Mo_nil) y hy hk⟩) (fun (h : 49 = 3 ∨ 49 = 18 ∨ 49 = 41) => absurd h (by decide)) (fun (h : 49 = 18) => absurd h (by decide)) (fun (h : 49 = 41 ∨ 49 = 42 ∨ 49 = 43) => absurd h (by decide)) r [] (fun y hy => absurd hy List.not_mem_nil) hS⟩
        · exact (Aj_sub (y := (51, n, 1)) hJ (Nat.le_of_ble_eq_true rfl))
        · show m_dp t8 = (dlt 51 + sD r)
          have : dlt 49 = 0 := rfl; have : dlt 51 = 1 := rfl; omega
        · show m_rw t8 = (rho 51 + sR r)
          have : rho 49 = 0 := rfl; have : rho 51 = 0 := rfl; omega
        · show m_md t8 + (mu7 51 + sM r) ≤ 3 * m_at t8 + 7 * (r.length + 1) + 10
          have : mu7 49 = 1 := rfl; have : mu7 51 = 4 := rfl; omega
        · show (wt 51 + sW r) + 6 * (4096 - m_at t8) + 4 * (600 - (r.length + 1)) < (wt 49 + sW r) + 6 * (4096 - m_at t0) + 4 * (600 - (r.length + 1))
          have : wt 49 = 0 := rfl; have : wt 51 = 0 := rfl; omega
      · have w_t6 := Nat.pos_of_ne_zero w_t6
        have I_n_t6 := I_n_t0.flat X_t6
        have f_n_t6 := f_n_t0.ex I_n_t0 (X_t6 0)
        have u_n_t6 := u_n_t0.ex I_n_t0 (X_t6 0)
        refine Kp_at C_t6 (fun t9 C_t9 X_t9 a_t9 b_t9 d_t9 w_t9 u_t9 v_t9 j_t9 l_t9 => ?_)
        have e_t9 := C_t9.2.2.2.1
        have I_n_t9 := I_n_t6.flat X_t9
        have f_n_t9 := f_n_t6.ex I_n_t6 (X_t9 0)
        have u_n_t9 := u_n_t6.ex I_n_t6 (X_t9 0)
        refine Kp_push C_t9 (by omega) (fun t10 C_t10 X_t10 a_t10 b_t10 d_t10 w_t10 u_t10 v_t10 j_t10 l_t10 => ?_)
        have e_t10 := C_t10.2.2.2.1
        have I_n_t10 := I_n_t9.flat X_t10
        have f_n_t10 := f_n_t9.ex I_n_t9 (X_t10 0)
        have u_n_t10 := u_n_t9.ex I_n_t9 (X_t10 0)
        refine Ok_ret (show Ok _ _ _ from ?_)
        refine Ok_ret (show Ok _ _ _ from ?_)
        refine Ok_ret (show Ok _ _ _ from ?_)
        exact Or.inl ⟨Nat.ne_of_gt (show 0 < m_wr t10 from by omega), by omega, by omega, C_t10.2.2.2.2.2, by omega⟩
    · refine Kp_error C_t0 (by omega) (fun t11 C_t11 X_t11 a_t11 b_t11 d_t11 w_t11 u_t11 v_t11 j_t11 l_t11 => ?_)
      have wb_t11 := w_t11.2
      have w_t11 := Nat.pos_of_ne_zero w_t11.1
      have e_t11 := C_t11.2.2.2.1
      have I_n_t11 := I_n_t0.flat X_t11
      have f_n_t11 := f_n_t0.ex I_n_t0 (X_t11 0)
      have u_n_t11 := u_n_t0.ex I_n_t0 (X_t11 0)
      refine Ok_ret (show Ok _ _ _ from ?_)
      refine Ok_ret (show Ok _ _ _ from ?_)
      refine Ok_ret (show Ok _ _ _ from ?_)
      exact Or.inl ⟨Nat.ne_of_gt (show 0 < m_wr t11 from by omega), by omega, by omega, C_t11.2.2.2.2.2, by omega⟩
  · refine Kp_look C_t0 hT (by omega) ?_
    refine Ok_ife (Nat.lt_trans (lo_lt (C_t0.tk hT) _) (by decide)) (by decide) (fun q12 => ?_) (fun q12 => ?_)
    · refine Kp_wrap C_t0 I_n_t0.1 I_n_t0.2.1 f_n_t0 I_n_t0.2.2.1 (by omega) (by omega) (by decide) (fun t13 C_t13 X_t13 a_t13 b_t13 d_t13 w_t13 u_t13 v_t13 j_t13 l_t13 => ?_)
      have e_t13 := C_t13.2.2.2.1
      have I_n_t13 := I_n_t0.le X_t13 (by omega)
      have f_n_t13 := f_n_t0.ex I_n_t0 (X_t13 0 (Nat.zero_le _))
      have u_n_t13 := u_n_t0.ex I_n_t0 (X_t13 0 (Nat.zero_le _))
      have I_m_mdt0_t13 : Nq t13 (m_md t0) := Nq.wrn j_t13 (by omega) I_n_t0 (by decide)
      have f_m_mdt0_t13 : Fz t13 (m_md t0) := by unfold Fz; rw [j_t13.2.1]; exact j_t13.2.2.1
      have z_t14 : m_at t13 < m_ct t13 := lo_ne (Nat.ne_of_gt (show 0 < lo t13 (m_at t13) from by omega))
      refine Kp_at C_t13 (fun t14 C_t14 X_t14 a_t14 b_t14 d_t14 w_t14 u_t14 v_t14 j_t14 l_t14 => ?_)
      have e_t14 := C_t14.2.2.2.1
      rw [a_t13] at a_t14
      rw [b_t13] at b_t14
      rw [d_t13] at d_t14
      rw [w_t13] at w_t14
      rw [u_t13] at u_t14
      rw [v_t13] at v_t14
      rw [a_t13, e_t13] at z_t14
      clear d_t13 w_t13 u_t13 v_t13 e_t13 a_t13 b_t13
      have I_n_t14 := I_n_t13.flat X_t14
      have f_n_t14 := f_n_t13.ex I_n_t13 (X_t14 0)
      have u_n_t14 := u_n_t13.ex I_n_t13 (X_t14 0)
      have I_m_mdt0_t14 := I_m_mdt0_t13.flat X_t14
      have f_m_mdt0_t14 := f_m_mdt0_t13.ex I_m_mdt0_t13 (X_t14 0)
      refine Ok_bnc ?_
      try unfold b_X6_second
      refine Kp_look C_t14 hT (by omega) ?_
      refine Ok_ife (Nat.lt_trans (lo_lt (C_t14.tk hT) _) (by decide)) (by decide) (fun q16 => ?_) (fun q16 => ?_)
      · refine Ok_bnc ?_
        try unfold b_X6_body
        refine Kp_look C_t14 hT (by omega) ?_
        refine Ok_ife (Nat.lt_trans (lo_lt (C_t14.tk hT) _) (by decide)) (by decide) (fun q => ?_) (fun q => absurd q16 q)
        refine Kp_more C_t14 (by omega) (by omega) (fun t18 C_t18 X_t18 a_t18 b_t18 d_t18 w_t18 u_t18 v_t18 j_t18 l_t18 => ?_)
        have e_t18 := C_t18.2.2.2.1
        rcases w_t18 with ⟨w_t18, y_t18⟩ | ⟨w_t18, wb_t18⟩
        · rw [a_t14] at a_t18
          rw [b_t14] at b_t18
          rw [d_t14] at d_t18
          rw [w_t14] at w_t18
          rw [u_t14] at u_t18
          rw [v_t14] at v_t18
          rw [d_t18] at y_t18
          clear d_t14 w_t14 u_t14 v_t14 e_t14 a_t14 b_t14
          have I_n_t18 := I_n_t14.flat X_t18
          have f_n_t18 := f_n_t14.ex I_n_t14 (X_t18 0)
          have u_n_t18 := u_n_t14.ex I_n_t14 (X_t18 0)
          have I_m_mdt0_t18 := I_m_mdt0_t14.flat X_t18
          have f_m_mdt0_t18 := f_m_mdt0_t14.ex I_m_mdt0_t14 (X_t18 0)
          have z_t19 : m_at t18 < m_ct t18 := lo_ne (Nat.ne_of_gt (show 0 < lo t18 (m_at t18) from by omega))
          refine Kp_at C_t18 (fun t19 C_t19 X_t19 a_t19 b_t19 d_t19 w_t19 u_t19 v_t19 j_t19 l_t19 => ?_)
          have e_t19 := C_t19.2.2.2.1
          rw [a_t18] at a_t19
          rw [b_t18] at b_t19
          rw [d_t18] at d_t19
          rw [w_t18] at w_t19
          rw [u_t18] at u_t19
          rw [v_t18] at v_t19
          rw [a_t18, e_t18] at z_t19
          clear z_t14
          clear d_t18 w_t18 u_t18 v_t18 e_t18 a_t18 b_t18
          have I_n_t19 := I_n_t18.flat X_t19
          have f_n_t19 := f_n_t18.ex I_n_t18 (X_t19 0)
          have u_n_t19 := u_n_t18.ex I_n_t18 (X_t19 0)
          have I_m_mdt0_t19 := I_m_mdt0_t18.flat X_t19
          have f_m_mdt0_t19 := f_m_mdt0_t18.ex I_m_mdt0_t18 (X_t19 0)
          refine Kp_push C_t19 (by omega) (fun t20 C_t20 X_t20 a_t20 b_t20 d_t20 w_t20 u_t20 v_t20 j_t20 l_t20 => ?_)
          have e_t20 := C_t20.2.2.2.1
          rw [a_t19] at a_t20
          rw [b_t19] at b_t20
          rw [d_t19] at d_t20
          rw [w_t19] at w_t20
          rw [u_t19] at u_t20
          rw [v_t19] at v_t20
          clear d_t19 w_t19 u_t19 v_t19 e_t19 a_t19 b_t19
          have I_n_t20 := I_n_t19.flat X_t20
          have f_n_t20 := f_n_t19.ex I_n_t19 (X_t20 0)
          have u_n_t20 := u_n_t19.ex I_n_t19 (X_t20 0)
          have I_m_mdt0_t20 := I_m_mdt0_t19.flat X_t20
          have f_m_mdt0_t20 := f_m_mdt0_t19.ex I_m_mdt0_t19 (X_t20 0)
          refine Ok_ret (show Ok _ _ _ from ?_)
          refine Ok_ret (show Ok _ _ _ from ?_)
          refine Ok_ret (show Ok _ _ _ from ?_)
          refine Ok_ret (show Ok _ _ _ from ?_)
          refine Hv_mk (Kv_c (x := (51, n, 0)) rfl hK) (C_t20.1.2.2.2.2.2.2 hTt) C_t20 hT (by omega) (by omega) (by omega) ?_ ?_ ?_ (by omega) ?_ ?_ ?_
          · exact ⟨(Io_n (by decide) (by decide) I_n_t20.1 I_n_t20.2.1 I_n_t20.2.2.1 (fun q => absurd q (by decide)) (fun q => absurd q (by decide)) I_n_t20.2.2.2), (Nd_0 (by decide) Mo_nil), Stk_step (N := n) (pop := (49, n, t)) (new := [(51, n, 0)]) F0 C_t20.1.to2 (fun (h : nk 49 = false) => absurd h (by decide)) (fun q _ h => h (49, n, t) rfl) (fun _ => rfl) (fun y hy hk => ⟨rfl, (Mo_cons (fun q => show n ≤ n from by omega) Mo_nil) y hy hk⟩) (fun (h : 49 = 3 ∨ 49 = 18 ∨ 49 = 41) => absurd h (by decide)) (fun (h : 49 = 18) => absurd h (by decide)) (fun (h : 49 = 41 ∨ 49 = 42 ∨ 49 = 43) => absurd h (by decide)) r [] (fun y hy => absurd hy List.not_mem_nil) hS⟩
          · exact (Aj_sub (y := (51, n, 0)) hJ (Nat.le_of_ble_eq_true rfl))
          · show m_dp t20 = (dlt 51 + sD r)
            have : dlt 49 = 0 := rfl; have : dlt 51 = 1 := rfl; omega
          · show m_rw t20 = (rho 51 + sR r)
            have : rho 49 = 0 := rfl; have : rho 51 = 0 := rfl; omega
          · show m_md t20 + (mu7 51 + sM r) ≤ 3 * m_at t20 + 7 * (r.length + 1) + 10
            have : mu7 49 = 1 := rfl; have : mu7 51 = 4 := rfl; omega
          · show (wt 51 + sW r) + 6 * (4096 - m_at t20) + 4 * (600 - (r.length + 1)) < (wt 49 + sW r) + 6 * (4096 - m_at t0) + 4 * (600 - (r.length + 1))
            have : wt 49 = 0 := rfl; have : wt 51 = 0 := rfl; omega
        · have w_t18 := Nat.pos_of_ne_zero w_t18
          have I_n_t18 := I_n_t14.flat X_t18
          have f_n_t18 := f_n_t14.ex I_n_t14 (X_t18 0)
          have u_n_t18 := u_n_t14.ex I_n_t14 (X_t18 0)
          have I_m_mdt0_t18 := I_m_mdt0_t14.flat X_t18
          have f_m_mdt0_t18 := f_m_mdt0_t14.ex I_m_mdt0_t14 (X_t18 0)
          refine Kp_at C_t18 (fun t21 C_t21 X_t21 a_t21 b_t21 d_t21 w_t21 u_t21 v_t21 j_t21 l_t21 => ?_)
          have e_t21 := C_t21.2.2.2.1
          have I_n_t21 := I_n_t18.flat X_t21
          have f_n_t21 := f_n_t18.ex I_n_t18 (X_t21 0)
          have u_n_t21 := u_n_t18.ex I_n_t18 (X_t21 0)
          have I_m_mdt0_t21 := I_m_mdt0_t18.flat X_t21
          have f_m_mdt0_t21 := f_m_mdt0_t18.ex I_m_mdt0_t18 (X_t21 0)
          refine Kp_push C_t21 (by omega) (fun t22 C_t22 X_t22 a_t22 b_t22 d_t22 w_t22 u_t22 v_t22 j_t22 l_t22 => ?_)
          have e_t22 := C_t22.2.2.2.1
          have I_n_t22 := I_n_t21.flat X_t22
          have f_n_t22 := f_n_t21.ex I_n_t21 (X_t22 0)
          have u_n_t22 := u_n_t21.ex I_n_t21 (X_t22 0)
          have I_m_mdt0_t22 := I_m_mdt0_t21.flat X_t22
          have f_m_mdt0_t22 := f_m_mdt0_t21.ex I_m_mdt0_t21 (X_t22 0)
          refine Ok_ret (show Ok _ _ _ from ?_)
          refine Ok_ret (show Ok _ _ _ from ?_)
          refine Ok_ret (show Ok _ _ _ from ?_)
          refine Ok_ret (show Ok _ _ _ from ?_)
          exact Or.inl ⟨Nat.ne_of_gt (show 0 < m_wr t22 from by omega), by omega, by omega, C_t22.2.2.2.2.2, by omega⟩
      · refine Kp_push C_t14 (by omega) (fun t23 C_t23 X_t23 a_t23 b_t23 d_t23 w_t23 u_t23 v_t23 j_t23 l_t23 => ?_)
        have e_t23 := C_t23.2.2.2.1
        rw [a_t14] at a_t23
        rw [b_t14] at b_t23
        rw [d_t14] at d_t23
        rw [w_t14] at w_t23
        rw [u_t14] at u_t23
        rw [v_t14] at v_t23
        clear d_t14 w_t14 u_t14 v_t14 e_t14 a_t14 b_t14
        have I_n_t23 := I_n_t14.flat X_t23
        have f_n_t23 := f_n_t14.ex I_n_t14 (X_t23 0)
        have u_n_t23 := u_n_t14.ex I_n_t14 (X_t23 0)
        have I_m_mdt0_t23 := I_m_mdt0_t14.flat X_t23
        have f_m_mdt0_t23 := f_m_mdt0_t14.ex I_m_mdt0_t14 (X_t23 0)
        refine Kp_push C_t23 (by omega) (fun t24 C_t24 X_t24 a_t24 b_t24 d_t24 w_t24 u_t24 v_t24 j_t24 l_t24 => ?_)
        have e_t24 := C_t24.2.2.2.1
        rw [a_t23] at a_t24
        rw [b_t23] at b_t24
        rw [d_t23] at d_t24
        rw [w_t23] at w_t24
        rw [u_t23] at u_t24
        rw [v_t23] at v_t24
        clear d_t23 w_t23 u_t23 v_t23 e_t23 a_t23 b_t23
        have I_n_t24 := I_n_t23.flat X_t24
        have f_n_t24 := f_n_t23.ex I_n_t23 (X_t24 0)
        have u_n_t24 := u_n_t23.ex I_n_t23 (X_t24 0)
        have I_m_mdt0_t24 := I_m_mdt0_t23.flat X_t24
        have f_m_mdt0_t24 := f_m_mdt0_t23.ex I_m_mdt0_t23 (X_t24 0)
        refine Ok_ret (show Ok _ _ _ from ?_)
        refine Ok_ret (show Ok _ _ _ from ?_)
        refine Ok_ret (show Ok _ _ _ from ?_)
        refine Hv_mk (Kv_c (x := (41, n, 25)) rfl (Kv_c (x := (50, n, 0)) rfl hK)) (C_t24.1.2.2.2.2.2.2 hTt) C_t24 hT (by omega) (by omega) (by omega) ?_ ?_ ?_ (by omega) ?_ ?_ ?_
        · exact ⟨(Io_41 (by decide) I_n_t24.1 I_n_t24.2.1 I_n_t24.2.2.1 u_n_t24 I_n_t24.2.2.2), (Nd_0 (by decide) Mo_nil), ⟨(Io_n (by decide) (by decide) I_n_t24.1 I_n_t24.2.1 I_n_t24.2.2.1 (fun _ => u_n_t24) (fun q => absurd q (by decide)) I_n_t24.2.2.2), (Nd_A (by decide) (Mo_cons (fun q => show n ≤ n from by omega) Mo_nil) (Or.inr ⟨(41, n, 25), List.mem_cons_self, rfl, Or.inr (Or.inr rfl)⟩)), Stk_step (N := n) (pop := (49, n, t)) (new := [(50, n, 0), (41, n, 25)]) F0 C_t24.1.to2 (fun (h : nk 49 = false) => absurd h (by decide)) (fun q _ h => h (49, n, t) rfl) (fun _ => rfl) (fun y hy hk => ⟨rfl, (Mo_cons (fun q => show n ≤ n from by omega) (Mo_cons (fun q => show n ≤ n from by omega) Mo_nil)) y hy hk⟩) (fun (h : 49 = 3 ∨ 49 = 18 ∨ 49 = 41) => absurd h (by decide)) (fun (h : 49 = 18) => absurd h (by decide)) (fun (h : 49 = 41 ∨ 49 = 42 ∨ 49 = 43) => absurd h (by decide)) r [] (fun y hy => absurd hy List.not_mem_nil) hS⟩⟩
        · exact (Aj_up (x := (41, n, 25)) (Aj_sub (y := (50, n, 0)) hJ (Nat.le_of_ble_eq_true rfl)) (Or.inr (Nat.le_of_ble_eq_true rfl)))
        · show m_dp t24 = (dlt 41 + (dlt 50 + sD r))
          have : dlt 41 = 0 := rfl; have : dlt 49 = 0 := rfl; have : dlt 50 = 0 := rfl; omega
        · show m_rw t24 = (rho 41 + (rho 50 + sR r))
          have : rho 41 = 0 := rfl; have : rho 49 = 0 := rfl; have : rho 50 = 0 := rfl; omega
        · show m_md t24 + (mu7 41 + (mu7 50 + sM r)) ≤ 3 * m_at t24 + 7 * (r.length + 1 + 1) + 10
          have : mu7 41 = 6 := rfl; have : mu7 49 = 1 := rfl; have : mu7 50 = 1 := rfl; omega
        · show (wt 41 + (wt 50 + sW r)) + 6 * (4096 - m_at t24) + 4 * (600 - (r.length + 1 + 1)) < (wt 49 + sW r) + 6 * (4096 - m_at t0) + 4 * (600 - (r.length + 1))
          have : wt 41 = 6 := rfl; have : wt 49 = 0 := rfl; have : wt 50 = 0 := rfl; omega
    · refine Ok_ife (Nat.lt_trans (C_t0.2.2.2.2.2.2.1 _) (by decide)) (by decide) (fun q25 => ?_) (fun q25 => ?_)
      · refine Kp_unwrap C_t0 I_n_t0.1 I_n_t0.2.1 f_n_t0 I_n_t0.2.2.1 (by omega) (by omega) q25 hH50 (fun t26 C_t26 X_t26 a_t26 b_t26 d_t26 w_t26 u_t26 v_t26 j_t26 l_t26 => ?_)
        have e_t26 := C_t26.2.2.2.1
        have I_n_t26 := I_n_t0.le X_t26 (by omega)
        have f_n_t26 := f_n_t0.ex I_n_t0 (X_t26 0 (Nat.zero_le _))
        have u_n_t26 := u_n_t0.ex I_n_t0 (X_t26 0 (Nat.zero_le _))
        refine Ok_bnc ?_
        try unfold b_X6_body
        refine Kp_look C_t26 hT (by omega) ?_
        refine Ok_ife (Nat.lt_trans (lo_lt (C_t26.tk hT) _) (by decide)) (by decide) (fun q28 => ?_) (fun q28 => ?_)
        · refine Kp_more C_t26 (by omega) (by omega) (fun t29 C_t29 X_t29 a_t29 b_t29 d_t29 w_t29 u_t29 v_t29 j_t29 l_t29 => ?_)
          have e_t29 := C_t29.2.2.2.1
          rcases w_t29 with ⟨w_t29, y_t29⟩ | ⟨w_t29, wb_t29⟩
          · rw [a_t26] at a_t29
            rw [b_t26] at b_t29
            rw [d_t26] at d_t29
            rw [w_t26] at w_t29
            rw [u_t26] at u_t29
            rw [v_t26] at v_t29
            rw [d_t29] at y_t29
            clear d_t26 w_t26 u_t26 v_t26 e_t26 a_t26 b_t26
            have I_n_t29 := I_n_t26.flat X_t29
            have f_n_t29 := f_n_t26.ex I_n_t26 (X_t29 0)
            have u_n_t29 := u_n_t26.ex I_n_t26 (X_t29 0)
            have z_t30 : m_at t29 < m_ct t29 := lo_ne (Nat.ne_of_gt (show 0 < lo t29 (m_at t29) from by omega))
            refine Kp_at C_t29 (fun t30 C_t30 X_t30 a_t30 b_t30 d_t30 w_t30 u_t30 v_t30 j_t30 l_t30 => ?_)
            have e_t30 := C_t30.2.2.2.1
            rw [a_t29] at a_t30
            rw [b_t29] at b_t30
            rw [d_t29] at d_t30
            rw [w_t29] at w_t30
            rw [u_t29] at u_t30
            rw [v_t29] at v_t30
            rw [a_t29, e_t29] at z_t30
            clear d_t29 w_t29 u_t29 v_t29 e_t29 a_t29 b_t29
            have I_n_t30 := I_n_t29.flat X_t30
            have f_n_t30 := f_n_t29.ex I_n_t29 (X_t30 0)
            have u_n_t30 := u_n_t29.ex I_n_t29 (X_t30 0)
            refine Kp_push C_t30 (by omega) (fun t31 C_t31 X_t31 a_t31 b_t31 d_t31 w_t31 u_t31 v_t31 j_t31 l_t31 => ?_)
            have e_t31 := C_t31.2.2.2.1
            rw [a_t30] at a_t31
            rw [b_t30] at b_t31
            rw [d_t30] at d_t31
            rw [w_t30] at w_t31
            rw [u_t30] at u_t31
            rw [v_t30] at v_t31
            clear d_t30 w_t30 u_t30 v_t30 e_t30 a_t30 b_t30
            have I_n_t31 := I_n_t30.flat X_t31
            have f_n_t31 := f_n_t30.ex I_n_t30 (X_t31 0)
            have u_n_t31 := u_n_t30.ex I_n_t30 (X_t31 0)
            refine Ok_ret (show Ok _ _ _ from ?_)
            refine Ok_ret (show Ok _ _ _ from ?_)
            refine Ok_ret (show Ok _ _ _ from ?_)
            refine Hv_mk (Kv_c (x := (51, n, 0)) rfl hK) (C_t31.1.2.2.2.2.2.2 hTt) C_t31 hT (by omega) (by omega) (by omega) ?_ ?_ ?_ (by omega) ?_ ?_ ?_
            · exact ⟨(Io_n (by decide) (by decide) I_n_t31.1 I_n_t31.2.1 I_n_t31.2.2.1 (fun q => absurd q (by decide)) (fun q => absurd q (by decide)) I_n_t31.2.2.2), (Nd_0 (by decide) Mo_nil), Stk_step (N := n) (pop := (49, n, t)) (new := [(51, n, 0)]) F0 C_t31.1.to2 (fun (h : nk 49 = false) => absurd h (by decide)) (fun q _ h => h (49, n, t) rfl) (fun _ => rfl) (fun y hy hk => ⟨rfl, (Mo_cons (fun q => show n ≤ n from by omega) Mo_nil) y hy hk⟩) (fun (h : 49 = 3 ∨ 49 = 18 ∨ 49 = 41) => absurd h (by decide)) (fun (h : 49 = 18) => absurd h (by decide)) (fun (h : 49 = 41 ∨ 49 = 42 ∨ 49 = 43) => absurd h (by decide)) r [] (fun y hy => absurd hy List.not_mem_nil) hS⟩
            · exact (Aj_sub (y := (51, n, 0)) hJ (Nat.le_of_ble_eq_true rfl))
            · show m_dp t31 = (dlt 51 + sD r)
              have : dlt 49 = 0 := rfl; have : dlt 51 = 1 := rfl; omega
            · show m_rw t31 = (rho 51 + sR r)
              have : rho 49 = 0 := rfl; have : rho 51 = 0 := rfl; omega
            · show m_md t31 + (mu7 51 + sM r) ≤ 3 * m_at t31 + 7 * (r.length + 1) + 10
              have : mu7 49 = 1 := rfl; have : mu7 51 = 4 := rfl; omega
            · show (wt 51 + sW r) + 6 * (4096 - m_at t31) + 4 * (600 - (r.length + 1)) < (wt 49 + sW r) + 6 * (4096 - m_at t0) + 4 * (600 - (r.length + 1))
              have : wt 49 = 0 := rfl; have : wt 51 = 0 := rfl; omega
          · have w_t29 := Nat.pos_of_ne_zero w_t29
            have I_n_t29 := I_n_t26.flat X_t29
            have f_n_t29 := f_n_t26.ex I_n_t26 (X_t29 0)
            have u_n_t29 := u_n_t26.ex I_n_t26 (X_t29 0)
            refine Kp_at C_t29 (fun t32 C_t32 X_t32 a_t32 b_t32 d_t32 w_t32 u_t32 v_t32 j_t32 l_t32 => ?_)
            have e_t32 := C_t32.2.2.2.1
            have I_n_t32 := I_n_t29.flat X_t32
            have f_n_t32 := f_n_t29.ex I_n_t29 (X_t32 0)
            have u_n_t32 := u_n_t29.ex I_n_t29 (X_t32 0)
            refine Kp_push C_t32 (by omega) (fun t33 C_t33 X_t33 a_t33 b_t33 d_t33 w_t33 u_t33 v_t33 j_t33 l_t33 => ?_)
            have e_t33 := C_t33.2.2.2.1
            have I_n_t33 := I_n_t32.flat X_t33
            have f_n_t33 := f_n_t32.ex I_n_t32 (X_t33 0)
            have u_n_t33 := u_n_t32.ex I_n_t32 (X_t33 0)
            refine Ok_ret (show Ok _ _ _ from ?_)
            refine Ok_ret (show Ok _ _ _ from ?_)
            refine Ok_ret (show Ok _ _ _ from ?_)
            exact Or.inl ⟨Nat.ne_of_gt (show 0 < m_wr t33 from by omega), by omega, by omega, C_t33.2.2.2.2.2, by omega⟩
        · refine Kp_error C_t26 (by omega) (fun t34 C_t34 X_t34 a_t34 b_t34 d_t34 w_t34 u_t34 v_t34 j_t34 l_t34 => ?_)
          have wb_t34 := w_t34.2
          have w_t34 := Nat.pos_of_ne_zero w_t34.1
          have e_t34 := C_t34.2.2.2.1
          have I_n_t34 := I_n_t26.flat X_t34
          have f_n_t34 := f_n_t26.ex I_n_t26 (X_t34 0)
          have u_n_t34 := u_n_t26.ex I_n_t26 (X_t34 0)
          refine Ok_ret (show Ok _ _ _ from ?_)
          refine Ok_ret (show Ok _ _ _ from ?_)
          refine Ok_ret (show Ok _ _ _ from ?_)
          exact Or.inl ⟨Nat.ne_of_gt (show 0 < m_wr t34 from by omega), by omega, by omega, C_t34.2.2.2.2.2, by omega⟩
      · refine Kp_error C_t0 (by omega) (fun t35 C_t35 X_t35 a_t35 b_t35 d_t35 w_t35 u_t35 v_t35 j_t35 l_t35 => ?_)
        have wb_t35 := w_t35.2
        have w_t35 := Nat.pos_of_ne_zero w_t35.1
        have e_t35 := C_t35.2.2.2.1
        have I_n_t35 := I_n_t0.flat X_t35
        have f_n_t35 := f_n_t0.ex I_n_t0 (X_t35 0)
        have u_n_t35 := u_n_t0.ex I_n_t0 (X_t35 0)
        refine Ok_ret (show Ok _ _ _ from ?_)
        refine Ok_ret (show Ok _ _ _ from ?_)
        exact Or.inl ⟨Nat.ne_of_gt (show 0 < m_wr t35 from by omega), by omega, by omega, C_t35.2.2.2.2.2, by omega⟩

theorem S_50 {t0 : Mm} {n t : Nat} {r : List It} (H : Hp t0 (50, n, t) r) {E : Mm → Prop} : Ok (Qh (mz t0 ((50, n, t) :: r))) E (b_X6_step 50 n t t0) := by
  obtain ⟨hK, hT, hc, hw0, ha, hC, hS, hJ, hdp, hdl, hrw, hmd, htd, hln, hm16, hI, hD, hTt⟩ := Hp_out H
  have C_t0 := hC n
  have F0 := C_t0.2.1
  have I_n_t0 : Nq t0 n := ⟨(hI.2.1 rfl).1, (hI.2.1 rfl).2.1, (hI.2.1 rfl).2.2, hI.2.2.2 rfl⟩
  have m_n_t0 := I_n_t0.1
  have ht : t < 4096 := hI.1.1 (show 50 ≠ 42 by decide) (show 50 ≠ 48 by decide)
  have hdp : m_dp t0 = dlt 50 + sD r := hdp
  have hrw : m_rw t0 = rho 50 + sR r := hrw
  have hmd : m_md t0 + mu7 50 + sM r ≤ 3 * m_at t0 + 7 * r.length + 17 := hmd
  have hand : t &&& 1 ≤ 1 := Nat.and_le_right
  have h01 : (0 &&& 1 : Nat) = 0 := rfl
  have h02 : (1 : Nat) * 256 = 256 := rfl
  have hq1 : dlt 50 = 0 := rfl
  have hq2 : rho 50 = 0 := rfl
  have hq3 : mu7 50 = 1 := rfl
  have f_n_t0 : Fz t0 n := (hD.2.1 (show 50 = 2 ∨ 50 = 4 ∨ 50 = 42 ∨ 50 = 50 by decide)).resolve_right (fun ⟨y, hy, _⟩ => absurd hy List.not_mem_nil)
  obtain ⟨hla0, hla2, -, -⟩ := Fo_lp F0 I_n_t0 f_n_t0
  have hla1 : m_la t0 n - 1 < m_md t0 := by omega
  have u_n_t0 : Up t0 n := hI.2.2.1 rfl
  unfold b_X6_step
  refine Ok_ifl (by decide) (by decide) (fun _ => ?_) (fun q => absurd (by decide) q)
  refine Ok_ifl (by decide) (by decide) (fun q => absurd q (by decide)) (fun _ => ?_)
  refine Ok_ifl (by decide) (by decide) (fun q => absurd q (by decide)) (fun _ => ?_)
  refine Ok_ifl (by decide) (by decide) (fun q => absurd q (by decide)) (fun _ => ?_)
  refine Ok_bnc ?_
  try unfold b_X6_stating
  refine Ok_ck (by decide) ?_
  refine Ok_ife (by decide) (by decide) (fun q => absurd q (by decide)) (fun _ => ?_)
  refine Ok_ife (by decide) (by decide) (fun q => absurd q (by decide)) (fun _ => ?_)
  refine Ok_ife (by decide) (by decide) (fun q => absurd q (by decide)) (fun _ => ?_)
  refine Ok_ife (by decide) (by decide) (fun q => absurd q (by decide)) (fun _ => ?_)
  refine Ok_ife (by decide) (by decide) (fun q => absurd q (by decide)) (fun _ => ?_)
  refine Ok_ife (by decide) (by decide) (fun q => absurd q (by decide)) (fun _ => ?_)
  refine Ok_ife (by decide) (by decide) (fun q => absurd q (by decide)) (fun _ => ?_)
  refine Ok_ife (by decide) (by decide) (fun q => absurd q (by decide)) (fun _ => ?_)
  refine Ok_ife (by decide) (by decide) (fun q => absurd q (by decide)) (fun _ => ?_)
  refine Ok_ife (by decide) (by decide) (fun _ => ?_) (fun q => absurd (by decide) q)
  refine Ok_ck (show n < 65536 from by omega) ?_
  refine Ok_ck (show (m_la t0 n) ≠ 0 from by omega) ?_
  refine Ok_ck (show ((m_la t0 n) - 1) < 65536 from by omega) ?_
  refine Ok_ife (Nat.lt_trans (C_t0.2.2.2.2.2.2.1 _) (by decide)) (by decide) (fun q2 => ?_) (fun q2 => ?_)
  · refine Ok_bnc ?_
    try unfold b_X6_body
    refine Kp_look C_t0 hT (by omega) ?_
    refine Ok_ife (Nat.lt_trans (lo_lt (C_t0.tk hT) _) (by decide)) (by decide) (fun q4 => ?_) (fun q4 => ?_)
    · refine Kp_more C_t0 (by omega) (by omega) (fun t5 C_t5 X_t5 a_t5 b_t5 d_t5 w_t5 u_t5 v_t5 j_t5 l_t5 => ?_)
      have e_t5 := C_t5.2.2.2.1
      rcases w_t5 with ⟨w_t5, y_t5⟩ | ⟨w_t5, wb_t5⟩
      · rw [d_t5] at y_t5
        have I_n_t5 := I_n_t0.flat X_t5
        have f_n_t5 := f_n_t0.ex I_n_t0 (X_t5 0)
        have u_n_t5 := u_n_t0.ex I_n_t0 (X_t5 0)
        have z_t6 : m_at t5 < m_ct t5 := lo_ne (Nat.ne_of_gt (show 0 < lo t5 (m_at t5) from by omega))
        refine Kp_at C_t5 (fun t6 C_t6 X_t6 a_t6 b_t6 d_t6 w_t6 u_t6 v_t6 j_t6 l_t6 => ?_)
        have e_t6 := C_t6.2.2.2.1
        rw [a_t5] at a_t6
        rw [b_t5] at b_t6
        rw [d_t5] at d_t6
        rw [w_t5] at w_t6
        rw [u_t5] at u_t6
        rw [v_t5] at v_t6
        rw [a_t5, e_t5] at z_t6
        clear d_t5 w_t5 u_t5 v_t5 e_t5 a_t5 b_t5
        have I_n_t6 := I_n_t5.flat X_t6
        have f_n_t6 := f_n_t5.ex I_n_t5 (X_t6 0)
        have u_n_t6 := u_n_t5.ex I_n_t5 (X_t6 0)
        refine Kp_push C_t6 (by omega) (fun t7 C_t7 X_t7 a_t7 b_t7 d_t7 w_t7 u_t7 v_t7 j_t7 l_t7 => ?_)
        have e_t7 := C_t7.2.2.2.1
        rw [a_t6] at a_t7
        rw [b_t6] at b_t7
        rw [d_t6] at d_t7
        rw [w_t6] at w_t7
        rw [u_t6] at u_t7
        rw [v_t6] at v_t7
        clear d_t6 w_t6 u_t6 v_t6 e_t6 a_t6 b_t6
        have I_n_t7 := I_n_t6.flat X_t7
        have f_n_t7 := f_n_t6.ex I_n_t6 (X_t7 0)
        have u_n_t7 := u_n_t6.ex I_n_t6 (X_t7 0)
        refine Ok_ret (show Ok _ _ _ from ?_)
        refine Ok_ret (show Ok _ _ _ from ?_)
        refine Hv_mk (Kv_c (x := (51, n, 1)) rfl hK) (C_t7.1.2.2.2.2.2.2 hTt) C_t7 hT (by omega) (by omega) (by omega) ?_ ?_ ?_ (by omega) ?_ ?_ ?_
        · exact ⟨(Io_n (by decide) (by decide) I_n_t7.1 I_n_t7.2.1 I_n_t7.2.2.1 (fun q => absurd q (by decide)) (fun q => absurd q (by decide)) I_n_t7.2.2.2), (Nd_0 (by decide) Mo_nil), Stk_step (N := n) (pop := (50, n, t)) (new := [(51, n, 1)]) F0 C_t7.1.to2 (fun (h : nk 50 = false) => absurd h (by decide)) (fun q _ h => h (50, n, t) rfl) (fun _ => rfl) (fun y hy hk => ⟨rfl, (Mo_cons (fun q => show n ≤ n from by omega) Mo_nil) y hy hk⟩) (fun (h : 50 = 3 ∨ 50 = 18 ∨ 50 = 41) => absurd h (by decide)) (fun (h : 50 = 18) => absurd h (by decide)) (fun (h : 50 = 41 ∨ 50 = 42 ∨ 50 = 43) => absurd h (by decide)) r [] (fun y hy => absurd hy List.not_mem_nil) hS⟩
        · exact (Aj_sub (y := (51, n, 1)) hJ (Nat.le_of_ble_eq_true rfl))
        · show m_dp t7 = (dlt 51 + sD r)
          have : dlt 50 = 0 := rfl; have : dlt 51 = 1 := rfl; omega
        · show m_rw t7 = (rho 51 + sR r)
          have : rho 50 = 0 := rfl; have : rho 51 = 0 := rfl; omega
        · show m_md t7 + (mu7 51 + sM r) ≤ 3 * m_at t7 + 7 * (r.length + 1) + 10
          have : mu7 50 = 1 := rfl; have : mu7 51 = 4 := rfl; omega
        · show (wt 51 + sW r) + 6 * (4096 - m_at t7) + 4 * (600 - (r.length + 1)) < (wt 50 + sW r) + 6 * (4096 - m_at t0) + 4 * (600 - (r.length + 1))
          have : wt 50 = 0 := rfl; have : wt 51 = 0 := rfl; omega
      · have w_t5 := Nat.pos_of_ne_zero w_t5
        have I_n_t5 := I_n_t0.flat X_t5
        have f_n_t5 := f_n_t0.ex I_n_t0 (X_t5 0)
        have u_n_t5 := u_n_t0.ex I_n_t0 (X_t5 0)
        refine Kp_at C_t5 (fun t8 C_t8 X_t8 a_t8 b_t8 d_t8 w_t8 u_t8 v_t8 j_t8 l_t8 => ?_)
        have e_t8 := C_t8.2.2.2.1
        have I_n_t8 := I_n_t5.flat X_t8
        have f_n_t8 := f_n_t5.ex I_n_t5 (X_t8 0)
        have u_n_t8 := u_n_t5.ex I_n_t5 (X_t8 0)
        refine Kp_push C_t8 (by omega) (fun t9 C_t9 X_t9 a_t9 b_t9 d_t9 w_t9 u_t9 v_t9 j_t9 l_t9 => ?_)
        have e_t9 := C_t9.2.2.2.1
        have I_n_t9 := I_n_t8.flat X_t9
        have f_n_t9 := f_n_t8.ex I_n_t8 (X_t9 0)
        have u_n_t9 := u_n_t8.ex I_n_t8 (X_t9 0)
        refine Ok_ret (show Ok _ _ _ from ?_)
        refine Ok_ret (show Ok _ _ _ from ?_)
        exact Or.inl ⟨Nat.ne_of_gt (show 0 < m_wr t9 from by omega), by omega, by omega, C_t9.2.2.2.2.2, by omega⟩
    · refine Kp_error C_t0 (by omega) (fun t10 C_t10 X_t10 a_t10 b_t10 d_t10 w_t10 u_t10 v_t10 j_t10 l_t10 => ?_)
      have wb_t10 := w_t10.2
      have w_t10 := Nat.pos_of_ne_zero w_t10.1
      have e_t10 := C_t10.2.2.2.1
      have I_n_t10 := I_n_t0.flat X_t10
      have f_n_t10 := f_n_t0.ex I_n_t0 (X_t10 0)
      have u_n_t10 := u_n_t0.ex I_n_t0 (X_t10 0)
      refine Ok_ret (show Ok _ _ _ from ?_)
      refine Ok_ret (show Ok _ _ _ from ?_)
      exact Or.inl ⟨Nat.ne_of_gt (show 0 < m_wr t10 from by omega), by omega, by omega, C_t10.2.2.2.2.2, by omega⟩
  · refine Ok_bnc ?_
    try unfold b_X6_body
    refine Kp_look C_t0 hT (by omega) ?_
    refine Ok_ife (Nat.lt_trans (lo_lt (C_t0.tk hT) _) (by decide)) (by decide) (fun q12 => ?_) (fun q12 => ?_)
    · refine Kp_more C_t0 (by omega) (by omega) (fun t13 C_t13 X_t13 a_t13 b_t13 d_t13 w_t13 u_t13 v_t13 j_t13 l_t13 => ?_)
      have e_t13 := C_t13.2.2.2.1
      rcases w_t13 with ⟨w_t13, y_t13⟩ | ⟨w_t13, wb_t13⟩
      · rw [d_t13] at y_t13
        have I_n_t13 := I_n_t0.flat X_t13
        have f_n_t13 := f_n_t0.ex I_n_t0 (X_t13 0)
        have u_n_t13 := u_n_t0.ex I_n_t0 (X_t13 0)
        have z_t14 : m_at t13 < m_ct t13 := lo_ne (Nat.ne_of_gt (show 0 < lo t13 (m_at t13) from by omega))
        refine Kp_at C_t13 (fun t14 C_t14 X_t14 a_t14 b_t14 d_t14 w_t14 u_t14 v_t14 j_t14 l_t14 => ?_)
        have e_t14 := C_t14.2.2.2.1
        rw [a_t13] at a_t14
        rw [b_t13] at b_t14
        rw [d_t13] at d_t14
        rw [w_t13] at w_t14
        rw [u_t13] at u_t14
        rw [v_t13] at v_t14
        rw [a_t13, e_t13] at z_t14
        clear d_t13 w_t13 u_t13 v_t13 e_t13 a_t13 b_t13
        have I_n_t14 := I_n_t13.flat X_t14
        have f_n_t14 := f_n_t13.ex I_n_t13 (X_t14 0)
        have u_n_t14 := u_n_t13.ex I_n_t13 (X_t14 0)
        refine Kp_push C_t14 (by omega) (fun t15 C_t15 X_t15 a_t15 b_t15 d_t15 w_t15 u_t15 v_t15 j_t15 l_t15 => ?_)
        have e_t15 := C_t15.2.2.2.1
        rw [a_t14] at a_t15
        rw [b_t14] at b_t15
        rw [d_t14] at d_t15
        rw [w_t14] at w_t15
        rw [u_t14] at u_t15
        rw [v_t14] at v_t15
        clear d_t14 w_t14 u_t14 v_t14 e_t14 a_t14 b_t14
        have I_n_t15 := I_n_t14.flat X_t15
        have f_n_t15 := f_n_t14.ex I_n_t14 (X_t15 0)
        have u_n_t15 := u_n_t14.ex I_n_t14 (X_t15 0)
        refine Ok_ret (show Ok _ _ _ from ?_)
        refine Ok_ret (show Ok _ _ _ from ?_)
        refine Hv_mk (Kv_c (x := (51, n, 0)) rfl hK) (C_t15.1.2.2.2.2.2.2 hTt) C_t15 hT (by omega) (by omega) (by omega) ?_ ?_ ?_ (by omega) ?_ ?_ ?_
        · exact ⟨(Io_n (by decide) (by decide) I_n_t15.1 I_n_t15.2.1 I_n_t15.2.2.1 (fun q => absurd q (by decide)) (fun q => absurd q (by decide)) I_n_t15.2.2.2), (Nd_0 (by decide) Mo_nil), Stk_step (N := n) (pop := (50, n, t)) (new := [(51, n, 0)]) F0 C_t15.1.to2 (fun (h : nk 50 = false) => absurd h (by decide)) (fun q _ h => h (50, n, t) rfl) (fun _ => rfl) (fun y hy hk => ⟨rfl, (Mo_cons (fun q => show n ≤ n from by omega) Mo_nil) y hy hk⟩) (fun (h : 50 = 3 ∨ 50 = 18 ∨ 50 = 41) => absurd h (by decide)) (fun (h : 50 = 18) => absurd h (by decide)) (fun (h : 50 = 41 ∨ 50 = 42 ∨ 50 = 43) => absurd h (by decide)) r [] (fun y hy => absurd hy List.not_mem_nil) hS⟩
        · exact (Aj_sub (y := (51, n, 0)) hJ (Nat.le_of_ble_eq_true rfl))
        · show m_dp t15 = (dlt 51 + sD r)
          have : dlt 50 = 0 := rfl; have : dlt 51 = 1 := rfl; omega
        · show m_rw t15 = (rho 51 + sR r)
          have : rho 50 = 0 := rfl; have : rho 51 = 0 := rfl; omega
        · show m_md t15 + (mu7 51 + sM r) ≤ 3 * m_at t15 + 7 * (r.length + 1) + 10
          have : mu7 50 = 1 := rfl; have : mu7 51 = 4 := rfl; omega
        · show (wt 51 + sW r) + 6 * (4096 - m_at t15) + 4 * (600 - (r.length + 1)) < (wt 50 + sW r) + 6 * (4096 - m_at t0) + 4 * (600 - (r.length + 1))
          have : wt 50 = 0 := rfl; have : wt 51 = 0 := rfl; omega
      · have w_t13 := Nat.pos_of_ne_zero w_t13
        have I_n_t13 := I_n_t0.flat X_t13
        have f_n_t13 := f_n_t0.ex I_n_t0 (X_t13 0)
        have u_n_t13 := u_n_t0.ex I_n_t0 (X_t13 0)
        refine Kp_at C_t13 (fun t16 C_t16 X_t16 a_t16 b_t16 d_t16 w_t16 u_t16 v_t16 j_t16 l_t16 => ?_)
        have e_t16 := C_t16.2.2.2.1
        have I_n_t16 := I_n_t13.flat X_t16
        have f_n_t16 := f_n_t13.ex I_n_t13 (X_t16 0)
        have u_n_t16 := u_n_t13.ex I_n_t13 (X_t16 0)
        refine Kp_push C_t16 (by omega) (fun t17 C_t17 X_t17 a_t17 b_t17 d_t17 w_t17 u_t17 v_t17 j_t17 l_t17 => ?_)
        have e_t17 := C_t17.2.2.2.1
        have I_n_t17 := I_n_t16.flat X_t17
        have f_n_t17 := f_n_t16.ex I_n_t16 (X_t17 0)
        have u_n_t17 := u_n_t16.ex I_n_t16 (X_t17 0)
        refine Ok_ret (show Ok _ _ _ from ?_)
        refine Ok_ret (show Ok _ _ _ from ?_)
        exact Or.inl ⟨Nat.ne_of_gt (show 0 < m_wr t17 from by omega), by omega, by omega, C_t17.2.2.2.2.2, by omega⟩
    · refine Kp_error C_t0 (by omega) (fun t18 C_t18 X_t18 a_t18 b_t18 d_t18 w_t18 u_t18 v_t18 j_t18 l_t18 => ?_)
      have wb_t18 := w_t18.2
      have w_t18 := Nat.pos_of_ne_zero w_t18.1
      have e_t18 := C_t18.2.2.2.1
      have I_n_t18 := I_n_t0.flat X_t18
      have f_n_t18 := f_n_t0.ex I_n_t0 (X_t18 0)
      have u_n_t18 := u_n_t0.ex I_n_t0 (X_t18 0)
      refine Ok_ret (show Ok _ _ _ from ?_)
      refine Ok_ret (show Ok _ _ _ from ?_)
      exact Or.inl ⟨Nat.ne_of_gt (show 0 < m_wr t18 from by omega), by omega, by omega, C_t18.2.2.2.2.2, by omega⟩

