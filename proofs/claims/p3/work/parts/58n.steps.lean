/-! The steps of the reference, one by one. -/
theorem S_39 {t0 : Mm} {n t : Nat} {r : List It} (H : Hp t0 (39, n, t) r) {E : Mm → Prop} : Ok (Qh (mz t0 ((39, n, t) :: r))) E (b_X6_step 39 n t t0) := by
  obtain ⟨hK, hT, hc, hw0, ha, hC, hS, hJ, hdp, hdl, hrw, hmd, htd, hln, hm16, hI, hD, hTt⟩ := Hp_out H
  have C_t0 := hC n
  have F0 := C_t0.2.1
  have I_n_t0 : Nq t0 n := ⟨(hI.2.1 rfl).1, (hI.2.1 rfl).2.1, (hI.2.1 rfl).2.2, hI.2.2.2 rfl⟩
  have m_n_t0 := I_n_t0.1
  have ht : t < 4096 := hI.1.1 (show 39 ≠ 42 by decide) (show 39 ≠ 48 by decide)
  have hdp : m_dp t0 = dlt 39 + sD r := hdp
  have hrw : m_rw t0 = rho 39 + sR r := hrw
  have hmd : m_md t0 + mu7 39 + sM r ≤ 3 * m_at t0 + 7 * r.length + 17 := hmd
  have hand : t &&& 1 ≤ 1 := Nat.and_le_right
  have h01 : (0 &&& 1 : Nat) = 0 := rfl
  have h02 : (1 : Nat) * 256 = 256 := rfl
  have hq1 : dlt 39 = 0 := rfl
  have hq2 : rho 39 = 0 := rfl
  have hq3 : mu7 39 = 7 := rfl
  have u_n_t0 : Up t0 n := hI.2.2.1 rfl
  unfold b_X6_step
  refine Ok_ifl (by decide) (by decide) (fun _ => ?_) (fun q => absurd (by decide) q)
  refine Ok_ifl (by decide) (by decide) (fun q => absurd q (by decide)) (fun _ => ?_)
  refine Ok_ifl (by decide) (by decide) (fun q => absurd q (by decide)) (fun _ => ?_)
  refine Ok_ifl (by decide) (by decide) (fun _ => ?_) (fun q => absurd (by decide) q)
  refine Ok_bnc ?_
  try unfold b_X6_declaring
  refine Ok_ck (by decide) ?_
  refine Ok_ife (by decide) (by decide) (fun q => absurd q (by decide)) (fun _ => ?_)
  refine Ok_ife (by decide) (by decide) (fun q => absurd q (by decide)) (fun _ => ?_)
  refine Ok_ife (by decide) (by decide) (fun q => absurd q (by decide)) (fun _ => ?_)
  refine Ok_ife (by decide) (by decide) (fun q => absurd q (by decide)) (fun _ => ?_)
  refine Ok_ife (by decide) (by decide) (fun q => absurd q (by decide)) (fun _ => ?_)
  refine Ok_ife (by decide) (by decide) (fun q => absurd q (by decide)) (fun _ => ?_)
  refine Ok_ife (by decide) (by decide) (fun q => absurd q (by decide)) (fun _ => ?_)
  refine Ok_ife (by decide) (by decide) (fun q => absurd q (by decide)) (fun _ => ?_)
  refine Ok_ife (by decide) (by decide) (fun q => absurd q (by decide)) (fun _ => ?_)
  refine Ok_ife (by decide) (by decide) (fun q => absurd q (by decide)) (fun _ => ?_)
  refine Ok_ife (by decide) (by decide) (fun _ => ?_) (fun q => absurd (by decide) q)
  refine Ok_bnc ?_
  try unfold b_X6_statements
  refine Kp_look C_t0 hT (by omega) ?_
  refine Ok_ife (Nat.lt_trans (lo_lt (C_t0.tk hT) _) (by decide)) (by decide) (fun q3 => ?_) (fun q3 => ?_)
  · have z_t4 : m_at t0 < m_ct t0 := lo_ne (Nat.ne_of_gt (show 0 < lo t0 (m_at t0) from by omega))
    refine Kp_at C_t0 (fun t4 C_t4 X_t4 a_t4 b_t4 d_t4 w_t4 u_t4 v_t4 j_t4 l_t4 => ?_)
    have e_t4 := C_t4.2.2.2.1
    have I_n_t4 := I_n_t0.flat X_t4
    have u_n_t4 := u_n_t0.ex I_n_t0 (X_t4 0)
    refine Kp_push C_t4 (by omega) (fun t5 C_t5 X_t5 a_t5 b_t5 d_t5 w_t5 u_t5 v_t5 j_t5 l_t5 => ?_)
    have e_t5 := C_t5.2.2.2.1
    rw [a_t4] at a_t5
    rw [b_t4] at b_t5
    rw [d_t4] at d_t5
    rw [w_t4] at w_t5
    rw [u_t4] at u_t5
    rw [v_t4] at v_t5
    clear d_t4 w_t4 u_t4 v_t4 e_t4 a_t4 b_t4
    have I_n_t5 := I_n_t4.flat X_t5
    have u_n_t5 := u_n_t4.ex I_n_t4 (X_t5 0)
    refine Ok_ret (show Ok _ _ _ from ?_)
    refine Ok_ret (show Ok _ _ _ from ?_)
    refine Hv_mk (Kv_c (x := (39, n, 0)) rfl hK) (C_t5.1.2.2.2.2.2.2 hTt) C_t5 hT (by omega) (by omega) (by omega) ?_ ?_ ?_ (by omega) ?_ ?_ ?_
    · exact ⟨(Io_n (by decide) (by decide) I_n_t5.1 I_n_t5.2.1 I_n_t5.2.2.1 (fun _ => u_n_t5) (fun q => absurd q (by decide)) I_n_t5.2.2.2), (Nd_0 (by decide) Mo_nil), Stk_step (N := n) (pop := (39, n, t)) (new := [(39, n, 0)]) F0 C_t5.1.to2 (fun (h : nk 39 = false) => absurd h (by decide)) (fun q _ h => h (39, n, t) rfl) (fun _ => rfl) (fun y hy hk => ⟨rfl, (Mo_cons (fun q => show n ≤ n from by omega) Mo_nil) y hy hk⟩) (fun (h : 39 = 3 ∨ 39 = 18 ∨ 39 = 41) => absurd h (by decide)) (fun (h : 39 = 18) => absurd h (by decide)) (fun (h : 39 = 41 ∨ 39 = 42 ∨ 39 = 43) => absurd h (by decide)) r [] (fun y hy => absurd hy List.not_mem_nil) hS⟩
    · exact (Aj_sub (y := (39, n, 0)) hJ (Nat.le_of_ble_eq_true rfl))
    · show m_dp t5 = (dlt 39 + sD r)
      have : dlt 39 = 0 := rfl; omega
    · show m_rw t5 = (rho 39 + sR r)
      have : rho 39 = 0 := rfl; omega
    · show m_md t5 + (mu7 39 + sM r) ≤ 3 * m_at t5 + 7 * (r.length + 1) + 10
      have : mu7 39 = 7 := rfl; omega
    · show (wt 39 + sW r) + 6 * (4096 - m_at t5) + 4 * (600 - (r.length + 1)) < (wt 39 + sW r) + 6 * (4096 - m_at t0) + 4 * (600 - (r.length + 1))
      have : wt 39 = 9 := rfl; omega
  · refine Ok_ck (Nat.lt_trans (lo_lt (C_t0.tk hT) _) (by decide)) ?_
    refine Ok_ifz (f6_beginsStatement _) (fun q6 => ?_) (fun q6 => ?_)
    · refine Ok_ret (show Ok _ _ _ from ?_)
      refine Ok_ret (show Ok _ _ _ from ?_)
      refine Hv_mk hK (C_t0.1.2.2.2.2.2.2 hTt) C_t0 hT (by omega) (by omega) (by omega) ?_ ?_ ?_ (by omega) ?_ ?_ ?_
      · exact Stk_step (N := n) (pop := (39, n, t)) (new := []) F0 C_t0.1.to2 (fun (h : nk 39 = false) => absurd h (by decide)) (fun q _ h => h (39, n, t) rfl) (fun _ => rfl) (fun y hy hk => ⟨rfl, Mo_nil (n := n) y hy hk⟩) (fun (h : 39 = 3 ∨ 39 = 18 ∨ 39 = 41) => absurd h (by decide)) (fun (h : 39 = 18) => absurd h (by decide)) (fun (h : 39 = 41 ∨ 39 = 42 ∨ 39 = 43) => absurd h (by decide)) r [] (fun y hy => absurd hy List.not_mem_nil) hS
      · exact Aj_tl hJ
      · show m_dp t0 = sD r
        have : dlt 39 = 0 := rfl; omega
      · show m_rw t0 = sR r
        have : rho 39 = 0 := rfl; omega
      · show m_md t0 + sM r ≤ 3 * m_at t0 + 7 * (r.length) + 10
        have : mu7 39 = 7 := rfl; omega
      · show sW r + 6 * (4096 - m_at t0) + 4 * (600 - (r.length)) < (wt 39 + sW r) + 6 * (4096 - m_at t0) + 4 * (600 - (r.length + 1))
        have : wt 39 = 9 := rfl; omega
    · have q6n := Nat.pos_of_ne_zero (n6_beginsStatement q6)
      refine Kp_push C_t0 (by omega) (fun t7 C_t7 X_t7 a_t7 b_t7 d_t7 w_t7 u_t7 v_t7 j_t7 l_t7 => ?_)
      have e_t7 := C_t7.2.2.2.1
      have I_n_t7 := I_n_t0.flat X_t7
      have u_n_t7 := u_n_t0.ex I_n_t0 (X_t7 0)
      refine Ok_bn (show Ok (Qh (mz t7 ((59, n, 0) :: ((40, n, 0) :: r)))) _ (St 40 n t7) from S_59 40 ?_ (by omega)) (fun v s9 h9 => Ok_ret (Qh_le (v' := 0) ?_ h9))
      · refine Hp_mk (Kv_c (x := (40, n, 0)) rfl hK) (C_t7.1.2.2.2.2.2.2 hTt) C_t7 hT (by omega) (by omega) (by omega) ?_ ?_ ?_ (by omega) ?_ ?_
        · exact ⟨(Io_n (by decide) (by decide) I_n_t7.1 I_n_t7.2.1 I_n_t7.2.2.1 (fun _ => u_n_t7) (fun q => absurd q (by decide)) I_n_t7.2.2.2), (Nd_0 (by decide) Mo_nil), ⟨(Io_n (by decide) (by decide) I_n_t7.1 I_n_t7.2.1 I_n_t7.2.2.1 (fun _ => u_n_t7) (fun q => absurd q (by decide)) I_n_t7.2.2.2), (Nd_0 (by decide) (Mo_cons (fun q => show n ≤ n from by omega) Mo_nil)), Stk_step (N := n) (pop := (39, n, t)) (new := [(40, n, 0), (59, n, 0)]) F0 C_t7.1.to2 (fun (h : nk 39 = false) => absurd h (by decide)) (fun q _ h => h (39, n, t) rfl) (fun _ => rfl) (fun y hy hk => ⟨rfl, (Mo_cons (fun q => show n ≤ n from by omega) (Mo_cons (fun q => show n ≤ n from by omega) Mo_nil)) y hy hk⟩) (fun (h : 39 = 3 ∨ 39 = 18 ∨ 39 = 41) => absurd h (by decide)) (fun (h : 39 = 18) => absurd h (by decide)) (fun (h : 39 = 41 ∨ 39 = 42 ∨ 39 = 43) => absurd h (by decide)) r [] (fun y hy => absurd hy List.not_mem_nil) hS⟩⟩
        · exact (Aj_up (x := (59, n, 0)) (Aj_sub (y := (40, n, 0)) hJ (Nat.le_of_ble_eq_true rfl)) (Or.inr (Nat.le_of_ble_eq_true rfl)))
        · show m_dp t7 = (dlt 59 + (dlt 40 + sD r))
          have : dlt 39 = 0 := rfl; have : dlt 40 = 0 := rfl; have : dlt 59 = 0 := rfl; omega
        · show m_rw t7 = (rho 59 + (rho 40 + sR r))
          have : rho 39 = 0 := rfl; have : rho 40 = 0 := rfl; have : rho 59 = 0 := rfl; omega
        · show m_md t7 + (mu7 59 + (mu7 40 + sM r)) ≤ 3 * m_at t7 + 7 * (r.length + 1 + 1) + 10
          have : mu7 39 = 7 := rfl; have : mu7 40 = 7 := rfl; have : mu7 59 = 6 := rfl; omega
      · show (wt 59 + (wt 40 + sW r)) + 6 * (4096 - m_at t7) + 4 * (600 - (r.length + 1 + 1)) ≤ (wt 39 + sW r) + 6 * (4096 - m_at t0) + 4 * (600 - (r.length + 1))
        have : wt 39 = 9 := rfl; have : wt 40 = 5 := rfl; have : wt 59 = 7 := rfl; omega

theorem S_40 {t0 : Mm} {n t : Nat} {r : List It} (H : Hp t0 (40, n, t) r) {E : Mm → Prop} : Ok (Qh (mz t0 ((40, n, t) :: r))) E (b_X6_step 40 n t t0) := by
  obtain ⟨hK, hT, hc, hw0, ha, hC, hS, hJ, hdp, hdl, hrw, hmd, htd, hln, hm16, hI, hD, hTt⟩ := Hp_out H
  have C_t0 := hC n
  have F0 := C_t0.2.1
  have I_n_t0 : Nq t0 n := ⟨(hI.2.1 rfl).1, (hI.2.1 rfl).2.1, (hI.2.1 rfl).2.2, hI.2.2.2 rfl⟩
  have m_n_t0 := I_n_t0.1
  have ht : t < 4096 := hI.1.1 (show 40 ≠ 42 by decide) (show 40 ≠ 48 by decide)
  have hdp : m_dp t0 = dlt 40 + sD r := hdp
  have hrw : m_rw t0 = rho 40 + sR r := hrw
  have hmd : m_md t0 + mu7 40 + sM r ≤ 3 * m_at t0 + 7 * r.length + 17 := hmd
  have hand : t &&& 1 ≤ 1 := Nat.and_le_right
  have h01 : (0 &&& 1 : Nat) = 0 := rfl
  have h02 : (1 : Nat) * 256 = 256 := rfl
  have hq1 : dlt 40 = 0 := rfl
  have hq2 : rho 40 = 0 := rfl
  have hq3 : mu7 40 = 7 := rfl
  have u_n_t0 : Up t0 n := hI.2.2.1 rfl
  unfold b_X6_step
  refine Ok_ifl (by decide) (by decide) (fun _ => ?_) (fun q => absurd (by decide) q)
  refine Ok_ifl (by decide) (by decide) (fun q => absurd q (by decide)) (fun _ => ?_)
  refine Ok_ifl (by decide) (by decide) (fun q => absurd q (by decide)) (fun _ => ?_)
  refine Ok_ifl (by decide) (by decide) (fun _ => ?_) (fun q => absurd (by decide) q)
  refine Ok_bnc ?_
  try unfold b_X6_declaring
  refine Ok_ck (by decide) ?_
  refine Ok_ife (by decide) (by decide) (fun q => absurd q (by decide)) (fun _ => ?_)
  refine Ok_ife (by decide) (by decide) (fun q => absurd q (by decide)) (fun _ => ?_)
  refine Ok_ife (by decide) (by decide) (fun q => absurd q (by decide)) (fun _ => ?_)
  refine Ok_ife (by decide) (by decide) (fun q => absurd q (by decide)) (fun _ => ?_)
  refine Ok_ife (by decide) (by decide) (fun q => absurd q (by decide)) (fun _ => ?_)
  refine Ok_ife (by decide) (by decide) (fun q => absurd q (by decide)) (fun _ => ?_)
  refine Ok_ife (by decide) (by decide) (fun q => absurd q (by decide)) (fun _ => ?_)
  refine Ok_ife (by decide) (by decide) (fun q => absurd q (by decide)) (fun _ => ?_)
  refine Ok_ife (by decide) (by decide) (fun q => absurd q (by decide)) (fun _ => ?_)
  refine Ok_ife (by decide) (by decide) (fun q => absurd q (by decide)) (fun _ => ?_)
  refine Ok_ife (by decide) (by decide) (fun q => absurd q (by decide)) (fun _ => ?_)
  refine Ok_bnc ?_
  try unfold b_X6_statementsMore
  refine Kp_look C_t0 hT (by omega) ?_
  refine Ok_ife (Nat.lt_trans (lo_lt (C_t0.tk hT) _) (by decide)) (by decide) (fun q3 => ?_) (fun q3 => ?_)
  · have z_t4 : m_at t0 < m_ct t0 := lo_ne (Nat.ne_of_gt (show 0 < lo t0 (m_at t0) from by omega))
    refine Kp_at C_t0 (fun t4 C_t4 X_t4 a_t4 b_t4 d_t4 w_t4 u_t4 v_t4 j_t4 l_t4 => ?_)
    have e_t4 := C_t4.2.2.2.1
    have I_n_t4 := I_n_t0.flat X_t4
    have u_n_t4 := u_n_t0.ex I_n_t0 (X_t4 0)
    refine Kp_push C_t4 (by omega) (fun t5 C_t5 X_t5 a_t5 b_t5 d_t5 w_t5 u_t5 v_t5 j_t5 l_t5 => ?_)
    have e_t5 := C_t5.2.2.2.1
    rw [a_t4] at a_t5
    rw [b_t4] at b_t5
    rw [d_t4] at d_t5
    rw [w_t4] at w_t5
    rw [u_t4] at u_t5
    rw [v_t4] at v_t5
    clear d_t4 w_t4 u_t4 v_t4 e_t4 a_t4 b_t4
    have I_n_t5 := I_n_t4.flat X_t5
    have u_n_t5 := u_n_t4.ex I_n_t4 (X_t5 0)
    refine Ok_ret (show Ok _ _ _ from ?_)
    refine Ok_ret (show Ok _ _ _ from ?_)
    refine Hv_mk (Kv_c (x := (39, n, 0)) rfl hK) (C_t5.1.2.2.2.2.2.2 hTt) C_t5 hT (by omega) (by omega) (by omega) ?_ ?_ ?_ (by omega) ?_ ?_ ?_
    · exact ⟨(Io_n (by decide) (by decide) I_n_t5.1 I_n_t5.2.1 I_n_t5.2.2.1 (fun _ => u_n_t5) (fun q => absurd q (by decide)) I_n_t5.2.2.2), (Nd_0 (by decide) Mo_nil), Stk_step (N := n) (pop := (40, n, t)) (new := [(39, n, 0)]) F0 C_t5.1.to2 (fun (h : nk 40 = false) => absurd h (by decide)) (fun q _ h => h (40, n, t) rfl) (fun _ => rfl) (fun y hy hk => ⟨rfl, (Mo_cons (fun q => show n ≤ n from by omega) Mo_nil) y hy hk⟩) (fun (h : 40 = 3 ∨ 40 = 18 ∨ 40 = 41) => absurd h (by decide)) (fun (h : 40 = 18) => absurd h (by decide)) (fun (h : 40 = 41 ∨ 40 = 42 ∨ 40 = 43) => absurd h (by decide)) r [] (fun y hy => absurd hy List.not_mem_nil) hS⟩
    · exact (Aj_sub (y := (39, n, 0)) hJ (Nat.le_of_ble_eq_true rfl))
    · show m_dp t5 = (dlt 39 + sD r)
      have : dlt 39 = 0 := rfl; have : dlt 40 = 0 := rfl; omega
    · show m_rw t5 = (rho 39 + sR r)
      have : rho 39 = 0 := rfl; have : rho 40 = 0 := rfl; omega
    · show m_md t5 + (mu7 39 + sM r) ≤ 3 * m_at t5 + 7 * (r.length + 1) + 10
      have : mu7 39 = 7 := rfl; have : mu7 40 = 7 := rfl; omega
    · show (wt 39 + sW r) + 6 * (4096 - m_at t5) + 4 * (600 - (r.length + 1)) < (wt 40 + sW r) + 6 * (4096 - m_at t0) + 4 * (600 - (r.length + 1))
      have : wt 39 = 9 := rfl; have : wt 40 = 5 := rfl; omega
  · refine Ok_ret (show Ok _ _ _ from ?_)
    refine Ok_ret (show Ok _ _ _ from ?_)
    refine Hv_mk hK (C_t0.1.2.2.2.2.2.2 hTt) C_t0 hT (by omega) (by omega) (by omega) ?_ ?_ ?_ (by omega) ?_ ?_ ?_
    · exact Stk_step (N := n) (pop := (40, n, t)) (new := []) F0 C_t0.1.to2 (fun (h : nk 40 = false) => absurd h (by decide)) (fun q _ h => h (40, n, t) rfl) (fun _ => rfl) (fun y hy hk => ⟨rfl, Mo_nil (n := n) y hy hk⟩) (fun (h : 40 = 3 ∨ 40 = 18 ∨ 40 = 41) => absurd h (by decide)) (fun (h : 40 = 18) => absurd h (by decide)) (fun (h : 40 = 41 ∨ 40 = 42 ∨ 40 = 43) => absurd h (by decide)) r [] (fun y hy => absurd hy List.not_mem_nil) hS
    · exact Aj_tl hJ
    · show m_dp t0 = sD r
      have : dlt 40 = 0 := rfl; omega
    · show m_rw t0 = sR r
      have : rho 40 = 0 := rfl; omega
    · show m_md t0 + sM r ≤ 3 * m_at t0 + 7 * (r.length) + 10
      have : mu7 40 = 7 := rfl; omega
    · show sW r + 6 * (4096 - m_at t0) + 4 * (600 - (r.length)) < (wt 40 + sW r) + 6 * (4096 - m_at t0) + 4 * (600 - (r.length + 1))
      have : wt 40 = 5 := rfl; omega

theorem S_41 {t0 : Mm} {n t : Nat} {r : List It} (H : Hp t0 (41, n, t) r) {E : Mm → Prop} : Ok (Qh (mz t0 ((41, n, t) :: r))) E (b_X6_step 41 n t t0) := by
  obtain ⟨hK, hT, hc, hw0, ha, hC, hS, hJ, hdp, hdl, hrw, hmd, htd, hln, hm16, hI, hD, hTt⟩ := Hp_out H
  have C_t0 := hC n
  have F0 := C_t0.2.1
  have I_n_t0 : Nq t0 n := ⟨(hI.2.1 rfl).1, (hI.2.1 rfl).2.1, (hI.2.1 rfl).2.2, hI.2.2.2 rfl⟩
  have m_n_t0 := I_n_t0.1
  have ht : t < 4096 := hI.1.1 (show 41 ≠ 42 by decide) (show 41 ≠ 48 by decide)
  have ht : t < 256 := hI.1.2.2.2.2.2.2.2 rfl
  have hdp : m_dp t0 = dlt 41 + sD r := hdp
  have hrw : m_rw t0 = rho 41 + sR r := hrw
  have hmd : m_md t0 + mu7 41 + sM r ≤ 3 * m_at t0 + 7 * r.length + 17 := hmd
  have hand : t &&& 1 ≤ 1 := Nat.and_le_right
  have h01 : (0 &&& 1 : Nat) = 0 := rfl
  have hor0 : (t &&& 1) ||| 0 ≤ 1 := by rw [Nat.or_zero]; exact hand
  have hor2 : (t &&& 1) ||| 2 < 4 := Nat.or_lt_two_pow (n := 2) (by omega) (by decide)
  have h02 : (1 : Nat) * 256 = 256 := rfl
  have hq1 : dlt 41 = 0 := rfl
  have hq2 : rho 41 = 0 := rfl
  have hq3 : mu7 41 = 6 := rfl
  have u_n_t0 : Up t0 n := hI.2.2.1 rfl
  unfold b_X6_step
  refine Ok_ifl (by decide) (by decide) (fun _ => ?_) (fun q => absurd (by decide) q)
  refine Ok_ifl (by decide) (by decide) (fun q => absurd q (by decide)) (fun _ => ?_)
  refine Ok_ifl (by decide) (by decide) (fun q => absurd q (by decide)) (fun _ => ?_)
  refine Ok_ifl (by decide) (by decide) (fun q => absurd q (by decide)) (fun _ => ?_)
  refine Ok_bnc ?_
  try unfold b_X6_stating
  refine Ok_ck (by decide) ?_
  refine Ok_ife (by decide) (by decide) (fun _ => ?_) (fun q => absurd (by decide) q)
  refine Ok_bnc ?_
  try unfold b_X6_simple
  refine Kp_push C_t0 (by omega) (fun t3 C_t3 X_t3 a_t3 b_t3 d_t3 w_t3 u_t3 v_t3 j_t3 l_t3 => ?_)
  have e_t3 := C_t3.2.2.2.1
  have I_n_t3 := I_n_t0.flat X_t3
  have u_n_t3 := u_n_t0.ex I_n_t0 (X_t3 0)
  refine Ok_ck (show t < 2147483648 from by omega) ?_
  refine Ok_ifz (f6_has _ _) (fun q4 => ?_) (fun q4 => ?_)
  · refine Ok_bnc ?_
    try unfold b_X6_expression
    refine Kp_push C_t3 (by omega) (fun t6 C_t6 X_t6 a_t6 b_t6 d_t6 w_t6 u_t6 v_t6 j_t6 l_t6 => ?_)
    have e_t6 := C_t6.2.2.2.1
    rw [a_t3] at a_t6
    rw [b_t3] at b_t6
    rw [d_t3] at d_t6
    rw [w_t3] at w_t6
    rw [u_t3] at u_t6
    rw [v_t3] at v_t6
    clear d_t3 w_t3 u_t3 v_t3 e_t3 a_t3 b_t3
    have I_n_t6 := I_n_t3.flat X_t6
    have u_n_t6 := u_n_t3.ex I_n_t3 (X_t6 0)
    refine Kp_push C_t6 (by omega) (fun t7 C_t7 X_t7 a_t7 b_t7 d_t7 w_t7 u_t7 v_t7 j_t7 l_t7 => ?_)
    have e_t7 := C_t7.2.2.2.1
    rw [a_t6] at a_t7
    rw [b_t6] at b_t7
    rw [d_t6] at d_t7
    rw [w_t6] at w_t7
    rw [u_t6] at u_t7
    rw [v_t6] at v_t7
    clear d_t6 w_t6 u_t6 v_t6 e_t6 a_t6 b_t6
    have I_n_t7 := I_n_t6.flat X_t7
    have u_n_t7 := u_n_t6.ex I_n_t6 (X_t7 0)
    refine Ok_ret (show Ok _ _ _ from ?_)
    refine Ok_ret (show Ok _ _ _ from ?_)
    refine Ok_ret (show Ok _ _ _ from ?_)
    refine Hv_mk (Kv_c (x := (3, n, (t &&& 1) ||| 0)) rfl (Kv_c (x := (2, n, ((t &&& 1) ||| 0) ||| (1 * 256))) rfl (Kv_c (x := (42, n, t ||| ((m_at t0) * 256))) rfl hK))) (C_t7.1.2.2.2.2.2.2 hTt) C_t7 hT (by omega) (by omega) (by omega) ?_ ?_ ?_ (by omega) ?_ ?_ ?_
    · exact ⟨(Io_n (by decide) (show (t &&& 1) ||| 0 < 4096 from by omega) I_n_t7.1 I_n_t7.2.1 I_n_t7.2.2.1 (fun q => absurd q (by decide)) (fun q => absurd q (by decide)) I_n_t7.2.2.2), (Nd_0 (by decide) Mo_nil), ⟨(Io_2 (by have := or_256 (b := 1) (show ((t &&& 1) ||| 0) < 256 from by omega); omega) (by have := or_256 (b := 1) (show ((t &&& 1) ||| 0) < 256 from by omega); omega) (by have := or_256 (b := 1) (show ((t &&& 1) ||| 0) < 256 from by omega); omega) I_n_t7.1 I_n_t7.2.1 I_n_t7.2.2.1 I_n_t7.2.2.2), (Nd_A (by decide) (Mo_cons (fun q => show n ≤ n from by omega) Mo_nil) (Or.inr ⟨(3, n, (t &&& 1) ||| 0), List.mem_cons_self, rfl, Or.inl rfl⟩)), ⟨(Io_42 (by have := or_256 (b := m_at t0) (show t < 256 from by omega); omega) I_n_t7.1 I_n_t7.2.1 I_n_t7.2.2.1 u_n_t7 I_n_t7.2.2.2), (Nd_A (by decide) (Mo_cons (fun q => show n ≤ n from by omega) (Mo_cons (fun q => show n ≤ n from by omega) Mo_nil)) (Or.inr ⟨(3, n, (t &&& 1) ||| 0), (List.mem_cons_of_mem _ List.mem_cons_self), rfl, Or.inl rfl⟩)), Stk_step (N := n) (pop := (41, n, t)) (new := [(42, n, t ||| ((m_at t0) * 256)), (2, n, ((t &&& 1) ||| 0) ||| (1 * 256)), (3, n, (t &&& 1) ||| 0)]) F0 C_t7.1.to2 (fun (h : nk 41 = false) => absurd h (by decide)) (fun q _ h => h (41, n, t) rfl) (fun _ => rfl) (fun y hy hk => ⟨rfl, (Mo_cons (fun q => show n ≤ n from by omega) (Mo_cons (fun q => show n ≤ n from by omega) (Mo_cons (fun q => show n ≤ n from by omega) Mo_nil))) y hy hk⟩) (fun _ => Or.inr ⟨(3, n, (t &&& 1) ||| 0), (List.mem_cons_of_mem _ (List.mem_cons_of_mem _ List.mem_cons_self)), rfl, Or.inl rfl⟩) (fun (h : 41 = 18) => absurd h (by decide)) (fun _ h16 => (Or.inl ⟨(42, n, t ||| ((m_at t0) * 256)), rfl, rfl, Or.inr (Or.inl rfl), and16_or.trans h16⟩)) r [] (fun y hy => absurd hy List.not_mem_nil) hS⟩⟩⟩
    · exact (Aj_up (x := (3, n, (t &&& 1) ||| 0)) (Aj_up (x := (2, n, ((t &&& 1) ||| 0) ||| (1 * 256))) (Aj_sub (y := (42, n, t ||| ((m_at t0) * 256))) hJ (Nat.le_of_ble_eq_true rfl)) (Or.inr (show 9 - (((t &&& 1) ||| 0) ||| (1 * 256)) / 256 < 10 from by have := or_256 (b := 1) (show ((t &&& 1) ||| 0) < 256 from by omega); omega))) (Or.inr (show 2 < 9 - (((t &&& 1) ||| 0) ||| (1 * 256)) / 256 from by have := or_256 (b := 1) (show ((t &&& 1) ||| 0) < 256 from by omega); omega)))
    · show m_dp t7 = (dlt 3 + (dlt 2 + (dlt 42 + sD r)))
      have : dlt 2 = 0 := rfl; have : dlt 3 = 0 := rfl; have : dlt 41 = 0 := rfl; have : dlt 42 = 0 := rfl; omega
    · show m_rw t7 = (rho 3 + (rho 2 + (rho 42 + sR r)))
      have : rho 2 = 0 := rfl; have : rho 3 = 0 := rfl; have : rho 41 = 0 := rfl; have : rho 42 = 0 := rfl; omega
    · show m_md t7 + (mu7 3 + (mu7 2 + (mu7 42 + sM r))) ≤ 3 * m_at t7 + 7 * (r.length + 1 + 1 + 1) + 10
      have : mu7 2 = 7 := rfl; have : mu7 3 = 5 := rfl; have : mu7 41 = 6 := rfl; have : mu7 42 = 8 := rfl; omega
    · show (wt 3 + (wt 2 + (wt 42 + sW r))) + 6 * (4096 - m_at t7) + 4 * (600 - (r.length + 1 + 1 + 1)) < (wt 41 + sW r) + 6 * (4096 - m_at t0) + 4 * (600 - (r.length + 1))
      have : wt 2 = 5 := rfl; have : wt 3 = 3 := rfl; have : wt 41 = 6 := rfl; have : wt 42 = 5 := rfl; omega
  · refine Ok_bnc ?_
    try unfold b_X6_expression
    refine Kp_push C_t3 (by omega) (fun t9 C_t9 X_t9 a_t9 b_t9 d_t9 w_t9 u_t9 v_t9 j_t9 l_t9 => ?_)
    have e_t9 := C_t9.2.2.2.1
    rw [a_t3] at a_t9
    rw [b_t3] at b_t9
    rw [d_t3] at d_t9
    rw [w_t3] at w_t9
    rw [u_t3] at u_t9
    rw [v_t3] at v_t9
    clear d_t3 w_t3 u_t3 v_t3 e_t3 a_t3 b_t3
    have I_n_t9 := I_n_t3.flat X_t9
    have u_n_t9 := u_n_t3.ex I_n_t3 (X_t9 0)
    refine Kp_push C_t9 (by omega) (fun t10 C_t10 X_t10 a_t10 b_t10 d_t10 w_t10 u_t10 v_t10 j_t10 l_t10 => ?_)
    have e_t10 := C_t10.2.2.2.1
    rw [a_t9] at a_t10
    rw [b_t9] at b_t10
    rw [d_t9] at d_t10
    rw [w_t9] at w_t10
    rw [u_t9] at u_t10
    rw [v_t9] at v_t10
    clear d_t9 w_t9 u_t9 v_t9 e_t9 a_t9 b_t9
    have I_n_t10 := I_n_t9.flat X_t10
    have u_n_t10 := u_n_t9.ex I_n_t9 (X_t10 0)
    refine Ok_ret (show Ok _ _ _ from ?_)
    refine Ok_ret (show Ok _ _ _ from ?_)
    refine Ok_ret (show Ok _ _ _ from ?_)
    refine Hv_mk (Kv_c (x := (3, n, (t &&& 1) ||| 2)) rfl (Kv_c (x := (2, n, ((t &&& 1) ||| 2) ||| (1 * 256))) rfl (Kv_c (x := (42, n, t ||| ((m_at t0) * 256))) rfl hK))) (C_t10.1.2.2.2.2.2.2 hTt) C_t10 hT (by omega) (by omega) (by omega) ?_ ?_ ?_ (by omega) ?_ ?_ ?_
    · exact ⟨(Io_n (by decide) (show (t &&& 1) ||| 2 < 4096 from by omega) I_n_t10.1 I_n_t10.2.1 I_n_t10.2.2.1 (fun q => absurd q (by decide)) (fun q => absurd q (by decide)) I_n_t10.2.2.2), (Nd_0 (by decide) Mo_nil), ⟨(Io_2 (by have := or_256 (b := 1) (show ((t &&& 1) ||| 2) < 256 from by omega); omega) (by have := or_256 (b := 1) (show ((t &&& 1) ||| 2) < 256 from by omega); omega) (by have := or_256 (b := 1) (show ((t &&& 1) ||| 2) < 256 from by omega); omega) I_n_t10.1 I_n_t10.2.1 I_n_t10.2.2.1 I_n_t10.2.2.2), (Nd_A (by decide) (Mo_cons (fun q => show n ≤ n from by omega) Mo_nil) (Or.inr ⟨(3, n, (t &&& 1) ||| 2), List.mem_cons_self, rfl, Or.inl rfl⟩)), ⟨(Io_42 (by have := or_256 (b := m_at t0) (show t < 256 from by omega); omega) I_n_t10.1 I_n_t10.2.1 I_n_t10.2.2.1 u_n_t10 I_n_t10.2.2.2), (Nd_A (by decide) (Mo_cons (fun q => show n ≤ n from by omega) (Mo_cons (fun q => show n ≤ n from by omega) Mo_nil)) (Or.inr ⟨(3, n, (t &&& 1) ||| 2), (List.mem_cons_of_mem _ List.mem_cons_self), rfl, Or.inl rfl⟩)), Stk_step (N := n) (pop := (41, n, t)) (new := [(42, n, t ||| ((m_at t0) * 256)), (2, n, ((t &&& 1) ||| 2) ||| (1 * 256)), (3, n, (t &&& 1) ||| 2)]) F0 C_t10.1.to2 (fun (h : nk 41 = false) => absurd h (by decide)) (fun q _ h => h (41, n, t) rfl) (fun _ => rfl) (fun y hy hk => ⟨rfl, (Mo_cons (fun q => show n ≤ n from by omega) (Mo_cons (fun q => show n ≤ n from by omega) (Mo_cons (fun q => show n ≤ n from by omega) Mo_nil))) y hy hk⟩) (fun _ => Or.inr ⟨(3, n, (t &&& 1) ||| 2), (List.mem_cons_of_mem _ (List.mem_cons_of_mem _ List.mem_cons_self)), rfl, Or.inl rfl⟩) (fun (h : 41 = 18) => absurd h (by decide)) (fun _ h16 => (Or.inl ⟨(42, n, t ||| ((m_at t0) * 256)), rfl, rfl, Or.inr (Or.inl rfl), and16_or.trans h16⟩)) r [] (fun y hy => absurd hy List.not_mem_nil) hS⟩⟩⟩
    · exact (Aj_up (x := (3, n, (t &&& 1) ||| 2)) (Aj_up (x := (2, n, ((t &&& 1) ||| 2) ||| (1 * 256))) (Aj_sub (y := (42, n, t ||| ((m_at t0) * 256))) hJ (Nat.le_of_ble_eq_true rfl)) (Or.inr (show 9 - (((t &&& 1) ||| 2) ||| (1 * 256)) / 256 < 10 from by have := or_256 (b := 1) (show ((t &&& 1) ||| 2) < 256 from by omega); omega))) (Or.inr (show 2 < 9 - (((t &&& 1) ||| 2) ||| (1 * 256)) / 256 from by have := or_256 (b := 1) (show ((t &&& 1) ||| 2) < 256 from by omega); omega)))
    · show m_dp t10 = (dlt 3 + (dlt 2 + (dlt 42 + sD r)))
      have : dlt 2 = 0 := rfl; have : dlt 3 = 0 := rfl; have : dlt 41 = 0 := rfl; have : dlt 42 = 0 := rfl; omega
    · show m_rw t10 = (rho 3 + (rho 2 + (rho 42 + sR r)))
      have : rho 2 = 0 := rfl; have : rho 3 = 0 := rfl; have : rho 41 = 0 := rfl; have : rho 42 = 0 := rfl; omega
    · show m_md t10 + (mu7 3 + (mu7 2 + (mu7 42 + sM r))) ≤ 3 * m_at t10 + 7 * (r.length + 1 + 1 + 1) + 10
      have : mu7 2 = 7 := rfl; have : mu7 3 = 5 := rfl; have : mu7 41 = 6 := rfl; have : mu7 42 = 8 := rfl; omega
    · show (wt 3 + (wt 2 + (wt 42 + sW r))) + 6 * (4096 - m_at t10) + 4 * (600 - (r.length + 1 + 1 + 1)) < (wt 41 + sW r) + 6 * (4096 - m_at t0) + 4 * (600 - (r.length + 1))
      have : wt 2 = 5 := rfl; have : wt 3 = 3 := rfl; have : wt 41 = 6 := rfl; have : wt 42 = 5 := rfl; omega

theorem S_44 {t0 : Mm} {n t : Nat} {r : List It} (H : Hp t0 (44, n, t) r) {E : Mm → Prop} : Ok (Qh (mz t0 ((44, n, t) :: r))) E (b_X6_step 44 n t t0) := by
  obtain ⟨hK, hT, hc, hw0, ha, hC, hS, hJ, hdp, hdl, hrw, hmd, htd, hln, hm16, hI, hD, hTt⟩ := Hp_out H
  have C_t0 := hC n
  have F0 := C_t0.2.1
  have I_n_t0 : Nq t0 n := ⟨(hI.2.1 rfl).1, (hI.2.1 rfl).2.1, (hI.2.1 rfl).2.2, hI.2.2.2 rfl⟩
  have m_n_t0 := I_n_t0.1
  have ht : t < 4096 := hI.1.1 (show 44 ≠ 42 by decide) (show 44 ≠ 48 by decide)
  have hdp : m_dp t0 = dlt 44 + sD r := hdp
  have hrw : m_rw t0 = rho 44 + sR r := hrw
  have hmd : m_md t0 + mu7 44 + sM r ≤ 3 * m_at t0 + 7 * r.length + 17 := hmd
  have hand : t &&& 1 ≤ 1 := Nat.and_le_right
  have h01 : (0 &&& 1 : Nat) = 0 := rfl
  have h02 : (1 : Nat) * 256 = 256 := rfl
  have hq1 : dlt 44 = 0 := rfl
  have hq2 : rho 44 = 0 := rfl
  have hq3 : mu7 44 = 7 := rfl
  obtain ⟨f5, -, hH50⟩ : N44 t0 n [] := (hD.2.2.2.2.1 (show 44 = 44 ∨ 44 = 46 ∨ 44 = 49 by decide)).resolve_left (fun ⟨_, h, _⟩ => by cases h)
  have f_n_t0 : Fz t0 n := f5
  obtain ⟨hla0, hla2, -, -⟩ := Fo_lp F0 I_n_t0 f_n_t0
  have hla1 : m_la t0 n - 1 < m_md t0 := by omega
  have u_n_t0 : Up t0 n := hI.2.2.1 rfl
  unfold b_X6_step
  refine Ok_ifl (by decide) (by decide) (fun _ => ?_) (fun q => absurd (by decide) q)
  refine Ok_ifl (by decide) (by decide) (fun q => absurd q (by decide)) (fun _ => ?_)
  refine Ok_ifl (by decide) (by decide) (fun q => absurd q (by decide)) (fun _ => ?_)
  refine Ok_ifl (by decide) (by decide) (fun q => absurd q (by decide)) (fun _ => ?_)
  refine Ok_bnc ?_
  try unfold b_X6_stating
  refine Ok_ck (by decide) ?_
  refine Ok_ife (by decide) (by decide) (fun q => absurd q (by decide)) (fun _ => ?_)
  refine Ok_ife (by decide) (by decide) (fun q => absurd q (by decide)) (fun _ => ?_)
  refine Ok_ife (by decide) (by decide) (fun q => absurd q (by decide)) (fun _ => ?_)
  refine Ok_ife (by decide) (by decide) (fun _ => ?_) (fun q => absurd (by decide) q)
  refine Ok_bnc ?_
  try unfold b_X6_ifRest
  refine Kp_look C_t0 hT (by omega) ?_
  refine Ok_ife (Nat.lt_trans (lo_lt (C_t0.tk hT) _) (by decide)) (by decide) (fun q3 => ?_) (fun q3 => ?_)
  · refine Kp_wrap C_t0 I_n_t0.1 I_n_t0.2.1 f_n_t0 I_n_t0.2.2.1 (by omega) (by omega) (by decide) (fun t4 C_t4 X_t4 a_t4 b_t4 d_t4 w_t4 u_t4 v_t4 j_t4 l_t4 => ?_)
    have e_t4 := C_t4.2.2.2.1
    have I_n_t4 := I_n_t0.le X_t4 (by omega)
    have f_n_t4 := f_n_t0.ex I_n_t0 (X_t4 0 (Nat.zero_le _))
    have u_n_t4 := u_n_t0.ex I_n_t0 (X_t4 0 (Nat.zero_le _))
    have I_m_mdt0_t4 : Nq t4 (m_md t0) := Nq.wrn j_t4 (by omega) I_n_t0 (by decide)
    have f_m_mdt0_t4 : Fz t4 (m_md t0) := by unfold Fz; rw [j_t4.2.1]; exact j_t4.2.2.1
    have z_t5 : m_at t4 < m_ct t4 := lo_ne (Nat.ne_of_gt (show 0 < lo t4 (m_at t4) from by omega))
    refine Kp_at C_t4 (fun t5 C_t5 X_t5 a_t5 b_t5 d_t5 w_t5 u_t5 v_t5 j_t5 l_t5 => ?_)
    have e_t5 := C_t5.2.2.2.1
    rw [a_t4] at a_t5
    rw [b_t4] at b_t5
    rw [d_t4] at d_t5
    rw [w_t4] at w_t5
    rw [u_t4] at u_t5
    rw [v_t4] at v_t5
    rw [a_t4, e_t4] at z_t5
    clear d_t4 w_t4 u_t4 v_t4 e_t4 a_t4 b_t4
    have I_n_t5 := I_n_t4.flat X_t5
    have f_n_t5 := f_n_t4.ex I_n_t4 (X_t5 0)
    have u_n_t5 := u_n_t4.ex I_n_t4 (X_t5 0)
    have I_m_mdt0_t5 := I_m_mdt0_t4.flat X_t5
    have f_m_mdt0_t5 := f_m_mdt0_t4.ex I_m_mdt0_t4 (X_t5 0)
    refine Ok_bnc ?_
    try unfold b_X6_expression
    refine Kp_push C_t5 (by omega) (fun t7 C_t7 X_t7 a_t7 b_t7 d_t7 w_t7 u_t7 v_t7 j_t7 l_t7 => ?_)
    have e_t7 := C_t7.2.2.2.1
    rw [a_t5] at a_t7
    rw [b_t5] at b_t7
    rw [d_t5] at d_t7
    rw [w_t5] at w_t7
    rw [u_t5] at u_t7
    rw [v_t5] at v_t7
    clear d_t5 w_t5 u_t5 v_t5 e_t5 a_t5 b_t5
    have I_n_t7 := I_n_t5.flat X_t7
    have f_n_t7 := f_n_t5.ex I_n_t5 (X_t7 0)
    have u_n_t7 := u_n_t5.ex I_n_t5 (X_t7 0)
    have I_m_mdt0_t7 := I_m_mdt0_t5.flat X_t7
    have f_m_mdt0_t7 := f_m_mdt0_t5.ex I_m_mdt0_t5 (X_t7 0)
    refine Kp_push C_t7 (by omega) (fun t8 C_t8 X_t8 a_t8 b_t8 d_t8 w_t8 u_t8 v_t8 j_t8 l_t8 => ?_)
    have e_t8 := C_t8.2.2.2.1
    rw [a_t7] at a_t8
    rw [b_t7] at b_t8
    rw [d_t7] at d_t8
    rw [w_t7] at w_t8
    rw [u_t7] at u_t8
    rw [v_t7] at v_t8
    clear d_t7 w_t7 u_t7 v_t7 e_t7 a_t7 b_t7
    have I_n_t8 := I_n_t7.flat X_t8
    have f_n_t8 := f_n_t7.ex I_n_t7 (X_t8 0)
    have u_n_t8 := u_n_t7.ex I_n_t7 (X_t8 0)
    have I_m_mdt0_t8 := I_m_mdt0_t7.flat X_t8
    have f_m_mdt0_t8 := f_m_mdt0_t7.ex I_m_mdt0_t7 (X_t8 0)
    refine Ok_ret (show Ok _ _ _ from ?_)
    refine Ok_ret (show Ok _ _ _ from ?_)
    refine Ok_ret (show Ok _ _ _ from ?_)
    refine Hv_mk (Kv_c (x := (3, n, 1)) rfl (Kv_c (x := (2, n, 1 ||| (1 * 256))) rfl hK)) (C_t8.1.2.2.2.2.2.2 hTt) C_t8 hT (by omega) (by omega) (by omega) ?_ ?_ ?_ (by omega) ?_ ?_ ?_
    · exact ⟨(Io_n (by decide) (by decide) I_n_t8.1 I_n_t8.2.1 I_n_t8.2.2.1 (fun q => absurd q (by decide)) (fun q => absurd q (by decide)) I_n_t8.2.2.2), (Nd_0 (by decide) Mo_nil), ⟨(Io_2 (by have := or_256 (b := 1) (show 1 < 256 from by omega); omega) (by have := or_256 (b := 1) (show 1 < 256 from by omega); omega) (by have := or_256 (b := 1) (show 1 < 256 from by omega); omega) I_n_t8.1 I_n_t8.2.1 I_n_t8.2.2.1 I_n_t8.2.2.2), (Nd_A (by decide) (Mo_cons (fun q => show n ≤ n from by omega) Mo_nil) (Or.inr ⟨(3, n, 1), List.mem_cons_self, rfl, Or.inl rfl⟩)), Stk_step (N := n) (pop := (44, n, t)) (new := [(2, n, 1 ||| (1 * 256)), (3, n, 1)]) F0 C_t8.1.to2 (fun (h : nk 44 = false) => absurd h (by decide)) (fun q _ h => h (44, n, t) rfl) (fun _ => rfl) (fun y hy hk => ⟨rfl, (Mo_cons (fun q => show n ≤ n from by omega) (Mo_cons (fun q => show n ≤ n from by omega) Mo_nil)) y hy hk⟩) (fun (h : 44 = 3 ∨ 44 = 18 ∨ 44 = 41) => absurd h (by decide)) (fun (h : 44 = 18) => absurd h (by decide)) (fun (h : 44 = 41 ∨ 44 = 42 ∨ 44 = 43) => absurd h (by decide)) r [] (fun y hy => absurd hy List.not_mem_nil) hS⟩⟩
    · exact (Aj_up (x := (3, n, 1)) (Aj_sub (y := (2, n, 1 ||| (1 * 256))) hJ (show 9 - (1 ||| (1 * 256)) / 256 ≤ 11 from by have := or_256 (b := 1) (show 1 < 256 from by omega); omega)) (Or.inr (show 2 < 9 - (1 ||| (1 * 256)) / 256 from by have := or_256 (b := 1) (show 1 < 256 from by omega); omega)))
    · show m_dp t8 = (dlt 3 + (dlt 2 + sD r))
      have : dlt 2 = 0 := rfl; have : dlt 3 = 0 := rfl; have : dlt 44 = 0 := rfl; omega
    · show m_rw t8 = (rho 3 + (rho 2 + sR r))
      have : rho 2 = 0 := rfl; have : rho 3 = 0 := rfl; have : rho 44 = 0 := rfl; omega
    · show m_md t8 + (mu7 3 + (mu7 2 + sM r)) ≤ 3 * m_at t8 + 7 * (r.length + 1 + 1) + 10
      have : mu7 2 = 7 := rfl; have : mu7 3 = 5 := rfl; have : mu7 44 = 7 := rfl; omega
    · show (wt 3 + (wt 2 + sW r)) + 6 * (4096 - m_at t8) + 4 * (600 - (r.length + 1 + 1)) < (wt 44 + sW r) + 6 * (4096 - m_at t0) + 4 * (600 - (r.length + 1))
      have : wt 2 = 5 := rfl; have : wt 3 = 3 := rfl; have : wt 44 = 5 := rfl; omega
  · refine Ok_ck (show n < 65536 from by omega) ?_
    refine Ok_ck (show (m_la t0 n) ≠ 0 from by omega) ?_
    refine Ok_ck (show ((m_la t0 n) - 1) < 65536 from by omega) ?_
    refine Ok_ife (Nat.lt_trans (C_t0.2.2.2.2.2.2.1 _) (by decide)) (by decide) (fun q9 => ?_) (fun q9 => ?_)
    · refine Kp_unwrap C_t0 I_n_t0.1 I_n_t0.2.1 f_n_t0 I_n_t0.2.2.1 (by omega) (by omega) q9 hH50 (fun t10 C_t10 X_t10 a_t10 b_t10 d_t10 w_t10 u_t10 v_t10 j_t10 l_t10 => ?_)
      have e_t10 := C_t10.2.2.2.1
      have I_n_t10 := I_n_t0.le X_t10 (by omega)
      have f_n_t10 := f_n_t0.ex I_n_t0 (X_t10 0 (Nat.zero_le _))
      have u_n_t10 := u_n_t0.ex I_n_t0 (X_t10 0 (Nat.zero_le _))
      refine Ok_ret (show Ok _ _ _ from ?_)
      refine Ok_ret (show Ok _ _ _ from ?_)
      refine Hv_mk hK (C_t10.1.2.2.2.2.2.2 hTt) C_t10 hT (by omega) (by omega) (by omega) ?_ ?_ ?_ (by omega) ?_ ?_ ?_
      · exact Stk_step (N := n) (pop := (44, n, t)) (new := []) F0 C_t10.1.to2 (fun (h : nk 44 = false) => absurd h (by decide)) (fun q _ h => h (44, n, t) rfl) (fun _ => rfl) (fun y hy hk => ⟨rfl, Mo_nil (n := n) y hy hk⟩) (fun (h : 44 = 3 ∨ 44 = 18 ∨ 44 = 41) => absurd h (by decide)) (fun (h : 44 = 18) => absurd h (by decide)) (fun (h : 44 = 41 ∨ 44 = 42 ∨ 44 = 43) => absurd h (by decide)) r [] (fun y hy => absurd hy List.not_mem_nil) hS
      · exact Aj_tl hJ
      · show m_dp t10 = sD r
        have : dlt 44 = 0 := rfl; omega
      · show m_rw t10 = sR r
        have : rho 44 = 0 := rfl; omega
      · show m_md t10 + sM r ≤ 3 * m_at t10 + 7 * (r.length) + 10
        have : mu7 44 = 7 := rfl; omega
      · show sW r + 6 * (4096 - m_at t10) + 4 * (600 - (r.length)) < (wt 44 + sW r) + 6 * (4096 - m_at t0) + 4 * (600 - (r.length + 1))
        have : wt 44 = 5 := rfl; omega
    · refine Kp_error C_t0 (by omega) (fun t11 C_t11 X_t11 a_t11 b_t11 d_t11 w_t11 u_t11 v_t11 j_t11 l_t11 => ?_)
      have wb_t11 := w_t11.2
      have w_t11 := Nat.pos_of_ne_zero w_t11.1
      have e_t11 := C_t11.2.2.2.1
      have I_n_t11 := I_n_t0.flat X_t11
      have f_n_t11 := f_n_t0.ex I_n_t0 (X_t11 0)
      have u_n_t11 := u_n_t0.ex I_n_t0 (X_t11 0)
      refine Ok_ret (show Ok _ _ _ from ?_)
      refine Ok_ret (show Ok _ _ _ from ?_)
      exact Or.inl ⟨Nat.ne_of_gt (show 0 < m_wr t11 from by omega), by omega, by omega, C_t11.2.2.2.2.2, by omega⟩

theorem S_45_t17 {t0 : Mm} {n t : Nat} {r : List It} (H : Hp t0 (45, n, t) r) {E : Mm → Prop} (hk0 : lo t0 (m_at t0) = 17) : Ok (Qh (mz t0 ((45, n, t) :: r))) E (b_X6_step 45 n t t0) := by
  obtain ⟨hK, hT, hc, hw0, ha, hC, hS, hJ, hdp, hdl, hrw, hmd, htd, hln, hm16, hI, hD, hTt⟩ := Hp_out H
  have C_t0 := hC n
  have F0 := C_t0.2.1
  have I_n_t0 : Nq t0 n := ⟨(hI.2.1 rfl).1, (hI.2.1 rfl).2.1, (hI.2.1 rfl).2.2, hI.2.2.2 rfl⟩
  have m_n_t0 := I_n_t0.1
  have ht : t < 4096 := hI.1.1 (show 45 ≠ 42 by decide) (show 45 ≠ 48 by decide)
  have hdp : m_dp t0 = dlt 45 + sD r := hdp
  have hrw : m_rw t0 = rho 45 + sR r := hrw
  have hmd : m_md t0 + mu7 45 + sM r ≤ 3 * m_at t0 + 7 * r.length + 17 := hmd
  have hand : t &&& 1 ≤ 1 := Nat.and_le_right
  have h01 : (0 &&& 1 : Nat) = 0 := rfl
  have h02 : (1 : Nat) * 256 = 256 := rfl
  have hq1 : dlt 45 = 0 := rfl
  have hq2 : rho 45 = 0 := rfl
  have hq3 : mu7 45 = 7 := rfl
  unfold b_X6_step
  refine Ok_ifl (by decide) (by decide) (fun _ => ?_) (fun q => absurd (by decide) q)
  refine Ok_ifl (by decide) (by decide) (fun q => absurd q (by decide)) (fun _ => ?_)
  refine Ok_ifl (by decide) (by decide) (fun q => absurd q (by decide)) (fun _ => ?_)
  refine Ok_ifl (by decide) (by decide) (fun q => absurd q (by decide)) (fun _ => ?_)
  refine Ok_bnc ?_
  try unfold b_X6_stating
  refine Ok_ck (by decide) ?_
  refine Ok_ife (by decide) (by decide) (fun q => absurd q (by decide)) (fun _ => ?_)
  refine Ok_ife (by decide) (by decide) (fun q => absurd q (by decide)) (fun _ => ?_)
  refine Ok_ife (by decide) (by decide) (fun q => absurd q (by decide)) (fun _ => ?_)
  refine Ok_ife (by decide) (by decide) (fun q => absurd q (by decide)) (fun _ => ?_)
  refine Ok_ife (by decide) (by decide) (fun _ => ?_) (fun q => absurd (by decide) q)
  refine Ok_bnc ?_
  try unfold b_X6_ifElse
  refine Kp_look C_t0 hT (by omega) ?_
  refine Ok_ife (Nat.lt_trans (lo_lt (C_t0.tk hT) _) (by decide)) (by decide) (fun q => ?_) (fun q => absurd hk0 q)
  refine Kp_more C_t0 (by omega) (by omega) (fun t3 C_t3 X_t3 a_t3 b_t3 d_t3 w_t3 u_t3 v_t3 j_t3 l_t3 => ?_)
  have e_t3 := C_t3.2.2.2.1
  rcases w_t3 with ⟨w_t3, y_t3⟩ | ⟨w_t3, wb_t3⟩
  · rw [d_t3] at y_t3
    have I_n_t3 := I_n_t0.flat X_t3
    have z_t4 : m_at t3 < m_ct t3 := lo_ne (Nat.ne_of_gt (show 0 < lo t3 (m_at t3) from by omega))
    refine Kp_at C_t3 (fun t4 C_t4 X_t4 a_t4 b_t4 d_t4 w_t4 u_t4 v_t4 j_t4 l_t4 => ?_)
    have e_t4 := C_t4.2.2.2.1
    rw [a_t3] at a_t4
    rw [b_t3] at b_t4
    rw [d_t3] at d_t4
    rw [w_t3] at w_t4
    rw [u_t3] at u_t4
    rw [v_t3] at v_t4
    rw [a_t3, e_t3] at z_t4
    clear d_t3 w_t3 u_t3 v_t3 e_t3 a_t3 b_t3
    have I_n_t4 := I_n_t3.flat X_t4
    refine Kp_push C_t4 (by omega) (fun t5 C_t5 X_t5 a_t5 b_t5 d_t5 w_t5 u_t5 v_t5 j_t5 l_t5 => ?_)
    have e_t5 := C_t5.2.2.2.1
    rw [a_t4] at a_t5
    rw [b_t4] at b_t5
    rw [d_t4] at d_t5
    rw [w_t4] at w_t5
    rw [u_t4] at u_t5
    rw [v_t4] at v_t5
    clear d_t4 w_t4 u_t4 v_t4 e_t4 a_t4 b_t4
    have I_n_t5 := I_n_t4.flat X_t5
    refine Kp_look C_t5 hT (by omega) ?_
    refine Ok_ife (Nat.lt_trans (lo_lt (C_t5.tk hT) _) (by decide)) (by decide) (fun q6 => ?_) (fun q6 => ?_)
    · refine Ok_bnc ?_
      try unfold b_X6_ifs
      refine Kp_child C_t5 I_n_t5.1 I_n_t5.2.1 I_n_t5.2.2.1 (by omega) (by omega) (by decide) (by decide) (fun t8 C_t8 X_t8 a_t8 b_t8 d_t8 w_t8 u_t8 v_t8 j_t8 l_t8 => ?_)
      have e_t8 := C_t8.2.2.2.1
      rw [a_t5] at a_t8
      rw [b_t5] at b_t8
      rw [d_t5] at d_t8
      rw [w_t5] at w_t8
      rw [u_t5] at u_t8
      rw [v_t5] at v_t8
      clear d_t5 w_t5 u_t5 v_t5 e_t5 a_t5
      have I_n_t8 := I_n_t5.chd X_t8 j_t8
      have f_n_t8 : Fz t8 n := j_t8.2.2.2.2.1
      have I_m_mdt5_t8 : Nq t8 (m_md t5) := Nq.chn j_t8 (by omega) I_n_t5 (by decide)
      have u_m_mdt5_t8 : Up t8 (m_md t5) := Or.inl j_t8.2.1
      have z_t9 : m_at t8 < m_ct t8 := lo_ne (Nat.ne_of_gt (show 0 < lo t8 (m_at t8) from by omega))
      refine Kp_at C_t8 (fun t9 C_t9 X_t9 a_t9 b_t9 d_t9 w_t9 u_t9 v_t9 j_t9 l_t9 => ?_)
      have e_t9 := C_t9.2.2.2.1
      rw [a_t8] at a_t9
      rw [b_t8] at b_t9
      rw [d_t8] at d_t9
      rw [w_t8] at w_t9
      rw [u_t8] at u_t9
      rw [v_t8] at v_t9
      rw [a_t8, e_t8] at z_t9
      clear z_t4
      clear d_t8 w_t8 u_t8 v_t8 e_t8 a_t8 b_t8
      have I_n_t9 := I_n_t8.flat X_t9
      have f_n_t9 := f_n_t8.ex I_n_t8 (X_t9 0)
      have I_m_mdt5_t9 := I_m_mdt5_t8.flat X_t9
      have u_m_mdt5_t9 := u_m_mdt5_t8.ex I_m_mdt5_t8 (X_t9 0)
      refine Kp_push C_t9 (by omega) (fun t10 C_t10 X_t10 a_t10 b_t10 d_t10 w_t10 u_t10 v_t10 j_t10 l_t10 => ?_)
      have e_t10 := C_t10.2.2.2.1
      rw [a_t9] at a_t10
      rw [b_t9] at b_t10
      rw [d_t9] at d_t10
      rw [w_t9] at w_t10
      rw [u_t9] at u_t10
      rw [v_t9] at v_t10
      clear d_t9 w_t9 u_t9 v_t9 e_t9 a_t9 b_t9
      have I_n_t10 := I_n_t9.flat X_t10
      have f_n_t10 := f_n_t9.ex I_n_t9 (X_t10 0)
      have I_m_mdt5_t10 := I_m_mdt5_t9.flat X_t10
      have u_m_mdt5_t10 := u_m_mdt5_t9.ex I_m_mdt5_t9 (X_t10 0)
      refine Kp_push C_t10 (by omega) (fun t11 C_t11 X_t11 a_t11 b_t11 d_t11 w_t11 u_t11 v_t11 j_t11 l_t11 => ?_)
      have e_t11 := C_t11.2.2.2.1
      rw [a_t10] at a_t11
      rw [b_t10] at b_t11
      rw [d_t10] at d_t11
      rw [w_t10] at w_t11
      rw [u_t10] at u_t11
      rw [v_t10] at v_t11
      clear d_t10 w_t10 u_t10 v_t10 e_t10 a_t10 b_t10
      have I_n_t11 := I_n_t10.flat X_t11
      have f_n_t11 := f_n_t10.ex I_n_t10 (X_t11 0)
      have I_m_mdt5_t11 := I_m_mdt5_t10.flat X_t11
      have u_m_mdt5_t11 := u_m_mdt5_t10.ex I_m_mdt5_t10 (X_t11 0)
      refine Kp_look C_t11 hT (by omega) ?_
      refine Ok_ife (Nat.lt_trans (lo_lt (C_t11.tk hT) _) (by decide)) (by decide) (fun q12 => ?_) (fun q12 => ?_)
      · refine Kp_child C_t11 I_m_mdt5_t11.1 I_m_mdt5_t11.2.1 I_m_mdt5_t11.2.2.1 (by omega) (by omega) (by decide) (by decide) (fun t13 C_t13 X_t13 a_t13 b_t13 d_t13 w_t13 u_t13 v_t13 j_t13 l_t13 => ?_)
        have e_t13 := C_t13.2.2.2.1
        rw [a_t11] at a_t13
        rw [b_t11] at b_t13
        rw [d_t11] at d_t13
        rw [w_t11] at w_t13
        rw [u_t11] at u_t13
        rw [v_t11] at v_t13
        clear d_t11 w_t11 u_t11 v_t11 e_t11 a_t11
        have I_n_t13 := I_n_t11.chd X_t13 j_t13
        have f_n_t13 := f_n_t11.ex I_n_t11 (X_t13 0 (Nat.zero_le _))
        have I_m_mdt5_t13 := I_m_mdt5_t11.chd X_t13 j_t13
        have u_m_mdt5_t13 := u_m_mdt5_t11.ex I_m_mdt5_t11 (X_t13 0 (Nat.zero_le _))
        have f_m_mdt5_t13 : Fz t13 (m_md t5) := j_t13.2.2.2.2.1
        have I_m_mdt11_t13 : Nq t13 (m_md t11) := Nq.chn j_t13 (by omega) I_m_mdt5_t11 (by decide)
        have u_m_mdt11_t13 : Up t13 (m_md t11) := Or.inl j_t13.2.1
        have z_t14 : m_at t13 < m_ct t13 := lo_ne (Nat.ne_of_gt (show 0 < lo t13 (m_at t13) from by omega))
        refine Kp_at C_t13 (fun t14 C_t14 X_t14 a_t14 b_t14 d_t14 w_t14 u_t14 v_t14 j_t14 l_t14 => ?_)
        have e_t14 := C_t14.2.2.2.1
        rw [a_t13] at a_t14
        rw [b_t13] at b_t14
        rw [d_t13] at d_t14
        rw [w_t13] at w_t14
        rw [u_t13] at u_t14
        rw [v_t13] at v_t14
        rw [a_t13, e_t13] at z_t14
        clear z_t9
        clear d_t13 w_t13 u_t13 v_t13 e_t13 a_t13 b_t13
        have I_n_t14 := I_n_t13.flat X_t14
        have f_n_t14 := f_n_t13.ex I_n_t13 (X_t14 0)
        have I_m_mdt5_t14 := I_m_mdt5_t13.flat X_t14
        have f_m_mdt5_t14 := f_m_mdt5_t13.ex I_m_mdt5_t13 (X_t14 0)
        have u_m_mdt5_t14 := u_m_mdt5_t13.ex I_m_mdt5_t13 (X_t14 0)
        have I_m_mdt11_t14 := I_m_mdt11_t13.flat X_t14
        have u_m_mdt11_t14 := u_m_mdt11_t13.ex I_m_mdt11_t13 (X_t14 0)
        refine Ok_bnc ?_
        try unfold b_X6_expression
        refine Kp_push C_t14 (by omega) (fun t16 C_t16 X_t16 a_t16 b_t16 d_t16 w_t16 u_t16 v_t16 j_t16 l_t16 => ?_)
        have e_t16 := C_t16.2.2.2.1
        rw [a_t14] at a_t16
        rw [b_t14] at b_t16
        rw [d_t14] at d_t16
        rw [w_t14] at w_t16
        rw [u_t14] at u_t16
        rw [v_t14] at v_t16
        clear d_t14 w_t14 u_t14 v_t14 e_t14 a_t14 b_t14
        have I_n_t16 := I_n_t14.flat X_t16
        have f_n_t16 := f_n_t14.ex I_n_t14 (X_t16 0)
        have I_m_mdt5_t16 := I_m_mdt5_t14.flat X_t16
        have f_m_mdt5_t16 := f_m_mdt5_t14.ex I_m_mdt5_t14 (X_t16 0)
        have u_m_mdt5_t16 := u_m_mdt5_t14.ex I_m_mdt5_t14 (X_t16 0)
        have I_m_mdt11_t16 := I_m_mdt11_t14.flat X_t16
        have u_m_mdt11_t16 := u_m_mdt11_t14.ex I_m_mdt11_t14 (X_t16 0)
        refine Kp_push C_t16 (by omega) (fun t17 C_t17 X_t17 a_t17 b_t17 d_t17 w_t17 u_t17 v_t17 j_t17 l_t17 => ?_)
        have e_t17 := C_t17.2.2.2.1
        rw [a_t16] at a_t17
        rw [b_t16] at b_t17
        rw [d_t16] at d_t17
        rw [w_t16] at w_t17
        rw [u_t16] at u_t17
        rw [v_t16] at v_t17
        clear d_t16 w_t16 u_t16 v_t16 e_t16 a_t16 b_t16
        have I_n_t17 := I_n_t16.flat X_t17
        have f_n_t17 := f_n_t16.ex I_n_t16 (X_t17 0)
        have I_m_mdt5_t17 := I_m_mdt5_t16.flat X_t17
        have f_m_mdt5_t17 := f_m_mdt5_t16.ex I_m_mdt5_t16 (X_t17 0)
        have u_m_mdt5_t17 := u_m_mdt5_t16.ex I_m_mdt5_t16 (X_t17 0)
        have I_m_mdt11_t17 := I_m_mdt11_t16.flat X_t17
        have u_m_mdt11_t17 := u_m_mdt11_t16.ex I_m_mdt11_t16 (X_t17 0)
        refine Ok_ret (show Ok _ _ _ from ?_)
        refine Ok_ret (show Ok _ _ _ from ?_)
        refine Ok_ret (show Ok _ _ _ from ?_)
        refine Ok_ret (show Ok _ _ _ from ?_)
        refine Hv_mk (Kv_c (x := (3, m_md t5, 1)) rfl (Kv_c (x := (2, m_md t5, 1 ||| (1 * 256))) rfl (Kv_c (x := (38, m_md t5, 0)) rfl (Kv_c (x := (45, m_md t5, 0)) rfl (Kv_c (x := (6, n, 0)) rfl hK))))) (C_t17.1.2.2.2.2.2.2 hTt) C_t17 hT (by omega) (by omega) (by omega) ?_ ?_ ?_ (by omega) ?_ ?_ ?_
        · exact ⟨(Io_n (by decide) (by decide) I_m_mdt5_t17.1 I_m_mdt5_t17.2.1 I_m_mdt5_t17.2.2.1 (fun q => absurd q (by decide)) (fun q => absurd q (by decide)) I_m_mdt5_t17.2.2.2), (Nd_0 (by decide) Mo_nil), ⟨(Io_2 (by have := or_256 (b := 1) (show 1 < 256 from by omega); omega) (by have := or_256 (b := 1) (show 1 < 256 from by omega); omega) (by have := or_256 (b := 1) (show 1 < 256 from by omega); omega) I_m_mdt5_t17.1 I_m_mdt5_t17.2.1 I_m_mdt5_t17.2.2.1 I_m_mdt5_t17.2.2.2), (Nd_A (by decide) (Mo_cons (fun q => show m_md t5 ≤ m_md t5 from by omega) Mo_nil) (Or.inr ⟨(3, m_md t5, 1), List.mem_cons_self, rfl, Or.inl rfl⟩)), ⟨(Io_n (by decide) (by decide) I_m_mdt5_t17.1 I_m_mdt5_t17.2.1 I_m_mdt5_t17.2.2.1 (fun q => absurd q (by decide)) (fun q => absurd q (by decide)) I_m_mdt5_t17.2.2.2), (Nd_0 (by decide) (Mo_cons (fun q => show m_md t5 ≤ m_md t5 from by omega) (Mo_cons (fun q => show m_md t5 ≤ m_md t5 from by omega) Mo_nil))), ⟨(Io_n (by decide) (by decide) I_m_mdt5_t17.1 I_m_mdt5_t17.2.1 I_m_mdt5_t17.2.2.1 (fun q => absurd q (by decide)) (fun q => absurd q (by decide)) I_m_mdt5_t17.2.2.2), (Nd_0 (by decide) (Mo_cons (fun q => show m_md t5 ≤ m_md t5 from by omega) (Mo_cons (fun q => show m_md t5 ≤ m_md t5 from by omega) (Mo_cons (fun q => show m_md t5 ≤ m_md t5 from by omega) Mo_nil)))), ⟨(Io_6 (by decide)), (Nd_x (by decide)), Stk_step (N := n) (pop := (45, n, t)) (new := [(6, n, 0), (45, m_md t5, 0), (38, m_md t5, 0), (2, m_md t5, 1 ||| (1 * 256)), (3, m_md t5, 1)]) F0 C_t17.1.to2 (fun (h : nk 45 = false) => absurd h (by decide)) (fun q _ h => h (45, n, t) rfl) (fun _ => rfl) (fun y hy hk => ⟨rfl, (Mo_cons (fun q => absurd (show nk 6 = true from q) (by decide)) (Mo_cons (fun q => show n ≤ m_md t5 from by omega) (Mo_cons (fun q => show n ≤ m_md t5 from by omega) (Mo_cons (fun q => show n ≤ m_md t5 from by omega) (Mo_cons (fun q => show n ≤ m_md t5 from by omega) Mo_nil))))) y hy hk⟩) (fun (h : 45 = 3 ∨ 45 = 18 ∨ 45 = 41) => absurd h (by decide)) (fun (h : 45 = 18) => absurd h (by decide)) (fun (h : 45 = 41 ∨ 45 = 42 ∨ 45 = 43) => absurd h (by decide)) r [] (fun y hy => absurd hy List.not_mem_nil) hS⟩⟩⟩⟩⟩
        · exact (Aj_up (x := (3, m_md t5, 1)) (Aj_up (x := (2, m_md t5, 1 ||| (1 * 256))) (Aj_up (x := (38, m_md t5, 0)) (Aj_up (x := (45, m_md t5, 0)) (Aj_sub (y := (6, n, 0)) hJ (Nat.le_of_ble_eq_true rfl)) (Or.inl (Nat.le_of_ble_eq_true rfl))) (Or.inr (Nat.le_of_ble_eq_true rfl))) (Or.inr (show 9 - (1 ||| (1 * 256)) / 256 < 12 from by have := or_256 (b := 1) (show 1 < 256 from by omega); omega))) (Or.inr (show 2 < 9 - (1 ||| (1 * 256)) / 256 from by have := or_256 (b := 1) (show 1 < 256 from by omega); omega)))
        · show m_dp t17 = (dlt 3 + (dlt 2 + (dlt 38 + (dlt 45 + (dlt 6 + sD r)))))
          have : dlt 2 = 0 := rfl; have : dlt 3 = 0 := rfl; have : dlt 38 = 0 := rfl; have : dlt 45 = 0 := rfl; have : dlt 6 = 1 := rfl; omega
        · show m_rw t17 = (rho 3 + (rho 2 + (rho 38 + (rho 45 + (rho 6 + sR r)))))
          have : rho 2 = 0 := rfl; have : rho 3 = 0 := rfl; have : rho 38 = 0 := rfl; have : rho 45 = 0 := rfl; have : rho 6 = 0 := rfl; omega
        · show m_md t17 + (mu7 3 + (mu7 2 + (mu7 38 + (mu7 45 + (mu7 6 + sM r))))) ≤ 3 * m_at t17 + 7 * (r.length + 1 + 1 + 1 + 1 + 1) + 10
          have : mu7 2 = 7 := rfl; have : mu7 3 = 5 := rfl; have : mu7 38 = 2 := rfl; have : mu7 45 = 7 := rfl; have : mu7 6 = 7 := rfl; omega
        · show (wt 3 + (wt 2 + (wt 38 + (wt 45 + (wt 6 + sW r))))) + 6 * (4096 - m_at t17) + 4 * (600 - (r.length + 1 + 1 + 1 + 1 + 1)) < (wt 45 + sW r) + 6 * (4096 - m_at t0) + 4 * (600 - (r.length + 1))
          have : wt 2 = 5 := rfl; have : wt 3 = 3 := rfl; have : wt 38 = 0 := rfl; have : wt 45 = 5 := rfl; have : wt 6 = 5 := rfl; omega
      · refine Kp_push C_t11 (by omega) (fun t18 C_t18 X_t18 a_t18 b_t18 d_t18 w_t18 u_t18 v_t18 j_t18 l_t18 => ?_)
        have e_t18 := C_t18.2.2.2.1
        rw [a_t11] at a_t18
        rw [b_t11] at b_t18
        rw [d_t11] at d_t18
        rw [w_t11] at w_t18
        rw [u_t11] at u_t18
        rw [v_t11] at v_t18
        clear d_t11 w_t11 u_t11 v_t11 e_t11 a_t11 b_t11
        have I_n_t18 := I_n_t11.flat X_t18
        have f_n_t18 := f_n_t11.ex I_n_t11 (X_t18 0)
        have I_m_mdt5_t18 := I_m_mdt5_t11.flat X_t18
        have u_m_mdt5_t18 := u_m_mdt5_t11.ex I_m_mdt5_t11 (X_t18 0)
        refine Kp_push C_t18 (by omega) (fun t19 C_t19 X_t19 a_t19 b_t19 d_t19 w_t19 u_t19 v_t19 j_t19 l_t19 => ?_)
        have e_t19 := C_t19.2.2.2.1
        rw [a_t18] at a_t19
        rw [b_t18] at b_t19
        rw [d_t18] at d_t19
        rw [w_t18] at w_t19
        rw [u_t18] at u_t19
        rw [v_t18] at v_t19
        clear d_t18 w_t18 u_t18 v_t18 e_t18 a_t18 b_t18
        have I_n_t19 := I_n_t18.flat X_t19
        have f_n_t19 := f_n_t18.ex I_n_t18 (X_t19 0)
        have I_m_mdt5_t19 := I_m_mdt5_t18.flat X_t19
        have u_m_mdt5_t19 := u_m_mdt5_t18.ex I_m_mdt5_t18 (X_t19 0)
        refine Ok_ret (show Ok _ _ _ from ?_)
        refine Ok_ret (show Ok _ _ _ from ?_)
        refine Ok_ret (show Ok _ _ _ from ?_)
        refine Hv_mk (Kv_c (x := (41, m_md t5, 1)) rfl (Kv_c (x := (44, m_md t5, 0)) rfl (Kv_c (x := (38, m_md t5, 0)) rfl (Kv_c (x := (45, m_md t5, 0)) rfl (Kv_c (x := (6, n, 0)) rfl hK))))) (C_t19.1.2.2.2.2.2.2 hTt) C_t19 hT (by omega) (by omega) (by omega) ?_ ?_ ?_ (by omega) ?_ ?_ ?_
        · exact ⟨(Io_41 (by decide) I_m_mdt5_t19.1 I_m_mdt5_t19.2.1 I_m_mdt5_t19.2.2.1 u_m_mdt5_t19 I_m_mdt5_t19.2.2.2), (Nd_0 (by decide) Mo_nil), ⟨(Io_n (by decide) (by decide) I_m_mdt5_t19.1 I_m_mdt5_t19.2.1 I_m_mdt5_t19.2.2.1 (fun _ => u_m_mdt5_t19) (fun q => absurd q (by decide)) I_m_mdt5_t19.2.2.2), (Nd_44 (by decide) (Mo_cons (fun q => show m_md t5 ≤ m_md t5 from by omega) Mo_nil) ⟨(41, m_md t5, 1), rfl, rfl, Or.inl rfl, (show 1 &&& 16 = 0 from by decide)⟩), ⟨(Io_n (by decide) (by decide) I_m_mdt5_t19.1 I_m_mdt5_t19.2.1 I_m_mdt5_t19.2.2.1 (fun q => absurd q (by decide)) (fun q => absurd q (by decide)) I_m_mdt5_t19.2.2.2), (Nd_0 (by decide) (Mo_cons (fun q => show m_md t5 ≤ m_md t5 from by omega) (Mo_cons (fun q => show m_md t5 ≤ m_md t5 from by omega) Mo_nil))), ⟨(Io_n (by decide) (by decide) I_m_mdt5_t19.1 I_m_mdt5_t19.2.1 I_m_mdt5_t19.2.2.1 (fun q => absurd q (by decide)) (fun q => absurd q (by decide)) I_m_mdt5_t19.2.2.2), (Nd_0 (by decide) (Mo_cons (fun q => show m_md t5 ≤ m_md t5 from by omega) (Mo_cons (fun q => show m_md t5 ≤ m_md t5 from by omega) (Mo_cons (fun q => show m_md t5 ≤ m_md t5 from by omega) Mo_nil)))), ⟨(Io_6 (by decide)), (Nd_x (by decide)), Stk_step (N := n) (pop := (45, n, t)) (new := [(6, n, 0), (45, m_md t5, 0), (38, m_md t5, 0), (44, m_md t5, 0), (41, m_md t5, 1)]) F0 C_t19.1.to2 (fun (h : nk 45 = false) => absurd h (by decide)) (fun q _ h => h (45, n, t) rfl) (fun _ => rfl) (fun y hy hk => ⟨rfl, (Mo_cons (fun q => absurd (show nk 6 = true from q) (by decide)) (Mo_cons (fun q => show n ≤ m_md t5 from by omega) (Mo_cons (fun q => show n ≤ m_md t5 from by omega) (Mo_cons (fun q => show n ≤ m_md t5 from by omega) (Mo_cons (fun q => show n ≤ m_md t5 from by omega) Mo_nil))))) y hy hk⟩) (fun (h : 45 = 3 ∨ 45 = 18 ∨ 45 = 41) => absurd h (by decide)) (fun (h : 45 = 18) => absurd h (by decide)) (fun (h : 45 = 41 ∨ 45 = 42 ∨ 45 = 43) => absurd h (by decide)) r [] (fun y hy => absurd hy List.not_mem_nil) hS⟩⟩⟩⟩⟩
        · exact (Aj_up (x := (41, m_md t5, 1)) (Aj_up (x := (44, m_md t5, 0)) (Aj_up (x := (38, m_md t5, 0)) (Aj_up (x := (45, m_md t5, 0)) (Aj_sub (y := (6, n, 0)) hJ (Nat.le_of_ble_eq_true rfl)) (Or.inl (Nat.le_of_ble_eq_true rfl))) (Or.inr (Nat.le_of_ble_eq_true rfl))) (Or.inr (Nat.le_of_ble_eq_true rfl))) (Or.inr (Nat.le_of_ble_eq_true rfl)))
        · show m_dp t19 = (dlt 41 + (dlt 44 + (dlt 38 + (dlt 45 + (dlt 6 + sD r)))))
          have : dlt 38 = 0 := rfl; have : dlt 41 = 0 := rfl; have : dlt 44 = 0 := rfl; have : dlt 45 = 0 := rfl; have : dlt 6 = 1 := rfl; omega
        · show m_rw t19 = (rho 41 + (rho 44 + (rho 38 + (rho 45 + (rho 6 + sR r)))))
          have : rho 38 = 0 := rfl; have : rho 41 = 0 := rfl; have : rho 44 = 0 := rfl; have : rho 45 = 0 := rfl; have : rho 6 = 0 := rfl; omega
        · show m_md t19 + (mu7 41 + (mu7 44 + (mu7 38 + (mu7 45 + (mu7 6 + sM r))))) ≤ 3 * m_at t19 + 7 * (r.length + 1 + 1 + 1 + 1 + 1) + 10
          have : mu7 38 = 2 := rfl; have : mu7 41 = 6 := rfl; have : mu7 44 = 7 := rfl; have : mu7 45 = 7 := rfl; have : mu7 6 = 7 := rfl; omega
        · show (wt 41 + (wt 44 + (wt 38 + (wt 45 + (wt 6 + sW r))))) + 6 * (4096 - m_at t19) + 4 * (600 - (r.length + 1 + 1 + 1 + 1 + 1)) < (wt 45 + sW r) + 6 * (4096 - m_at t0) + 4 * (600 - (r.length + 1))
          have : wt 38 = 0 := rfl; have : wt 41 = 6 := rfl; have : wt 44 = 5 := rfl; have : wt 45 = 5 := rfl; have : wt 6 = 5 := rfl; omega
    · refine Ok_bnc ?_
      try unfold b_X6_block
      refine Kp_look C_t5 hT (by omega) ?_
      refine Ok_ife (Nat.lt_trans (lo_lt (C_t5.tk hT) _) (by decide)) (by decide) (fun q21 => ?_) (fun q21 => ?_)
      · refine Kp_child C_t5 I_n_t5.1 I_n_t5.2.1 I_n_t5.2.2.1 (by omega) (by omega) (by decide) (by decide) (fun t22 C_t22 X_t22 a_t22 b_t22 d_t22 w_t22 u_t22 v_t22 j_t22 l_t22 => ?_)
        have e_t22 := C_t22.2.2.2.1
        rw [a_t5] at a_t22
        rw [b_t5] at b_t22
        rw [d_t5] at d_t22
        rw [w_t5] at w_t22
        rw [u_t5] at u_t22
        rw [v_t5] at v_t22
        clear d_t5 w_t5 u_t5 v_t5 e_t5 a_t5
        have I_n_t22 := I_n_t5.chd X_t22 j_t22
        have f_n_t22 : Fz t22 n := j_t22.2.2.2.2.1
        have I_m_mdt5_t22 : Nq t22 (m_md t5) := Nq.chn j_t22 (by omega) I_n_t5 (by decide)
        have u_m_mdt5_t22 : Up t22 (m_md t5) := Or.inl j_t22.2.1
        refine Kp_more C_t22 (by omega) (by omega) (fun t23 C_t23 X_t23 a_t23 b_t23 d_t23 w_t23 u_t23 v_t23 j_t23 l_t23 => ?_)
        have e_t23 := C_t23.2.2.2.1
        rcases w_t23 with ⟨w_t23, y_t23⟩ | ⟨w_t23, wb_t23⟩
        · rw [a_t22] at a_t23
          rw [b_t22] at b_t23
          rw [d_t22] at d_t23
          rw [w_t22] at w_t23
          rw [u_t22] at u_t23
          rw [v_t22] at v_t23
          rw [d_t23] at y_t23
          clear d_t22 w_t22 u_t22 v_t22 e_t22 a_t22 b_t22
          have I_n_t23 := I_n_t22.flat X_t23
          have f_n_t23 := f_n_t22.ex I_n_t22 (X_t23 0)
          have I_m_mdt5_t23 := I_m_mdt5_t22.flat X_t23
          have u_m_mdt5_t23 := u_m_mdt5_t22.ex I_m_mdt5_t22 (X_t23 0)
          have z_t24 : m_at t23 < m_ct t23 := lo_ne (Nat.ne_of_gt (show 0 < lo t23 (m_at t23) from by omega))
          refine Kp_at C_t23 (fun t24 C_t24 X_t24 a_t24 b_t24 d_t24 w_t24 u_t24 v_t24 j_t24 l_t24 => ?_)
          have e_t24 := C_t24.2.2.2.1
          rw [a_t23] at a_t24
          rw [b_t23] at b_t24
          rw [d_t23] at d_t24
          rw [w_t23] at w_t24
          rw [u_t23] at u_t24
          rw [v_t23] at v_t24
          rw [a_t23, e_t23] at z_t24
          clear z_t4
          clear d_t23 w_t23 u_t23 v_t23 e_t23 a_t23 b_t23
          have I_n_t24 := I_n_t23.flat X_t24
          have f_n_t24 := f_n_t23.ex I_n_t23 (X_t24 0)
          have I_m_mdt5_t24 := I_m_mdt5_t23.flat X_t24
          have u_m_mdt5_t24 := u_m_mdt5_t23.ex I_m_mdt5_t23 (X_t24 0)
          refine Kp_push C_t24 (by omega) (fun t25 C_t25 X_t25 a_t25 b_t25 d_t25 w_t25 u_t25 v_t25 j_t25 l_t25 => ?_)
          have e_t25 := C_t25.2.2.2.1
          rw [a_t24] at a_t25
          rw [b_t24] at b_t25
          rw [d_t24] at d_t25
          rw [w_t24] at w_t25
          rw [u_t24] at u_t25
          rw [v_t24] at v_t25
          clear d_t24 w_t24 u_t24 v_t24 e_t24 a_t24 b_t24
          have I_n_t25 := I_n_t24.flat X_t25
          have f_n_t25 := f_n_t24.ex I_n_t24 (X_t25 0)
          have I_m_mdt5_t25 := I_m_mdt5_t24.flat X_t25
          have u_m_mdt5_t25 := u_m_mdt5_t24.ex I_m_mdt5_t24 (X_t25 0)
          refine Kp_push C_t25 (by omega) (fun t26 C_t26 X_t26 a_t26 b_t26 d_t26 w_t26 u_t26 v_t26 j_t26 l_t26 => ?_)
          have e_t26 := C_t26.2.2.2.1
          rw [a_t25] at a_t26
          rw [b_t25] at b_t26
          rw [d_t25] at d_t26
          rw [w_t25] at w_t26
          rw [u_t25] at u_t26
          rw [v_t25] at v_t26
          clear d_t25 w_t25 u_t25 v_t25 e_t25 a_t25 b_t25
          have I_n_t26 := I_n_t25.flat X_t26
          have f_n_t26 := f_n_t25.ex I_n_t25 (X_t26 0)
          have I_m_mdt5_t26 := I_m_mdt5_t25.flat X_t26
          have u_m_mdt5_t26 := u_m_mdt5_t25.ex I_m_mdt5_t25 (X_t26 0)
          refine Ok_ret (show Ok _ _ _ from ?_)
          refine Ok_ret (show Ok _ _ _ from ?_)
          refine Ok_ret (show Ok _ _ _ from ?_)
          refine Hv_mk (Kv_c (x := (39, m_md t5, 0)) rfl (Kv_c (x := (8, 83, 0)) rfl (Kv_c (x := (6, n, 0)) rfl hK))) (C_t26.1.2.2.2.2.2.2 hTt) C_t26 hT (by omega) (by omega) (by omega) ?_ ?_ ?_ (by omega) ?_ ?_ ?_
          · exact ⟨(Io_n (by decide) (by decide) I_m_mdt5_t26.1 I_m_mdt5_t26.2.1 I_m_mdt5_t26.2.2.1 (fun _ => u_m_mdt5_t26) (fun q => absurd q (by decide)) I_m_mdt5_t26.2.2.2), (Nd_0 (by decide) Mo_nil), ⟨(Io_78 (by decide) (by decide) (by decide)), (Nd_x (by decide)), ⟨(Io_6 (by decide)), (Nd_x (by decide)), Stk_step (N := n) (pop := (45, n, t)) (new := [(6, n, 0), (8, 83, 0), (39, m_md t5, 0)]) F0 C_t26.1.to2 (fun (h : nk 45 = false) => absurd h (by decide)) (fun q _ h => h (45, n, t) rfl) (fun _ => rfl) (fun y hy hk => ⟨rfl, (Mo_cons (fun q => absurd (show nk 6 = true from q) (by decide)) (Mo_cons (fun q => absurd (show nk 8 = true from q) (by decide)) (Mo_cons (fun q => show n ≤ m_md t5 from by omega) Mo_nil))) y hy hk⟩) (fun (h : 45 = 3 ∨ 45 = 18 ∨ 45 = 41) => absurd h (by decide)) (fun (h : 45 = 18) => absurd h (by decide)) (fun (h : 45 = 41 ∨ 45 = 42 ∨ 45 = 43) => absurd h (by decide)) r [] (fun y hy => absurd hy List.not_mem_nil) hS⟩⟩⟩
          · exact (Aj_up (x := (39, m_md t5, 0)) (Aj_up (x := (8, 83, 0)) (Aj_sub (y := (6, n, 0)) hJ (Nat.le_of_ble_eq_true rfl)) (Or.inl (Nat.le_of_ble_eq_true rfl))) (Or.inl (Nat.le_of_ble_eq_true rfl)))
          · show m_dp t26 = (dlt 39 + (dlt 8 + (dlt 6 + sD r)))
            have : dlt 39 = 0 := rfl; have : dlt 45 = 0 := rfl; have : dlt 6 = 1 := rfl; have : dlt 8 = 1 := rfl; omega
          · show m_rw t26 = (rho 39 + (rho 8 + (rho 6 + sR r)))
            have : rho 39 = 0 := rfl; have : rho 45 = 0 := rfl; have : rho 6 = 0 := rfl; have : rho 8 = 0 := rfl; omega
          · show m_md t26 + (mu7 39 + (mu7 8 + (mu7 6 + sM r))) ≤ 3 * m_at t26 + 7 * (r.length + 1 + 1 + 1) + 10
            have : mu7 39 = 7 := rfl; have : mu7 45 = 7 := rfl; have : mu7 6 = 7 := rfl; have : mu7 8 = 4 := rfl; omega
          · show (wt 39 + (wt 8 + (wt 6 + sW r))) + 6 * (4096 - m_at t26) + 4 * (600 - (r.length + 1 + 1 + 1)) < (wt 45 + sW r) + 6 * (4096 - m_at t0) + 4 * (600 - (r.length + 1))
            have : wt 39 = 9 := rfl; have : wt 45 = 5 := rfl; have : wt 6 = 5 := rfl; have : wt 8 = 0 := rfl; omega
        · have w_t23 := Nat.pos_of_ne_zero w_t23
          have I_n_t23 := I_n_t22.flat X_t23
          have f_n_t23 := f_n_t22.ex I_n_t22 (X_t23 0)
          have I_m_mdt5_t23 := I_m_mdt5_t22.flat X_t23
          have u_m_mdt5_t23 := u_m_mdt5_t22.ex I_m_mdt5_t22 (X_t23 0)
          refine Kp_at C_t23 (fun t27 C_t27 X_t27 a_t27 b_t27 d_t27 w_t27 u_t27 v_t27 j_t27 l_t27 => ?_)
          have e_t27 := C_t27.2.2.2.1
          have I_n_t27 := I_n_t23.flat X_t27
          have f_n_t27 := f_n_t23.ex I_n_t23 (X_t27 0)
          have I_m_mdt5_t27 := I_m_mdt5_t23.flat X_t27
          have u_m_mdt5_t27 := u_m_mdt5_t23.ex I_m_mdt5_t23 (X_t27 0)
          refine Kp_push C_t27 (by omega) (fun t28 C_t28 X_t28 a_t28 b_t28 d_t28 w_t28 u_t28 v_t28 j_t28 l_t28 => ?_)
          have e_t28 := C_t28.2.2.2.1
          have I_n_t28 := I_n_t27.flat X_t28
          have f_n_t28 := f_n_t27.ex I_n_t27 (X_t28 0)
          have I_m_mdt5_t28 := I_m_mdt5_t27.flat X_t28
          have u_m_mdt5_t28 := u_m_mdt5_t27.ex I_m_mdt5_t27 (X_t28 0)
          refine Kp_push C_t28 (by omega) (fun t29 C_t29 X_t29 a_t29 b_t29 d_t29 w_t29 u_t29 v_t29 j_t29 l_t29 => ?_)
          have e_t29 := C_t29.2.2.2.1
          have I_n_t29 := I_n_t28.flat X_t29
          have f_n_t29 := f_n_t28.ex I_n_t28 (X_t29 0)
          have I_m_mdt5_t29 := I_m_mdt5_t28.flat X_t29
          have u_m_mdt5_t29 := u_m_mdt5_t28.ex I_m_mdt5_t28 (X_t29 0)
          refine Ok_ret (show Ok _ _ _ from ?_)
          refine Ok_ret (show Ok _ _ _ from ?_)
          refine Ok_ret (show Ok _ _ _ from ?_)
          exact Or.inl ⟨Nat.ne_of_gt (show 0 < m_wr t29 from by omega), by omega, by omega, C_t29.2.2.2.2.2, by omega⟩
      · refine Kp_error C_t5 (by omega) (fun t30 C_t30 X_t30 a_t30 b_t30 d_t30 w_t30 u_t30 v_t30 j_t30 l_t30 => ?_)
        have wb_t30 := w_t30.2
        have w_t30 := Nat.pos_of_ne_zero w_t30.1
        have e_t30 := C_t30.2.2.2.1
        have I_n_t30 := I_n_t5.flat X_t30
        refine Ok_ret (show Ok _ _ _ from ?_)
        refine Ok_ret (show Ok _ _ _ from ?_)
        refine Ok_ret (show Ok _ _ _ from ?_)
        exact Or.inl ⟨Nat.ne_of_gt (show 0 < m_wr t30 from by omega), by omega, by omega, C_t30.2.2.2.2.2, by omega⟩
  · have w_t3 := Nat.pos_of_ne_zero w_t3
    have I_n_t3 := I_n_t0.flat X_t3
    refine Kp_at C_t3 (fun t31 C_t31 X_t31 a_t31 b_t31 d_t31 w_t31 u_t31 v_t31 j_t31 l_t31 => ?_)
    have e_t31 := C_t31.2.2.2.1
    have I_n_t31 := I_n_t3.flat X_t31
    refine Kp_push C_t31 (by omega) (fun t32 C_t32 X_t32 a_t32 b_t32 d_t32 w_t32 u_t32 v_t32 j_t32 l_t32 => ?_)
    have e_t32 := C_t32.2.2.2.1
    have I_n_t32 := I_n_t31.flat X_t32
    refine Kp_look C_t32 hT (by omega) ?_
    refine Ok_ife (Nat.lt_trans (lo_lt (C_t32.tk hT) _) (by decide)) (by decide) (fun q33 => ?_) (fun q33 => ?_)
    · refine Ok_bnc ?_
      try unfold b_X6_ifs
      refine Kp_child C_t32 I_n_t32.1 I_n_t32.2.1 I_n_t32.2.2.1 (by omega) (by omega) (by decide) (by decide) (fun t35 C_t35 X_t35 a_t35 b_t35 d_t35 w_t35 u_t35 v_t35 j_t35 l_t35 => ?_)
      have e_t35 := C_t35.2.2.2.1
      have I_n_t35 := I_n_t32.chd X_t35 j_t35
      have f_n_t35 : Fz t35 n := j_t35.2.2.2.2.1
      have I_m_mdt32_t35 : Nq t35 (m_md t32) := Nq.chn j_t35 (by omega) I_n_t32 (by decide)
      have u_m_mdt32_t35 : Up t35 (m_md t32) := Or.inl j_t35.2.1
      refine Kp_at C_t35 (fun t36 C_t36 X_t36 a_t36 b_t36 d_t36 w_t36 u_t36 v_t36 j_t36 l_t36 => ?_)
      have e_t36 := C_t36.2.2.2.1
      have I_n_t36 := I_n_t35.flat X_t36
      have f_n_t36 := f_n_t35.ex I_n_t35 (X_t36 0)
      have I_m_mdt32_t36 := I_m_mdt32_t35.flat X_t36
      have u_m_mdt32_t36 := u_m_mdt32_t35.ex I_m_mdt32_t35 (X_t36 0)
      refine Kp_push C_t36 (by omega) (fun t37 C_t37 X_t37 a_t37 b_t37 d_t37 w_t37 u_t37 v_t37 j_t37 l_t37 => ?_)
      have e_t37 := C_t37.2.2.2.1
      have I_n_t37 := I_n_t36.flat X_t37
      have f_n_t37 := f_n_t36.ex I_n_t36 (X_t37 0)
      have I_m_mdt32_t37 := I_m_mdt32_t36.flat X_t37
      have u_m_mdt32_t37 := u_m_mdt32_t36.ex I_m_mdt32_t36 (X_t37 0)
      refine Kp_push C_t37 (by omega) (fun t38 C_t38 X_t38 a_t38 b_t38 d_t38 w_t38 u_t38 v_t38 j_t38 l_t38 => ?_)
      have e_t38 := C_t38.2.2.2.1
      have I_n_t38 := I_n_t37.flat X_t38
      have f_n_t38 := f_n_t37.ex I_n_t37 (X_t38 0)
      have I_m_mdt32_t38 := I_m_mdt32_t37.flat X_t38
      have u_m_mdt32_t38 := u_m_mdt32_t37.ex I_m_mdt32_t37 (X_t38 0)
      refine Kp_look C_t38 hT (by omega) ?_
      refine Ok_ife (Nat.lt_trans (lo_lt (C_t38.tk hT) _) (by decide)) (by decide) (fun q39 => ?_) (fun q39 => ?_)
      · refine Kp_child C_t38 I_m_mdt32_t38.1 I_m_mdt32_t38.2.1 I_m_mdt32_t38.2.2.1 (by omega) (by omega) (by decide) (by decide) (fun t40 C_t40 X_t40 a_t40 b_t40 d_t40 w_t40 u_t40 v_t40 j_t40 l_t40 => ?_)
        have e_t40 := C_t40.2.2.2.1
        have I_n_t40 := I_n_t38.chd X_t40 j_t40
        have f_n_t40 := f_n_t38.ex I_n_t38 (X_t40 0 (Nat.zero_le _))
        have I_m_mdt32_t40 := I_m_mdt32_t38.chd X_t40 j_t40
        have u_m_mdt32_t40 := u_m_mdt32_t38.ex I_m_mdt32_t38 (X_t40 0 (Nat.zero_le _))
        have f_m_mdt32_t40 : Fz t40 (m_md t32) := j_t40.2.2.2.2.1
        have I_m_mdt38_t40 : Nq t40 (m_md t38) := Nq.chn j_t40 (by omega) I_m_mdt32_t38 (by decide)
        have u_m_mdt38_t40 : Up t40 (m_md t38) := Or.inl j_t40.2.1
        refine Kp_at C_t40 (fun t41 C_t41 X_t41 a_t41 b_t41 d_t41 w_t41 u_t41 v_t41 j_t41 l_t41 => ?_)
        have e_t41 := C_t41.2.2.2.1
        have I_n_t41 := I_n_t40.flat X_t41
        have f_n_t41 := f_n_t40.ex I_n_t40 (X_t41 0)
        have I_m_mdt32_t41 := I_m_mdt32_t40.flat X_t41
        have f_m_mdt32_t41 := f_m_mdt32_t40.ex I_m_mdt32_t40 (X_t41 0)
        have u_m_mdt32_t41 := u_m_mdt32_t40.ex I_m_mdt32_t40 (X_t41 0)
        have I_m_mdt38_t41 := I_m_mdt38_t40.flat X_t41
        have u_m_mdt38_t41 := u_m_mdt38_t40.ex I_m_mdt38_t40 (X_t41 0)
        refine Ok_bnc ?_
        try unfold b_X6_expression
        refine Kp_push C_t41 (by omega) (fun t43 C_t43 X_t43 a_t43 b_t43 d_t43 w_t43 u_t43 v_t43 j_t43 l_t43 => ?_)
        have e_t43 := C_t43.2.2.2.1
        have I_n_t43 := I_n_t41.flat X_t43
        have f_n_t43 := f_n_t41.ex I_n_t41 (X_t43 0)
        have I_m_mdt32_t43 := I_m_mdt32_t41.flat X_t43
        have f_m_mdt32_t43 := f_m_mdt32_t41.ex I_m_mdt32_t41 (X_t43 0)
        have u_m_mdt32_t43 := u_m_mdt32_t41.ex I_m_mdt32_t41 (X_t43 0)
        have I_m_mdt38_t43 := I_m_mdt38_t41.flat X_t43
        have u_m_mdt38_t43 := u_m_mdt38_t41.ex I_m_mdt38_t41 (X_t43 0)
        refine Kp_push C_t43 (by omega) (fun t44 C_t44 X_t44 a_t44 b_t44 d_t44 w_t44 u_t44 v_t44 j_t44 l_t44 => ?_)
        have e_t44 := C_t44.2.2.2.1
        have I_n_t44 := I_n_t43.flat X_t44
        have f_n_t44 := f_n_t43.ex I_n_t43 (X_t44 0)
        have I_m_mdt32_t44 := I_m_mdt32_t43.flat X_t44
        have f_m_mdt32_t44 := f_m_mdt32_t43.ex I_m_mdt32_t43 (X_t44 0)
        have u_m_mdt32_t44 := u_m_mdt32_t43.ex I_m_mdt32_t43 (X_t44 0)
        have I_m_mdt38_t44 := I_m_mdt38_t43.flat X_t44
        have u_m_mdt38_t44 := u_m_mdt38_t43.ex I_m_mdt38_t43 (X_t44 0)
        refine Ok_ret (show Ok _ _ _ from ?_)
        refine Ok_ret (show Ok _ _ _ from ?_)
        refine Ok_ret (show Ok _ _ _ from ?_)
        refine Ok_ret (show Ok _ _ _ from ?_)
        exact Or.inl ⟨Nat.ne_of_gt (show 0 < m_wr t44 from by omega), by omega, by omega, C_t44.2.2.2.2.2, by omega⟩
      · refine Kp_push C_t38 (by omega) (fun t45 C_t45 X_t45 a_t45 b_t45 d_t45 w_t45 u_t45 v_t45 j_t45 l_t45 => ?_)
        have e_t45 := C_t45.2.2.2.1
        have I_n_t45 := I_n_t38.flat X_t45
        have f_n_t45 := f_n_t38.ex I_n_t38 (X_t45 0)
        have I_m_mdt32_t45 := I_m_mdt32_t38.flat X_t45
        have u_m_mdt32_t45 := u_m_mdt32_t38.ex I_m_mdt32_t38 (X_t45 0)
        refine Kp_push C_t45 (by omega) (fun t46 C_t46 X_t46 a_t46 b_t46 d_t46 w_t46 u_t46 v_t46 j_t46 l_t46 => ?_)
        have e_t46 := C_t46.2.2.2.1
        have I_n_t46 := I_n_t45.flat X_t46
        have f_n_t46 := f_n_t45.ex I_n_t45 (X_t46 0)
        have I_m_mdt32_t46 := I_m_mdt32_t45.flat X_t46
        have u_m_mdt32_t46 := u_m_mdt32_t45.ex I_m_mdt32_t45 (X_t46 0)
        refine Ok_ret (show Ok _ _ _ from ?_)
        refine Ok_ret (show Ok _ _ _ from ?_)
        refine Ok_ret (show Ok _ _ _ from ?_)
        exact Or.inl ⟨Nat.ne_of_gt (show 0 < m_wr t46 from by omega), by omega, by omega, C_t46.2.2.2.2.2, by omega⟩
    · refine Ok_bnc ?_
      try unfold b_X6_block
      refine Kp_look C_t32 hT (by omega) ?_
      refine Ok_ife (Nat.lt_trans (lo_lt (C_t32.tk hT) _) (by decide)) (by decide) (fun q48 => ?_) (fun q48 => ?_)
      · refine Kp_child C_t32 I_n_t32.1 I_n_t32.2.1 I_n_t32.2.2.1 (by omega) (by omega) (by decide) (by decide) (fun t49 C_t49 X_t49 a_t49 b_t49 d_t49 w_t49 u_t49 v_t49 j_t49 l_t49 => ?_)
        have e_t49 := C_t49.2.2.2.1
        have I_n_t49 := I_n_t32.chd X_t49 j_t49
        have f_n_t49 : Fz t49 n := j_t49.2.2.2.2.1
        have I_m_mdt32_t49 : Nq t49 (m_md t32) := Nq.chn j_t49 (by omega) I_n_t32 (by decide)
        have u_m_mdt32_t49 : Up t49 (m_md t32) := Or.inl j_t49.2.1
        refine Kp_more C_t49 (by omega) (by omega) (fun t50 C_t50 X_t50 a_t50 b_t50 d_t50 w_t50 u_t50 v_t50 j_t50 l_t50 => ?_)
        have e_t50 := C_t50.2.2.2.1
        have w_t50 : 0 < m_wr t50 ∧ m_wr t50 ≤ m_wr t49 + m_at t49 + 1 := by omega
        have I_n_t50 := I_n_t49.flat X_t50
        have f_n_t50 := f_n_t49.ex I_n_t49 (X_t50 0)
        have I_m_mdt32_t50 := I_m_mdt32_t49.flat X_t50
        have u_m_mdt32_t50 := u_m_mdt32_t49.ex I_m_mdt32_t49 (X_t50 0)
        refine Kp_at C_t50 (fun t51 C_t51 X_t51 a_t51 b_t51 d_t51 w_t51 u_t51 v_t51 j_t51 l_t51 => ?_)
        have e_t51 := C_t51.2.2.2.1
        have I_n_t51 := I_n_t50.flat X_t51
        have f_n_t51 := f_n_t50.ex I_n_t50 (X_t51 0)
        have I_m_mdt32_t51 := I_m_mdt32_t50.flat X_t51
        have u_m_mdt32_t51 := u_m_mdt32_t50.ex I_m_mdt32_t50 (X_t51 0)
        refine Kp_push C_t51 (by omega) (fun t52 C_t52 X_t52 a_t52 b_t52 d_t52 w_t52 u_t52 v_t52 j_t52 l_t52 => ?_)
        have e_t52 := C_t52.2.2.2.1
        have I_n_t52 := I_n_t51.flat X_t52
        have f_n_t52 := f_n_t51.ex I_n_t51 (X_t52 0)
        have I_m_mdt32_t52 := I_m_mdt32_t51.flat X_t52
        have u_m_mdt32_t52 := u_m_mdt32_t51.ex I_m_mdt32_t51 (X_t52 0)
        refine Kp_push C_t52 (by omega) (fun t53 C_t53 X_t53 a_t53 b_t53 d_t53 w_t53 u_t53 v_t53 j_t53 l_t53 => ?_)
        have e_t53 := C_t53.2.2.2.1
        have I_n_t53 := I_n_t52.flat X_t53
        have f_n_t53 := f_n_t52.ex I_n_t52 (X_t53 0)
        have I_m_mdt32_t53 := I_m_mdt32_t52.flat X_t53
        have u_m_mdt32_t53 := u_m_mdt32_t52.ex I_m_mdt32_t52 (X_t53 0)
        refine Ok_ret (show Ok _ _ _ from ?_)
        refine Ok_ret (show Ok _ _ _ from ?_)
        refine Ok_ret (show Ok _ _ _ from ?_)
        exact Or.inl ⟨Nat.ne_of_gt (show 0 < m_wr t53 from by omega), by omega, by omega, C_t53.2.2.2.2.2, by omega⟩
      · refine Kp_error C_t32 (by omega) (fun t54 C_t54 X_t54 a_t54 b_t54 d_t54 w_t54 u_t54 v_t54 j_t54 l_t54 => ?_)
        have wb_t54 := w_t54.2
        have w_t54 := Nat.pos_of_ne_zero w_t54.1
        have e_t54 := C_t54.2.2.2.1
        have I_n_t54 := I_n_t32.flat X_t54
        refine Ok_ret (show Ok _ _ _ from ?_)
        refine Ok_ret (show Ok _ _ _ from ?_)
        refine Ok_ret (show Ok _ _ _ from ?_)
        exact Or.inl ⟨Nat.ne_of_gt (show 0 < m_wr t54 from by omega), by omega, by omega, C_t54.2.2.2.2.2, by omega⟩

