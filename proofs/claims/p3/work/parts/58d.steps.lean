/-! The steps of the reference, one by one. -/
theorem S_6 {t0 : Mm} {n t : Nat} {r : List It} (H : Hp t0 (6, n, t) r) {E : Mm → Prop} : Ok (Qh (mz t0 ((6, n, t) :: r))) E (b_X6_step 6 n t t0) := by
  obtain ⟨hK, hT, hc, hw0, ha, hC, hS, hJ, hdp, hdl, hrw, hmd, htd, hln, hm16, hI, hD, hTt⟩ := Hp_out H
  have C_t0 := hC (m_md t0)
  have F0 := C_t0.2.1
  have ht : t < 4096 := hI.1.1 (show 6 ≠ 42 by decide) (show 6 ≠ 48 by decide)
  have hdp : m_dp t0 = dlt 6 + sD r := hdp
  have hrw : m_rw t0 = rho 6 + sR r := hrw
  have hmd : m_md t0 + mu7 6 + sM r ≤ 3 * m_at t0 + 7 * r.length + 17 := hmd
  have hand : t &&& 1 ≤ 1 := Nat.and_le_right
  have h01 : (0 &&& 1 : Nat) = 0 := rfl
  have h02 : (1 : Nat) * 256 = 256 := rfl
  have hq1 : dlt 6 = 1 := rfl
  have hq2 : rho 6 = 0 := rfl
  have hq3 : mu7 6 = 7 := rfl
  unfold b_X6_step
  refine Ok_ifl (by decide) (by decide) (fun _ => ?_) (fun q => absurd (by decide) q)
  refine Ok_ifl (by decide) (by decide) (fun _ => ?_) (fun q => absurd (by decide) q)
  refine Ok_bnc ?_
  try unfold b_X6_value_
  refine Ok_ck (by decide) ?_
  refine Ok_ife (by decide) (by decide) (fun q => absurd q (by decide)) (fun _ => ?_)
  refine Ok_ife (by decide) (by decide) (fun _ => ?_) (fun q => absurd (by decide) q)
  refine Ok_ck (show (m_dp t0) ≠ 0 from by omega) ?_
  refine Kp_dp C_t0 (fun t2 C_t2 X_t2 a_t2 b_t2 d_t2 w_t2 u_t2 v_t2 j_t2 l_t2 => ?_)
  have e_t2 := C_t2.2.2.2.1
  refine Ok_ret (show Ok _ _ _ from ?_)
  refine Hv_mk hK (C_t2.1.2.2.2.2.2.2 hTt) C_t2 hT (by omega) (by omega) (by omega) ?_ ?_ ?_ (by omega) ?_ ?_ ?_
  · exact Stk_step (N := m_md t0) (pop := (6, n, t)) (new := []) F0 C_t2.1.to2 (fun _ => Nat.le_refl _) (fun q hq _ => hq) (fun (h : nk 6 = true) => absurd h (by decide)) (fun y hy => absurd hy List.not_mem_nil) (fun (h : 6 = 3 ∨ 6 = 18 ∨ 6 = 41) => absurd h (by decide)) (fun (h : 6 = 18) => absurd h (by decide)) (fun (h : 6 = 41 ∨ 6 = 42 ∨ 6 = 43) => absurd h (by decide)) r [] (fun y hy => absurd hy List.not_mem_nil) hS
  · exact Aj_tl hJ
  · show m_dp t2 = sD r
    have : dlt 6 = 1 := rfl; omega
  · show m_rw t2 = sR r
    have : rho 6 = 0 := rfl; omega
  · show m_md t2 + sM r ≤ 3 * m_at t2 + 7 * (r.length) + 10
    have : mu7 6 = 7 := rfl; omega
  · show sW r + 6 * (4096 - m_at t2) + 4 * (600 - (r.length)) < (wt 6 + sW r) + 6 * (4096 - m_at t0) + 4 * (600 - (r.length + 1))
    have : wt 6 = 5 := rfl; omega

theorem S_7 {t0 : Mm} {n t : Nat} {r : List It} (H : Hp t0 (7, n, t) r) {E : Mm → Prop} : Ok (Qh (mz t0 ((7, n, t) :: r))) E (b_X6_step 7 n t t0) := by
  obtain ⟨hK, hT, hc, hw0, ha, hC, hS, hJ, hdp, hdl, hrw, hmd, htd, hln, hm16, hI, hD, hTt⟩ := Hp_out H
  have C_t0 := hC (m_md t0)
  have F0 := C_t0.2.1
  have ht : t < 4096 := hI.1.1 (show 7 ≠ 42 by decide) (show 7 ≠ 48 by decide)
  have hn : 0 < n ∧ n < 128 := hI.1.2.2.2.2.2.1 (show 7 = 7 ∨ 7 = 8 from by decide)
  have hdp : m_dp t0 = dlt 7 + sD r := hdp
  have hrw : m_rw t0 = rho 7 + sR r := hrw
  have hmd : m_md t0 + mu7 7 + sM r ≤ 3 * m_at t0 + 7 * r.length + 17 := hmd
  have hand : t &&& 1 ≤ 1 := Nat.and_le_right
  have h01 : (0 &&& 1 : Nat) = 0 := rfl
  have h02 : (1 : Nat) * 256 = 256 := rfl
  have hq1 : dlt 7 = 0 := rfl
  have hq2 : rho 7 = 0 := rfl
  have hq3 : mu7 7 = 4 := rfl
  unfold b_X6_step
  refine Ok_ifl (by decide) (by decide) (fun _ => ?_) (fun q => absurd (by decide) q)
  refine Ok_ifl (by decide) (by decide) (fun _ => ?_) (fun q => absurd (by decide) q)
  refine Ok_bnc ?_
  try unfold b_X6_value_
  refine Ok_ck (by decide) ?_
  refine Ok_ife (by decide) (by decide) (fun q => absurd q (by decide)) (fun _ => ?_)
  refine Ok_ife (by decide) (by decide) (fun q => absurd q (by decide)) (fun _ => ?_)
  refine Ok_ife (by decide) (by decide) (fun _ => ?_) (fun q => absurd (by decide) q)
  refine Kp_pass C_t0 hT (by omega) (show n < 2147483648 from by omega) (by omega) (fun t2 C_t2 X_t2 a_t2 b_t2 d_t2 w_t2 u_t2 v_t2 j_t2 l_t2 => ?_)
  have e_t2 := C_t2.2.2.2.1
  rcases w_t2 with ⟨w_t2, y_t2⟩ | ⟨w_t2, wb_t2⟩
  · have z_t2 : m_at t0 < m_ct t0 := lo_ne (Nat.ne_of_gt (show 0 < lo t0 (m_at t0) from by omega))
    refine Ok_ret (show Ok _ _ _ from ?_)
    refine Hv_mk hK (C_t2.1.2.2.2.2.2.2 hTt) C_t2 hT (by omega) (by omega) (by omega) ?_ ?_ ?_ (by omega) ?_ ?_ ?_
    · exact Stk_step (N := m_md t0) (pop := (7, n, t)) (new := []) F0 C_t2.1.to2 (fun _ => Nat.le_refl _) (fun q hq _ => hq) (fun (h : nk 7 = true) => absurd h (by decide)) (fun y hy => absurd hy List.not_mem_nil) (fun (h : 7 = 3 ∨ 7 = 18 ∨ 7 = 41) => absurd h (by decide)) (fun (h : 7 = 18) => absurd h (by decide)) (fun (h : 7 = 41 ∨ 7 = 42 ∨ 7 = 43) => absurd h (by decide)) r [] (fun y hy => absurd hy List.not_mem_nil) hS
    · exact Aj_tl hJ
    · show m_dp t2 = sD r
      have : dlt 7 = 0 := rfl; omega
    · show m_rw t2 = sR r
      have : rho 7 = 0 := rfl; omega
    · show m_md t2 + sM r ≤ 3 * m_at t2 + 7 * (r.length) + 10
      have : mu7 7 = 4 := rfl; omega
    · show sW r + 6 * (4096 - m_at t2) + 4 * (600 - (r.length)) < (wt 7 + sW r) + 6 * (4096 - m_at t0) + 4 * (600 - (r.length + 1))
      have : wt 7 = 0 := rfl; omega
  · have w_t2 := Nat.pos_of_ne_zero w_t2
    refine Ok_ret (show Ok _ _ _ from ?_)
    exact Or.inl ⟨Nat.ne_of_gt (show 0 < m_wr t2 from by omega), by omega, by omega, C_t2.2.2.2.2.2, by omega⟩

theorem S_8 {t0 : Mm} {n t : Nat} {r : List It} (H : Hp t0 (8, n, t) r) {E : Mm → Prop} : Ok (Qh (mz t0 ((8, n, t) :: r))) E (b_X6_step 8 n t t0) := by
  obtain ⟨hK, hT, hc, hw0, ha, hC, hS, hJ, hdp, hdl, hrw, hmd, htd, hln, hm16, hI, hD, hTt⟩ := Hp_out H
  have C_t0 := hC (m_md t0)
  have F0 := C_t0.2.1
  have ht : t < 4096 := hI.1.1 (show 8 ≠ 42 by decide) (show 8 ≠ 48 by decide)
  have hn : 0 < n ∧ n < 128 := hI.1.2.2.2.2.2.1 (show 8 = 7 ∨ 8 = 8 from by decide)
  have hdp : m_dp t0 = dlt 8 + sD r := hdp
  have hrw : m_rw t0 = rho 8 + sR r := hrw
  have hmd : m_md t0 + mu7 8 + sM r ≤ 3 * m_at t0 + 7 * r.length + 17 := hmd
  have hand : t &&& 1 ≤ 1 := Nat.and_le_right
  have h01 : (0 &&& 1 : Nat) = 0 := rfl
  have h02 : (1 : Nat) * 256 = 256 := rfl
  have hq1 : dlt 8 = 1 := rfl
  have hq2 : rho 8 = 0 := rfl
  have hq3 : mu7 8 = 4 := rfl
  unfold b_X6_step
  refine Ok_ifl (by decide) (by decide) (fun _ => ?_) (fun q => absurd (by decide) q)
  refine Ok_ifl (by decide) (by decide) (fun _ => ?_) (fun q => absurd (by decide) q)
  refine Ok_bnc ?_
  try unfold b_X6_value_
  refine Ok_ck (by decide) ?_
  refine Ok_ife (by decide) (by decide) (fun q => absurd q (by decide)) (fun _ => ?_)
  refine Ok_ife (by decide) (by decide) (fun q => absurd q (by decide)) (fun _ => ?_)
  refine Ok_ife (by decide) (by decide) (fun q => absurd q (by decide)) (fun _ => ?_)
  refine Ok_ife (by decide) (by decide) (fun _ => ?_) (fun q => absurd (by decide) q)
  refine Kp_pass C_t0 hT (by omega) (show n < 2147483648 from by omega) (by omega) (fun t2 C_t2 X_t2 a_t2 b_t2 d_t2 w_t2 u_t2 v_t2 j_t2 l_t2 => ?_)
  have e_t2 := C_t2.2.2.2.1
  rcases w_t2 with ⟨w_t2, y_t2⟩ | ⟨w_t2, wb_t2⟩
  · have z_t2 : m_at t0 < m_ct t0 := lo_ne (Nat.ne_of_gt (show 0 < lo t0 (m_at t0) from by omega))
    refine Ok_ck (show (m_dp t2) ≠ 0 from by omega) ?_
    refine Kp_dp C_t2 (fun t3 C_t3 X_t3 a_t3 b_t3 d_t3 w_t3 u_t3 v_t3 j_t3 l_t3 => ?_)
    have e_t3 := C_t3.2.2.2.1
    rw [a_t2] at a_t3
    rw [b_t2] at b_t3
    rw [d_t2] at d_t3
    rw [w_t2] at w_t3
    rw [u_t2] at u_t3
    rw [v_t2] at v_t3
    clear d_t2 w_t2 u_t2 v_t2 e_t2 a_t2 b_t2
    refine Ok_ret (show Ok _ _ _ from ?_)
    refine Hv_mk hK (C_t3.1.2.2.2.2.2.2 hTt) C_t3 hT (by omega) (by omega) (by omega) ?_ ?_ ?_ (by omega) ?_ ?_ ?_
    · exact Stk_step (N := m_md t0) (pop := (8, n, t)) (new := []) F0 C_t3.1.to2 (fun _ => Nat.le_refl _) (fun q hq _ => hq) (fun (h : nk 8 = true) => absurd h (by decide)) (fun y hy => absurd hy List.not_mem_nil) (fun (h : 8 = 3 ∨ 8 = 18 ∨ 8 = 41) => absurd h (by decide)) (fun (h : 8 = 18) => absurd h (by decide)) (fun (h : 8 = 41 ∨ 8 = 42 ∨ 8 = 43) => absurd h (by decide)) r [] (fun y hy => absurd hy List.not_mem_nil) hS
    · exact Aj_tl hJ
    · show m_dp t3 = sD r
      have : dlt 8 = 1 := rfl; omega
    · show m_rw t3 = sR r
      have : rho 8 = 0 := rfl; omega
    · show m_md t3 + sM r ≤ 3 * m_at t3 + 7 * (r.length) + 10
      have : mu7 8 = 4 := rfl; omega
    · show sW r + 6 * (4096 - m_at t3) + 4 * (600 - (r.length)) < (wt 8 + sW r) + 6 * (4096 - m_at t0) + 4 * (600 - (r.length + 1))
      have : wt 8 = 0 := rfl; omega
  · have w_t2 := Nat.pos_of_ne_zero w_t2
    refine Ok_ck (show (m_dp t2) ≠ 0 from by omega) ?_
    refine Kp_dp C_t2 (fun t4 C_t4 X_t4 a_t4 b_t4 d_t4 w_t4 u_t4 v_t4 j_t4 l_t4 => ?_)
    have e_t4 := C_t4.2.2.2.1
    refine Ok_ret (show Ok _ _ _ from ?_)
    exact Or.inl ⟨Nat.ne_of_gt (show 0 < m_wr t4 from by omega), by omega, by omega, C_t4.2.2.2.2.2, by omega⟩

theorem S_9 {t0 : Mm} {n t : Nat} {r : List It} (H : Hp t0 (9, n, t) r) {E : Mm → Prop} : Ok (Qh (mz t0 ((9, n, t) :: r))) E (b_X6_step 9 n t t0) := by
  obtain ⟨hK, hT, hc, hw0, ha, hC, hS, hJ, hdp, hdl, hrw, hmd, htd, hln, hm16, hI, hD, hTt⟩ := Hp_out H
  have C_t0 := hC n
  have F0 := C_t0.2.1
  have I_n_t0 : Nq t0 n := ⟨(hI.2.1 rfl).1, (hI.2.1 rfl).2.1, (hI.2.1 rfl).2.2, hI.2.2.2 rfl⟩
  have m_n_t0 := I_n_t0.1
  have ht : t < 4096 := hI.1.1 (show 9 ≠ 42 by decide) (show 9 ≠ 48 by decide)
  have hdp : m_dp t0 = dlt 9 + sD r := hdp
  have hrw : m_rw t0 = rho 9 + sR r := hrw
  have hmd : m_md t0 + mu7 9 + sM r ≤ 3 * m_at t0 + 7 * r.length + 17 := hmd
  have hand : t &&& 1 ≤ 1 := Nat.and_le_right
  have h01 : (0 &&& 1 : Nat) = 0 := rfl
  have h02 : (1 : Nat) * 256 = 256 := rfl
  have hq1 : dlt 9 = 1 := rfl
  have hq2 : rho 9 = 0 := rfl
  have hq3 : mu7 9 = 4 := rfl
  unfold b_X6_step
  refine Ok_ifl (by decide) (by decide) (fun _ => ?_) (fun q => absurd (by decide) q)
  refine Ok_ifl (by decide) (by decide) (fun _ => ?_) (fun q => absurd (by decide) q)
  refine Ok_bnc ?_
  try unfold b_X6_value_
  refine Ok_ck (by decide) ?_
  refine Ok_ife (by decide) (by decide) (fun q => absurd q (by decide)) (fun _ => ?_)
  refine Ok_ife (by decide) (by decide) (fun q => absurd q (by decide)) (fun _ => ?_)
  refine Ok_ife (by decide) (by decide) (fun q => absurd q (by decide)) (fun _ => ?_)
  refine Ok_ife (by decide) (by decide) (fun q => absurd q (by decide)) (fun _ => ?_)
  refine Ok_ife (by decide) (by decide) (fun _ => ?_) (fun q => absurd (by decide) q)
  refine Ok_bnc ?_
  try unfold b_X6_args
  refine Kp_look C_t0 hT (by omega) ?_
  refine Ok_ife (Nat.lt_trans (lo_lt (C_t0.tk hT) _) (by decide)) (by decide) (fun q3 => ?_) (fun q3 => ?_)
  · have z_t4 : m_at t0 < m_ct t0 := lo_ne (Nat.ne_of_gt (show 0 < lo t0 (m_at t0) from by omega))
    refine Kp_at C_t0 (fun t4 C_t4 X_t4 a_t4 b_t4 d_t4 w_t4 u_t4 v_t4 j_t4 l_t4 => ?_)
    have e_t4 := C_t4.2.2.2.1
    have I_n_t4 := I_n_t0.flat X_t4
    refine Ok_ck (show (m_dp t4) ≠ 0 from by omega) ?_
    refine Kp_dp C_t4 (fun t5 C_t5 X_t5 a_t5 b_t5 d_t5 w_t5 u_t5 v_t5 j_t5 l_t5 => ?_)
    have e_t5 := C_t5.2.2.2.1
    rw [a_t4] at a_t5
    rw [b_t4] at b_t5
    rw [d_t4] at d_t5
    rw [w_t4] at w_t5
    rw [u_t4] at u_t5
    rw [v_t4] at v_t5
    clear d_t4 w_t4 u_t4 v_t4 e_t4 a_t4 b_t4
    have I_n_t5 := I_n_t4.flat X_t5
    refine Ok_ret (show Ok _ _ _ from ?_)
    refine Ok_ret (show Ok _ _ _ from ?_)
    refine Hv_mk hK (C_t5.1.2.2.2.2.2.2 hTt) C_t5 hT (by omega) (by omega) (by omega) ?_ ?_ ?_ (by omega) ?_ ?_ ?_
    · exact Stk_step (N := n) (pop := (9, n, t)) (new := []) F0 C_t5.1.to2 (fun (h : nk 9 = false) => absurd h (by decide)) (fun q _ h => h (9, n, t) rfl) (fun _ => rfl) (fun y hy hk => ⟨rfl, Mo_nil (n := n) y hy hk⟩) (fun (h : 9 = 3 ∨ 9 = 18 ∨ 9 = 41) => absurd h (by decide)) (fun (h : 9 = 18) => absurd h (by decide)) (fun (h : 9 = 41 ∨ 9 = 42 ∨ 9 = 43) => absurd h (by decide)) r [] (fun y hy => absurd hy List.not_mem_nil) hS
    · exact Aj_tl hJ
    · show m_dp t5 = sD r
      have : dlt 9 = 1 := rfl; omega
    · show m_rw t5 = sR r
      have : rho 9 = 0 := rfl; omega
    · show m_md t5 + sM r ≤ 3 * m_at t5 + 7 * (r.length) + 10
      have : mu7 9 = 4 := rfl; omega
    · show sW r + 6 * (4096 - m_at t5) + 4 * (600 - (r.length)) < (wt 9 + sW r) + 6 * (4096 - m_at t0) + 4 * (600 - (r.length + 1))
      have : wt 9 = 1 := rfl; omega
  · refine Kp_push C_t0 (by omega) (fun t6 C_t6 X_t6 a_t6 b_t6 d_t6 w_t6 u_t6 v_t6 j_t6 l_t6 => ?_)
    have e_t6 := C_t6.2.2.2.1
    have I_n_t6 := I_n_t0.flat X_t6
    refine Ok_bnc ?_
    try unfold b_X6_expression
    refine Kp_push C_t6 (by omega) (fun t8 C_t8 X_t8 a_t8 b_t8 d_t8 w_t8 u_t8 v_t8 j_t8 l_t8 => ?_)
    have e_t8 := C_t8.2.2.2.1
    rw [a_t6] at a_t8
    rw [b_t6] at b_t8
    rw [d_t6] at d_t8
    rw [w_t6] at w_t8
    rw [u_t6] at u_t8
    rw [v_t6] at v_t8
    clear d_t6 w_t6 u_t6 v_t6 e_t6 a_t6 b_t6
    have I_n_t8 := I_n_t6.flat X_t8
    refine Kp_push C_t8 (by omega) (fun t9 C_t9 X_t9 a_t9 b_t9 d_t9 w_t9 u_t9 v_t9 j_t9 l_t9 => ?_)
    have e_t9 := C_t9.2.2.2.1
    rw [a_t8] at a_t9
    rw [b_t8] at b_t9
    rw [d_t8] at d_t9
    rw [w_t8] at w_t9
    rw [u_t8] at u_t9
    rw [v_t8] at v_t9
    clear d_t8 w_t8 u_t8 v_t8 e_t8 a_t8 b_t8
    have I_n_t9 := I_n_t8.flat X_t9
    refine Ok_ret (show Ok _ _ _ from ?_)
    refine Ok_ret (show Ok _ _ _ from ?_)
    refine Ok_ret (show Ok _ _ _ from ?_)
    refine Hv_mk (Kv_c (x := (3, n, 0)) rfl (Kv_c (x := (2, n, 0 ||| (1 * 256))) rfl (Kv_c (x := (10, n, 0)) rfl hK))) (C_t9.1.2.2.2.2.2.2 hTt) C_t9 hT (by omega) (by omega) (by omega) ?_ ?_ ?_ (by omega) ?_ ?_ ?_
    · exact ⟨(Io_n (by decide) (by decide) I_n_t9.1 I_n_t9.2.1 I_n_t9.2.2.1 (fun q => absurd q (by decide)) (fun q => absurd q (by decide)) I_n_t9.2.2.2), (Nd_0 (by decide) Mo_nil), ⟨(Io_2 (by have := or_256 (b := 1) (show 0 < 256 from by omega); omega) (by have := or_256 (b := 1) (show 0 < 256 from by omega); omega) (by have := or_256 (b := 1) (show 0 < 256 from by omega); omega) I_n_t9.1 I_n_t9.2.1 I_n_t9.2.2.1 I_n_t9.2.2.2), (Nd_A (by decide) (Mo_cons (fun q => show n ≤ n from by omega) Mo_nil) (Or.inr ⟨(3, n, 0), List.mem_cons_self, rfl, Or.inl rfl⟩)), ⟨(Io_n (by decide) (by decide) I_n_t9.1 I_n_t9.2.1 I_n_t9.2.2.1 (fun q => absurd q (by decide)) (fun q => absurd q (by decide)) I_n_t9.2.2.2), (Nd_0 (by decide) (Mo_cons (fun q => show n ≤ n from by omega) (Mo_cons (fun q => show n ≤ n from by omega) Mo_nil))), Stk_step (N := n) (pop := (9, n, t)) (new := [(10, n, 0), (2, n, 0 ||| (1 * 256)), (3, n, 0)]) F0 C_t9.1.to2 (fun (h : nk 9 = false) => absurd h (by decide)) (fun q _ h => h (9, n, t) rfl) (fun _ => rfl) (fun y hy hk => ⟨rfl, (Mo_cons (fun q => show n ≤ n from by omega) (Mo_cons (fun q => show n ≤ n from by omega) (Mo_cons (fun q => show n ≤ n from by omega) Mo_nil))) y hy hk⟩) (fun (h : 9 = 3 ∨ 9 = 18 ∨ 9 = 41) => absurd h (by decide)) (fun (h : 9 = 18) => absurd h (by decide)) (fun (h : 9 = 41 ∨ 9 = 42 ∨ 9 = 43) => absurd h (by decide)) r [] (fun y hy => absurd hy List.not_mem_nil) hS⟩⟩⟩
    · exact (Aj_up (x := (3, n, 0)) (Aj_up (x := (2, n, 0 ||| (1 * 256))) (Aj_sub (y := (10, n, 0)) hJ (Nat.le_of_ble_eq_true rfl)) (Or.inl (Nat.le_of_ble_eq_true rfl))) (Or.inr (show 2 < 9 - (0 ||| (1 * 256)) / 256 from by have := or_256 (b := 1) (show 0 < 256 from by omega); omega)))
    · show m_dp t9 = (dlt 3 + (dlt 2 + (dlt 10 + sD r)))
      have : dlt 10 = 1 := rfl; have : dlt 2 = 0 := rfl; have : dlt 3 = 0 := rfl; have : dlt 9 = 1 := rfl; omega
    · show m_rw t9 = (rho 3 + (rho 2 + (rho 10 + sR r)))
      have : rho 10 = 0 := rfl; have : rho 2 = 0 := rfl; have : rho 3 = 0 := rfl; have : rho 9 = 0 := rfl; omega
    · show m_md t9 + (mu7 3 + (mu7 2 + (mu7 10 + sM r))) ≤ 3 * m_at t9 + 7 * (r.length + 1 + 1 + 1) + 10
      have : mu7 10 = 4 := rfl; have : mu7 2 = 7 := rfl; have : mu7 3 = 5 := rfl; have : mu7 9 = 4 := rfl; omega
    · show (wt 3 + (wt 2 + (wt 10 + sW r))) + 6 * (4096 - m_at t9) + 4 * (600 - (r.length + 1 + 1 + 1)) < (wt 9 + sW r) + 6 * (4096 - m_at t0) + 4 * (600 - (r.length + 1))
      have : wt 10 = 0 := rfl; have : wt 2 = 5 := rfl; have : wt 3 = 3 := rfl; have : wt 9 = 1 := rfl; omega

theorem S_10 {t0 : Mm} {n t : Nat} {r : List It} (H : Hp t0 (10, n, t) r) {E : Mm → Prop} : Ok (Qh (mz t0 ((10, n, t) :: r))) E (b_X6_step 10 n t t0) := by
  obtain ⟨hK, hT, hc, hw0, ha, hC, hS, hJ, hdp, hdl, hrw, hmd, htd, hln, hm16, hI, hD, hTt⟩ := Hp_out H
  have C_t0 := hC n
  have F0 := C_t0.2.1
  have I_n_t0 : Nq t0 n := ⟨(hI.2.1 rfl).1, (hI.2.1 rfl).2.1, (hI.2.1 rfl).2.2, hI.2.2.2 rfl⟩
  have m_n_t0 := I_n_t0.1
  have ht : t < 4096 := hI.1.1 (show 10 ≠ 42 by decide) (show 10 ≠ 48 by decide)
  have hdp : m_dp t0 = dlt 10 + sD r := hdp
  have hrw : m_rw t0 = rho 10 + sR r := hrw
  have hmd : m_md t0 + mu7 10 + sM r ≤ 3 * m_at t0 + 7 * r.length + 17 := hmd
  have hand : t &&& 1 ≤ 1 := Nat.and_le_right
  have h01 : (0 &&& 1 : Nat) = 0 := rfl
  have h02 : (1 : Nat) * 256 = 256 := rfl
  have hq1 : dlt 10 = 1 := rfl
  have hq2 : rho 10 = 0 := rfl
  have hq3 : mu7 10 = 4 := rfl
  unfold b_X6_step
  refine Ok_ifl (by decide) (by decide) (fun _ => ?_) (fun q => absurd (by decide) q)
  refine Ok_ifl (by decide) (by decide) (fun _ => ?_) (fun q => absurd (by decide) q)
  refine Ok_bnc ?_
  try unfold b_X6_value_
  refine Ok_ck (by decide) ?_
  refine Ok_ife (by decide) (by decide) (fun q => absurd q (by decide)) (fun _ => ?_)
  refine Ok_ife (by decide) (by decide) (fun q => absurd q (by decide)) (fun _ => ?_)
  refine Ok_ife (by decide) (by decide) (fun q => absurd q (by decide)) (fun _ => ?_)
  refine Ok_ife (by decide) (by decide) (fun q => absurd q (by decide)) (fun _ => ?_)
  refine Ok_ife (by decide) (by decide) (fun q => absurd q (by decide)) (fun _ => ?_)
  refine Ok_ife (by decide) (by decide) (fun _ => ?_) (fun q => absurd (by decide) q)
  refine Ok_bnc ?_
  try unfold b_X6_argsMore
  refine Kp_look C_t0 hT (by omega) ?_
  refine Ok_ife (Nat.lt_trans (lo_lt (C_t0.tk hT) _) (by decide)) (by decide) (fun q3 => ?_) (fun q3 => ?_)
  · refine Kp_child C_t0 I_n_t0.1 I_n_t0.2.1 I_n_t0.2.2.1 (by omega) (by omega) (by decide) (by decide) (fun t4 C_t4 X_t4 a_t4 b_t4 d_t4 w_t4 u_t4 v_t4 j_t4 l_t4 => ?_)
    have e_t4 := C_t4.2.2.2.1
    have I_n_t4 := I_n_t0.chd X_t4 j_t4
    have f_n_t4 : Fz t4 n := j_t4.2.2.2.2.1
    have I_m_mdt0_t4 : Nq t4 (m_md t0) := Nq.chn j_t4 (by omega) I_n_t0 (by decide)
    have u_m_mdt0_t4 : Up t4 (m_md t0) := Or.inl j_t4.2.1
    have z_t5 : m_at t4 < m_ct t4 := lo_ne (Nat.ne_of_gt (show 0 < lo t4 (m_at t4) from by omega))
    refine Kp_at C_t4 (fun t5 C_t5 X_t5 a_t5 b_t5 d_t5 w_t5 u_t5 v_t5 j_t5 l_t5 => ?_)
    have e_t5 := C_t5.2.2.2.1
    rw [a_t4] at a_t5
    rw [b_t4] at b_t5
    rw [d_t4] at d_t5
    rw [w_t4] at w_t5
    rw [u_t4] at u_t5
    rw [v_t4] at v_t5
    rw [a_t4, e_t4] at z_t5
    clear d_t4 w_t4 u_t4 v_t4 e_t4 a_t4 b_t4
    have I_n_t5 := I_n_t4.flat X_t5
    have f_n_t5 := f_n_t4.ex I_n_t4 (X_t5 0)
    have I_m_mdt0_t5 := I_m_mdt0_t4.flat X_t5
    have u_m_mdt0_t5 := u_m_mdt0_t4.ex I_m_mdt0_t4 (X_t5 0)
    refine Kp_look C_t5 hT (by omega) ?_
    refine Ok_ife (Nat.lt_trans (lo_lt (C_t5.tk hT) _) (by decide)) (by decide) (fun q6 => ?_) (fun q6 => ?_)
    · have z_t7 : m_at t5 < m_ct t5 := lo_ne (Nat.ne_of_gt (show 0 < lo t5 (m_at t5) from by omega))
      refine Kp_at C_t5 (fun t7 C_t7 X_t7 a_t7 b_t7 d_t7 w_t7 u_t7 v_t7 j_t7 l_t7 => ?_)
      have e_t7 := C_t7.2.2.2.1
      rw [a_t5] at a_t7
      rw [b_t5] at b_t7
      rw [d_t5] at d_t7
      rw [w_t5] at w_t7
      rw [u_t5] at u_t7
      rw [v_t5] at v_t7
      rw [a_t5, e_t5] at z_t7
      clear z_t5
      clear d_t5 w_t5 u_t5 v_t5 e_t5 a_t5 b_t5
      have I_n_t7 := I_n_t5.flat X_t7
      have f_n_t7 := f_n_t5.ex I_n_t5 (X_t7 0)
      have I_m_mdt0_t7 := I_m_mdt0_t5.flat X_t7
      have u_m_mdt0_t7 := u_m_mdt0_t5.ex I_m_mdt0_t5 (X_t7 0)
      refine Kp_pass C_t7 hT (by omega) (by decide) (by omega) (fun t8 C_t8 X_t8 a_t8 b_t8 d_t8 w_t8 u_t8 v_t8 j_t8 l_t8 => ?_)
      have e_t8 := C_t8.2.2.2.1
      rcases w_t8 with ⟨w_t8, y_t8⟩ | ⟨w_t8, wb_t8⟩
      · have z_t8 : m_at t7 < m_ct t7 := lo_ne (Nat.ne_of_gt (show 0 < lo t7 (m_at t7) from by omega))
        rw [a_t7] at a_t8
        rw [b_t7] at b_t8
        rw [d_t7] at d_t8
        rw [w_t7] at w_t8
        rw [u_t7] at u_t8
        rw [v_t7] at v_t8
        rw [a_t7, e_t7] at z_t8
        clear z_t7
        clear d_t7 w_t7 u_t7 v_t7 e_t7 a_t7 b_t7
        have I_n_t8 := I_n_t7.flat X_t8
        have f_n_t8 := f_n_t7.ex I_n_t7 (X_t8 0)
        have I_m_mdt0_t8 := I_m_mdt0_t7.flat X_t8
        have u_m_mdt0_t8 := u_m_mdt0_t7.ex I_m_mdt0_t7 (X_t8 0)
        refine Ok_ck (show (m_dp t8) ≠ 0 from by omega) ?_
        refine Kp_dp C_t8 (fun t9 C_t9 X_t9 a_t9 b_t9 d_t9 w_t9 u_t9 v_t9 j_t9 l_t9 => ?_)
        have e_t9 := C_t9.2.2.2.1
        rw [a_t8] at a_t9
        rw [b_t8] at b_t9
        rw [d_t8] at d_t9
        rw [w_t8] at w_t9
        rw [u_t8] at u_t9
        rw [v_t8] at v_t9
        clear d_t8 w_t8 u_t8 v_t8 e_t8 a_t8 b_t8
        have I_n_t9 := I_n_t8.flat X_t9
        have f_n_t9 := f_n_t8.ex I_n_t8 (X_t9 0)
        have I_m_mdt0_t9 := I_m_mdt0_t8.flat X_t9
        have u_m_mdt0_t9 := u_m_mdt0_t8.ex I_m_mdt0_t8 (X_t9 0)
        refine Ok_ret (show Ok _ _ _ from ?_)
        refine Ok_ret (show Ok _ _ _ from ?_)
        refine Hv_mk hK (C_t9.1.2.2.2.2.2.2 hTt) C_t9 hT (by omega) (by omega) (by omega) ?_ ?_ ?_ (by omega) ?_ ?_ ?_
        · exact Stk_step (N := n) (pop := (10, n, t)) (new := []) F0 C_t9.1.to2 (fun (h : nk 10 = false) => absurd h (by decide)) (fun q _ h => h (10, n, t) rfl) (fun _ => rfl) (fun y hy hk => ⟨rfl, Mo_nil (n := n) y hy hk⟩) (fun (h : 10 = 3 ∨ 10 = 18 ∨ 10 = 41) => absurd h (by decide)) (fun (h : 10 = 18) => absurd h (by decide)) (fun (h : 10 = 41 ∨ 10 = 42 ∨ 10 = 43) => absurd h (by decide)) r [] (fun y hy => absurd hy List.not_mem_nil) hS
        · exact Aj_tl hJ
        · show m_dp t9 = sD r
          have : dlt 10 = 1 := rfl; omega
        · show m_rw t9 = sR r
          have : rho 10 = 0 := rfl; omega
        · show m_md t9 + sM r ≤ 3 * m_at t9 + 7 * (r.length) + 10
          have : mu7 10 = 4 := rfl; omega
        · show sW r + 6 * (4096 - m_at t9) + 4 * (600 - (r.length)) < (wt 10 + sW r) + 6 * (4096 - m_at t0) + 4 * (600 - (r.length + 1))
          have : wt 10 = 0 := rfl; omega
      · have w_t8 := Nat.pos_of_ne_zero w_t8
        have I_n_t8 := I_n_t7.flat X_t8
        have f_n_t8 := f_n_t7.ex I_n_t7 (X_t8 0)
        have I_m_mdt0_t8 := I_m_mdt0_t7.flat X_t8
        have u_m_mdt0_t8 := u_m_mdt0_t7.ex I_m_mdt0_t7 (X_t8 0)
        refine Ok_ck (show (m_dp t8) ≠ 0 from by omega) ?_
        refine Kp_dp C_t8 (fun t10 C_t10 X_t10 a_t10 b_t10 d_t10 w_t10 u_t10 v_t10 j_t10 l_t10 => ?_)
        have e_t10 := C_t10.2.2.2.1
        have I_n_t10 := I_n_t8.flat X_t10
        have f_n_t10 := f_n_t8.ex I_n_t8 (X_t10 0)
        have I_m_mdt0_t10 := I_m_mdt0_t8.flat X_t10
        have u_m_mdt0_t10 := u_m_mdt0_t8.ex I_m_mdt0_t8 (X_t10 0)
        refine Ok_ret (show Ok _ _ _ from ?_)
        refine Ok_ret (show Ok _ _ _ from ?_)
        exact Or.inl ⟨Nat.ne_of_gt (show 0 < m_wr t10 from by omega), by omega, by omega, C_t10.2.2.2.2.2, by omega⟩
    · refine Kp_pass C_t5 hT (by omega) (by decide) (by omega) (fun t11 C_t11 X_t11 a_t11 b_t11 d_t11 w_t11 u_t11 v_t11 j_t11 l_t11 => ?_)
      have e_t11 := C_t11.2.2.2.1
      rcases w_t11 with ⟨w_t11, y_t11⟩ | ⟨w_t11, wb_t11⟩
      · have z_t11 : m_at t5 < m_ct t5 := lo_ne (Nat.ne_of_gt (show 0 < lo t5 (m_at t5) from by omega))
        rw [a_t5] at a_t11
        rw [b_t5] at b_t11
        rw [d_t5] at d_t11
        rw [w_t5] at w_t11
        rw [u_t5] at u_t11
        rw [v_t5] at v_t11
        rw [a_t5, e_t5] at z_t11
        clear z_t5
        clear d_t5 w_t5 u_t5 v_t5 e_t5 a_t5 b_t5
        have I_n_t11 := I_n_t5.flat X_t11
        have f_n_t11 := f_n_t5.ex I_n_t5 (X_t11 0)
        have I_m_mdt0_t11 := I_m_mdt0_t5.flat X_t11
        have u_m_mdt0_t11 := u_m_mdt0_t5.ex I_m_mdt0_t5 (X_t11 0)
        refine Ok_ck (show (m_dp t11) ≠ 0 from by omega) ?_
        refine Kp_dp C_t11 (fun t12 C_t12 X_t12 a_t12 b_t12 d_t12 w_t12 u_t12 v_t12 j_t12 l_t12 => ?_)
        have e_t12 := C_t12.2.2.2.1
        rw [a_t11] at a_t12
        rw [b_t11] at b_t12
        rw [d_t11] at d_t12
        rw [w_t11] at w_t12
        rw [u_t11] at u_t12
        rw [v_t11] at v_t12
        clear d_t11 w_t11 u_t11 v_t11 e_t11 a_t11 b_t11
        have I_n_t12 := I_n_t11.flat X_t12
        have f_n_t12 := f_n_t11.ex I_n_t11 (X_t12 0)
        have I_m_mdt0_t12 := I_m_mdt0_t11.flat X_t12
        have u_m_mdt0_t12 := u_m_mdt0_t11.ex I_m_mdt0_t11 (X_t12 0)
        refine Ok_ret (show Ok _ _ _ from ?_)
        refine Ok_ret (show Ok _ _ _ from ?_)
        refine Hv_mk hK (C_t12.1.2.2.2.2.2.2 hTt) C_t12 hT (by omega) (by omega) (by omega) ?_ ?_ ?_ (by omega) ?_ ?_ ?_
        · exact Stk_step (N := n) (pop := (10, n, t)) (new := []) F0 C_t12.1.to2 (fun (h : nk 10 = false) => absurd h (by decide)) (fun q _ h => h (10, n, t) rfl) (fun _ => rfl) (fun y hy hk => ⟨rfl, Mo_nil (n := n) y hy hk⟩) (fun (h : 10 = 3 ∨ 10 = 18 ∨ 10 = 41) => absurd h (by decide)) (fun (h : 10 = 18) => absurd h (by decide)) (fun (h : 10 = 41 ∨ 10 = 42 ∨ 10 = 43) => absurd h (by decide)) r [] (fun y hy => absurd hy List.not_mem_nil) hS
        · exact Aj_tl hJ
        · show m_dp t12 = sD r
          have : dlt 10 = 1 := rfl; omega
        · show m_rw t12 = sR r
          have : rho 10 = 0 := rfl; omega
        · show m_md t12 + sM r ≤ 3 * m_at t12 + 7 * (r.length) + 10
          have : mu7 10 = 4 := rfl; omega
        · show sW r + 6 * (4096 - m_at t12) + 4 * (600 - (r.length)) < (wt 10 + sW r) + 6 * (4096 - m_at t0) + 4 * (600 - (r.length + 1))
          have : wt 10 = 0 := rfl; omega
      · have w_t11 := Nat.pos_of_ne_zero w_t11
        have I_n_t11 := I_n_t5.flat X_t11
        have f_n_t11 := f_n_t5.ex I_n_t5 (X_t11 0)
        have I_m_mdt0_t11 := I_m_mdt0_t5.flat X_t11
        have u_m_mdt0_t11 := u_m_mdt0_t5.ex I_m_mdt0_t5 (X_t11 0)
        refine Ok_ck (show (m_dp t11) ≠ 0 from by omega) ?_
        refine Kp_dp C_t11 (fun t13 C_t13 X_t13 a_t13 b_t13 d_t13 w_t13 u_t13 v_t13 j_t13 l_t13 => ?_)
        have e_t13 := C_t13.2.2.2.1
        have I_n_t13 := I_n_t11.flat X_t13
        have f_n_t13 := f_n_t11.ex I_n_t11 (X_t13 0)
        have I_m_mdt0_t13 := I_m_mdt0_t11.flat X_t13
        have u_m_mdt0_t13 := u_m_mdt0_t11.ex I_m_mdt0_t11 (X_t13 0)
        refine Ok_ret (show Ok _ _ _ from ?_)
        refine Ok_ret (show Ok _ _ _ from ?_)
        exact Or.inl ⟨Nat.ne_of_gt (show 0 < m_wr t13 from by omega), by omega, by omega, C_t13.2.2.2.2.2, by omega⟩
  · refine Kp_look C_t0 hT (by omega) ?_
    refine Ok_ife (Nat.lt_trans (lo_lt (C_t0.tk hT) _) (by decide)) (by decide) (fun q14 => ?_) (fun q14 => ?_)
    · have z_t15 : m_at t0 < m_ct t0 := lo_ne (Nat.ne_of_gt (show 0 < lo t0 (m_at t0) from by omega))
      refine Kp_at C_t0 (fun t15 C_t15 X_t15 a_t15 b_t15 d_t15 w_t15 u_t15 v_t15 j_t15 l_t15 => ?_)
      have e_t15 := C_t15.2.2.2.1
      have I_n_t15 := I_n_t0.flat X_t15
      refine Kp_push C_t15 (by omega) (fun t16 C_t16 X_t16 a_t16 b_t16 d_t16 w_t16 u_t16 v_t16 j_t16 l_t16 => ?_)
      have e_t16 := C_t16.2.2.2.1
      rw [a_t15] at a_t16
      rw [b_t15] at b_t16
      rw [d_t15] at d_t16
      rw [w_t15] at w_t16
      rw [u_t15] at u_t16
      rw [v_t15] at v_t16
      clear d_t15 w_t15 u_t15 v_t15 e_t15 a_t15 b_t15
      have I_n_t16 := I_n_t15.flat X_t16
      refine Ok_ret (show Ok _ _ _ from ?_)
      refine Ok_ret (show Ok _ _ _ from ?_)
      refine Hv_mk (Kv_c (x := (9, n, 0)) rfl hK) (C_t16.1.2.2.2.2.2.2 hTt) C_t16 hT (by omega) (by omega) (by omega) ?_ ?_ ?_ (by omega) ?_ ?_ ?_
      · exact ⟨(Io_n (by decide) (by decide) I_n_t16.1 I_n_t16.2.1 I_n_t16.2.2.1 (fun q => absurd q (by decide)) (fun q => absurd q (by decide)) I_n_t16.2.2.2), (Nd_0 (by decide) Mo_nil), Stk_step (N := n) (pop := (10, n, t)) (new := [(9, n, 0)]) F0 C_t16.1.to2 (fun (h : nk 10 = false) => absurd h (by decide)) (fun q _ h => h (10, n, t) rfl) (fun _ => rfl) (fun y hy hk => ⟨rfl, (Mo_cons (fun q => show n ≤ n from by omega) Mo_nil) y hy hk⟩) (fun (h : 10 = 3 ∨ 10 = 18 ∨ 10 = 41) => absurd h (by decide)) (fun (h : 10 = 18) => absurd h (by decide)) (fun (h : 10 = 41 ∨ 10 = 42 ∨ 10 = 43) => absurd h (by decide)) r [] (fun y hy => absurd hy List.not_mem_nil) hS⟩
      · exact (Aj_sub (y := (9, n, 0)) hJ (Nat.le_of_ble_eq_true rfl))
      · show m_dp t16 = (dlt 9 + sD r)
        have : dlt 10 = 1 := rfl; have : dlt 9 = 1 := rfl; omega
      · show m_rw t16 = (rho 9 + sR r)
        have : rho 10 = 0 := rfl; have : rho 9 = 0 := rfl; omega
      · show m_md t16 + (mu7 9 + sM r) ≤ 3 * m_at t16 + 7 * (r.length + 1) + 10
        have : mu7 10 = 4 := rfl; have : mu7 9 = 4 := rfl; omega
      · show (wt 9 + sW r) + 6 * (4096 - m_at t16) + 4 * (600 - (r.length + 1)) < (wt 10 + sW r) + 6 * (4096 - m_at t0) + 4 * (600 - (r.length + 1))
        have : wt 10 = 0 := rfl; have : wt 9 = 1 := rfl; omega
    · refine Kp_pass C_t0 hT (by omega) (by decide) (by omega) (fun t17 C_t17 X_t17 a_t17 b_t17 d_t17 w_t17 u_t17 v_t17 j_t17 l_t17 => ?_)
      have e_t17 := C_t17.2.2.2.1
      rcases w_t17 with ⟨w_t17, y_t17⟩ | ⟨w_t17, wb_t17⟩
      · have z_t17 : m_at t0 < m_ct t0 := lo_ne (Nat.ne_of_gt (show 0 < lo t0 (m_at t0) from by omega))
        have I_n_t17 := I_n_t0.flat X_t17
        refine Ok_ck (show (m_dp t17) ≠ 0 from by omega) ?_
        refine Kp_dp C_t17 (fun t18 C_t18 X_t18 a_t18 b_t18 d_t18 w_t18 u_t18 v_t18 j_t18 l_t18 => ?_)
        have e_t18 := C_t18.2.2.2.1
        rw [a_t17] at a_t18
        rw [b_t17] at b_t18
        rw [d_t17] at d_t18
        rw [w_t17] at w_t18
        rw [u_t17] at u_t18
        rw [v_t17] at v_t18
        clear d_t17 w_t17 u_t17 v_t17 e_t17 a_t17 b_t17
        have I_n_t18 := I_n_t17.flat X_t18
        refine Ok_ret (show Ok _ _ _ from ?_)
        refine Ok_ret (show Ok _ _ _ from ?_)
        refine Hv_mk hK (C_t18.1.2.2.2.2.2.2 hTt) C_t18 hT (by omega) (by omega) (by omega) ?_ ?_ ?_ (by omega) ?_ ?_ ?_
        · exact Stk_step (N := n) (pop := (10, n, t)) (new := []) F0 C_t18.1.to2 (fun (h : nk 10 = false) => absurd h (by decide)) (fun q _ h => h (10, n, t) rfl) (fun _ => rfl) (fun y hy hk => ⟨rfl, Mo_nil (n := n) y hy hk⟩) (fun (h : 10 = 3 ∨ 10 = 18 ∨ 10 = 41) => absurd h (by decide)) (fun (h : 10 = 18) => absurd h (by decide)) (fun (h : 10 = 41 ∨ 10 = 42 ∨ 10 = 43) => absurd h (by decide)) r [] (fun y hy => absurd hy List.not_mem_nil) hS
        · exact Aj_tl hJ
        · show m_dp t18 = sD r
          have : dlt 10 = 1 := rfl; omega
        · show m_rw t18 = sR r
          have : rho 10 = 0 := rfl; omega
        · show m_md t18 + sM r ≤ 3 * m_at t18 + 7 * (r.length) + 10
          have : mu7 10 = 4 := rfl; omega
        · show sW r + 6 * (4096 - m_at t18) + 4 * (600 - (r.length)) < (wt 10 + sW r) + 6 * (4096 - m_at t0) + 4 * (600 - (r.length + 1))
          have : wt 10 = 0 := rfl; omega
      · have w_t17 := Nat.pos_of_ne_zero w_t17
        have I_n_t17 := I_n_t0.flat X_t17
        refine Ok_ck (show (m_dp t17) ≠ 0 from by omega) ?_
        refine Kp_dp C_t17 (fun t19 C_t19 X_t19 a_t19 b_t19 d_t19 w_t19 u_t19 v_t19 j_t19 l_t19 => ?_)
        have e_t19 := C_t19.2.2.2.1
        have I_n_t19 := I_n_t17.flat X_t19
        refine Ok_ret (show Ok _ _ _ from ?_)
        refine Ok_ret (show Ok _ _ _ from ?_)
        exact Or.inl ⟨Nat.ne_of_gt (show 0 < m_wr t19 from by omega), by omega, by omega, C_t19.2.2.2.2.2, by omega⟩

theorem S_11 {t0 : Mm} {n t : Nat} {r : List It} (H : Hp t0 (11, n, t) r) {E : Mm → Prop} : Ok (Qh (mz t0 ((11, n, t) :: r))) E (b_X6_step 11 n t t0) := by
  obtain ⟨hK, hT, hc, hw0, ha, hC, hS, hJ, hdp, hdl, hrw, hmd, htd, hln, hm16, hI, hD, hTt⟩ := Hp_out H
  have C_t0 := hC n
  have F0 := C_t0.2.1
  have I_n_t0 : Nq t0 n := ⟨(hI.2.1 rfl).1, (hI.2.1 rfl).2.1, (hI.2.1 rfl).2.2, hI.2.2.2 rfl⟩
  have m_n_t0 := I_n_t0.1
  have ht : t < 4096 := hI.1.1 (show 11 ≠ 42 by decide) (show 11 ≠ 48 by decide)
  have hdp : m_dp t0 = dlt 11 + sD r := hdp
  have hrw : m_rw t0 = rho 11 + sR r := hrw
  have hmd : m_md t0 + mu7 11 + sM r ≤ 3 * m_at t0 + 7 * r.length + 17 := hmd
  have hand : t &&& 1 ≤ 1 := Nat.and_le_right
  have h01 : (0 &&& 1 : Nat) = 0 := rfl
  have h02 : (1 : Nat) * 256 = 256 := rfl
  have hq1 : dlt 11 = 1 := rfl
  have hq2 : rho 11 = 0 := rfl
  have hq3 : mu7 11 = 4 := rfl
  unfold b_X6_step
  refine Ok_ifl (by decide) (by decide) (fun _ => ?_) (fun q => absurd (by decide) q)
  refine Ok_ifl (by decide) (by decide) (fun _ => ?_) (fun q => absurd (by decide) q)
  refine Ok_bnc ?_
  try unfold b_X6_value_
  refine Ok_ck (by decide) ?_
  refine Ok_ife (by decide) (by decide) (fun q => absurd q (by decide)) (fun _ => ?_)
  refine Ok_ife (by decide) (by decide) (fun q => absurd q (by decide)) (fun _ => ?_)
  refine Ok_ife (by decide) (by decide) (fun q => absurd q (by decide)) (fun _ => ?_)
  refine Ok_ife (by decide) (by decide) (fun q => absurd q (by decide)) (fun _ => ?_)
  refine Ok_ife (by decide) (by decide) (fun q => absurd q (by decide)) (fun _ => ?_)
  refine Ok_ife (by decide) (by decide) (fun q => absurd q (by decide)) (fun _ => ?_)
  refine Ok_ife (by decide) (by decide) (fun _ => ?_) (fun q => absurd (by decide) q)
  refine Ok_bnc ?_
  try unfold b_X6_index
  refine Kp_look C_t0 hT (by omega) ?_
  refine Ok_ife (Nat.lt_trans (lo_lt (C_t0.tk hT) _) (by decide)) (by decide) (fun q3 => ?_) (fun q3 => ?_)
  · refine Ok_ck (show n < 65536 from by omega) ?_
    refine Kp_wh C_t0 (by decide) (by decide) (by decide) (by decide) (fun t4 C_t4 X_t4 a_t4 b_t4 d_t4 w_t4 u_t4 v_t4 j_t4 l_t4 => ?_)
    have e_t4 := C_t4.2.2.2.1
    have I_n_t4 := I_n_t0.flat X_t4
    have z_t5 : m_at t4 < m_ct t4 := lo_ne (Nat.ne_of_gt (show 0 < lo t4 (m_at t4) from by omega))
    refine Kp_at C_t4 (fun t5 C_t5 X_t5 a_t5 b_t5 d_t5 w_t5 u_t5 v_t5 j_t5 l_t5 => ?_)
    have e_t5 := C_t5.2.2.2.1
    rw [a_t4] at a_t5
    rw [b_t4] at b_t5
    rw [d_t4] at d_t5
    rw [w_t4] at w_t5
    rw [u_t4] at u_t5
    rw [v_t4] at v_t5
    rw [a_t4, e_t4] at z_t5
    clear d_t4 w_t4 u_t4 v_t4 e_t4 a_t4 b_t4
    have I_n_t5 := I_n_t4.flat X_t5
    refine Kp_push C_t5 (by omega) (fun t6 C_t6 X_t6 a_t6 b_t6 d_t6 w_t6 u_t6 v_t6 j_t6 l_t6 => ?_)
    have e_t6 := C_t6.2.2.2.1
    rw [a_t5] at a_t6
    rw [b_t5] at b_t6
    rw [d_t5] at d_t6
    rw [w_t5] at w_t6
    rw [u_t5] at u_t6
    rw [v_t5] at v_t6
    clear d_t5 w_t5 u_t5 v_t5 e_t5 a_t5 b_t5
    have I_n_t6 := I_n_t5.flat X_t6
    refine Ok_ret (show Ok _ _ _ from ?_)
    refine Ok_ret (show Ok _ _ _ from ?_)
    refine Hv_mk (Kv_c (x := (12, n, 0)) rfl hK) (C_t6.1.2.2.2.2.2.2 hTt) C_t6 hT (by omega) (by omega) (by omega) ?_ ?_ ?_ (by omega) ?_ ?_ ?_
    · exact ⟨(Io_n (by decide) (by decide) I_n_t6.1 I_n_t6.2.1 I_n_t6.2.2.1 (fun q => absurd q (by decide)) (fun q => absurd q (by decide)) I_n_t6.2.2.2), (Nd_0 (by decide) Mo_nil), Stk_step (N := n) (pop := (11, n, t)) (new := [(12, n, 0)]) F0 C_t6.1.to2 (fun (h : nk 11 = false) => absurd h (by decide)) (fun q _ h => h (11, n, t) rfl) (fun _ => rfl) (fun y hy hk => ⟨rfl, (Mo_cons (fun q => show n ≤ n from by omega) Mo_nil) y hy hk⟩) (fun (h : 11 = 3 ∨ 11 = 18 ∨ 11 = 41) => absurd h (by decide)) (fun (h : 11 = 18) => absurd h (by decide)) (fun (h : 11 = 41 ∨ 11 = 42 ∨ 11 = 43) => absurd h (by decide)) r [] (fun y hy => absurd hy List.not_mem_nil) hS⟩
    · exact (Aj_sub (y := (12, n, 0)) hJ (Nat.le_of_ble_eq_true rfl))
    · show m_dp t6 = (dlt 12 + sD r)
      have : dlt 11 = 1 := rfl; have : dlt 12 = 1 := rfl; omega
    · show m_rw t6 = (rho 12 + sR r)
      have : rho 11 = 0 := rfl; have : rho 12 = 0 := rfl; omega
    · show m_md t6 + (mu7 12 + sM r) ≤ 3 * m_at t6 + 7 * (r.length + 1) + 10
      have : mu7 11 = 4 := rfl; have : mu7 12 = 5 := rfl; omega
    · show (wt 12 + sW r) + 6 * (4096 - m_at t6) + 4 * (600 - (r.length + 1)) < (wt 11 + sW r) + 6 * (4096 - m_at t0) + 4 * (600 - (r.length + 1))
      have : wt 11 = 0 := rfl; have : wt 12 = 1 := rfl; omega
  · refine Kp_pass C_t0 hT (by omega) (by decide) (by omega) (fun t7 C_t7 X_t7 a_t7 b_t7 d_t7 w_t7 u_t7 v_t7 j_t7 l_t7 => ?_)
    have e_t7 := C_t7.2.2.2.1
    rcases w_t7 with ⟨w_t7, y_t7⟩ | ⟨w_t7, wb_t7⟩
    · have z_t7 : m_at t0 < m_ct t0 := lo_ne (Nat.ne_of_gt (show 0 < lo t0 (m_at t0) from by omega))
      have I_n_t7 := I_n_t0.flat X_t7
      refine Ok_ck (show (m_dp t7) ≠ 0 from by omega) ?_
      refine Kp_dp C_t7 (fun t8 C_t8 X_t8 a_t8 b_t8 d_t8 w_t8 u_t8 v_t8 j_t8 l_t8 => ?_)
      have e_t8 := C_t8.2.2.2.1
      rw [a_t7] at a_t8
      rw [b_t7] at b_t8
      rw [d_t7] at d_t8
      rw [w_t7] at w_t8
      rw [u_t7] at u_t8
      rw [v_t7] at v_t8
      clear d_t7 w_t7 u_t7 v_t7 e_t7 a_t7 b_t7
      have I_n_t8 := I_n_t7.flat X_t8
      refine Ok_ret (show Ok _ _ _ from ?_)
      refine Ok_ret (show Ok _ _ _ from ?_)
      refine Hv_mk hK (C_t8.1.2.2.2.2.2.2 hTt) C_t8 hT (by omega) (by omega) (by omega) ?_ ?_ ?_ (by omega) ?_ ?_ ?_
      · exact Stk_step (N := n) (pop := (11, n, t)) (new := []) F0 C_t8.1.to2 (fun (h : nk 11 = false) => absurd h (by decide)) (fun q _ h => h (11, n, t) rfl) (fun _ => rfl) (fun y hy hk => ⟨rfl, Mo_nil (n := n) y hy hk⟩) (fun (h : 11 = 3 ∨ 11 = 18 ∨ 11 = 41) => absurd h (by decide)) (fun (h : 11 = 18) => absurd h (by decide)) (fun (h : 11 = 41 ∨ 11 = 42 ∨ 11 = 43) => absurd h (by decide)) r [] (fun y hy => absurd hy List.not_mem_nil) hS
      · exact Aj_tl hJ
      · show m_dp t8 = sD r
        have : dlt 11 = 1 := rfl; omega
      · show m_rw t8 = sR r
        have : rho 11 = 0 := rfl; omega
      · show m_md t8 + sM r ≤ 3 * m_at t8 + 7 * (r.length) + 10
        have : mu7 11 = 4 := rfl; omega
      · show sW r + 6 * (4096 - m_at t8) + 4 * (600 - (r.length)) < (wt 11 + sW r) + 6 * (4096 - m_at t0) + 4 * (600 - (r.length + 1))
        have : wt 11 = 0 := rfl; omega
    · have w_t7 := Nat.pos_of_ne_zero w_t7
      have I_n_t7 := I_n_t0.flat X_t7
      refine Ok_ck (show (m_dp t7) ≠ 0 from by omega) ?_
      refine Kp_dp C_t7 (fun t9 C_t9 X_t9 a_t9 b_t9 d_t9 w_t9 u_t9 v_t9 j_t9 l_t9 => ?_)
      have e_t9 := C_t9.2.2.2.1
      have I_n_t9 := I_n_t7.flat X_t9
      refine Ok_ret (show Ok _ _ _ from ?_)
      refine Ok_ret (show Ok _ _ _ from ?_)
      exact Or.inl ⟨Nat.ne_of_gt (show 0 < m_wr t9 from by omega), by omega, by omega, C_t9.2.2.2.2.2, by omega⟩

theorem S_12 {t0 : Mm} {n t : Nat} {r : List It} (H : Hp t0 (12, n, t) r) {E : Mm → Prop} : Ok (Qh (mz t0 ((12, n, t) :: r))) E (b_X6_step 12 n t t0) := by
  obtain ⟨hK, hT, hc, hw0, ha, hC, hS, hJ, hdp, hdl, hrw, hmd, htd, hln, hm16, hI, hD, hTt⟩ := Hp_out H
  have C_t0 := hC n
  have F0 := C_t0.2.1
  have I_n_t0 : Nq t0 n := ⟨(hI.2.1 rfl).1, (hI.2.1 rfl).2.1, (hI.2.1 rfl).2.2, hI.2.2.2 rfl⟩
  have m_n_t0 := I_n_t0.1
  have ht : t < 4096 := hI.1.1 (show 12 ≠ 42 by decide) (show 12 ≠ 48 by decide)
  have hdp : m_dp t0 = dlt 12 + sD r := hdp
  have hrw : m_rw t0 = rho 12 + sR r := hrw
  have hmd : m_md t0 + mu7 12 + sM r ≤ 3 * m_at t0 + 7 * r.length + 17 := hmd
  have hand : t &&& 1 ≤ 1 := Nat.and_le_right
  have h01 : (0 &&& 1 : Nat) = 0 := rfl
  have h02 : (1 : Nat) * 256 = 256 := rfl
  have hq1 : dlt 12 = 1 := rfl
  have hq2 : rho 12 = 0 := rfl
  have hq3 : mu7 12 = 5 := rfl
  unfold b_X6_step
  refine Ok_ifl (by decide) (by decide) (fun _ => ?_) (fun q => absurd (by decide) q)
  refine Ok_ifl (by decide) (by decide) (fun _ => ?_) (fun q => absurd (by decide) q)
  refine Ok_bnc ?_
  try unfold b_X6_value_
  refine Ok_ck (by decide) ?_
  refine Ok_ife (by decide) (by decide) (fun q => absurd q (by decide)) (fun _ => ?_)
  refine Ok_ife (by decide) (by decide) (fun q => absurd q (by decide)) (fun _ => ?_)
  refine Ok_ife (by decide) (by decide) (fun q => absurd q (by decide)) (fun _ => ?_)
  refine Ok_ife (by decide) (by decide) (fun q => absurd q (by decide)) (fun _ => ?_)
  refine Ok_ife (by decide) (by decide) (fun q => absurd q (by decide)) (fun _ => ?_)
  refine Ok_ife (by decide) (by decide) (fun q => absurd q (by decide)) (fun _ => ?_)
  refine Ok_ife (by decide) (by decide) (fun q => absurd q (by decide)) (fun _ => ?_)
  refine Ok_ife (by decide) (by decide) (fun _ => ?_) (fun q => absurd (by decide) q)
  refine Ok_bnc ?_
  try unfold b_X6_sliced
  refine Kp_look C_t0 hT (by omega) ?_
  refine Ok_ife (Nat.lt_trans (lo_lt (C_t0.tk hT) _) (by decide)) (by decide) (fun q3 => ?_) (fun q3 => ?_)
  · refine Kp_child C_t0 I_n_t0.1 I_n_t0.2.1 I_n_t0.2.2.1 (by omega) (by omega) (by decide) (by decide) (fun t4 C_t4 X_t4 a_t4 b_t4 d_t4 w_t4 u_t4 v_t4 j_t4 l_t4 => ?_)
    have e_t4 := C_t4.2.2.2.1
    have I_n_t4 := I_n_t0.chd X_t4 j_t4
    have f_n_t4 : Fz t4 n := j_t4.2.2.2.2.1
    have I_m_mdt0_t4 : Nq t4 (m_md t0) := Nq.chn j_t4 (by omega) I_n_t0 (by decide)
    have u_m_mdt0_t4 : Up t4 (m_md t0) := Or.inl j_t4.2.1
    have z_t5 : m_at t4 < m_ct t4 := lo_ne (Nat.ne_of_gt (show 0 < lo t4 (m_at t4) from by omega))
    refine Kp_at C_t4 (fun t5 C_t5 X_t5 a_t5 b_t5 d_t5 w_t5 u_t5 v_t5 j_t5 l_t5 => ?_)
    have e_t5 := C_t5.2.2.2.1
    rw [a_t4] at a_t5
    rw [b_t4] at b_t5
    rw [d_t4] at d_t5
    rw [w_t4] at w_t5
    rw [u_t4] at u_t5
    rw [v_t4] at v_t5
    rw [a_t4, e_t4] at z_t5
    clear d_t4 w_t4 u_t4 v_t4 e_t4 a_t4 b_t4
    have I_n_t5 := I_n_t4.flat X_t5
    have f_n_t5 := f_n_t4.ex I_n_t4 (X_t5 0)
    have I_m_mdt0_t5 := I_m_mdt0_t4.flat X_t5
    have u_m_mdt0_t5 := u_m_mdt0_t4.ex I_m_mdt0_t4 (X_t5 0)
    refine Ok_ck (show (m_dp t5) ≠ 0 from by omega) ?_
    refine Kp_dp C_t5 (fun t6 C_t6 X_t6 a_t6 b_t6 d_t6 w_t6 u_t6 v_t6 j_t6 l_t6 => ?_)
    have e_t6 := C_t6.2.2.2.1
    rw [a_t5] at a_t6
    rw [b_t5] at b_t6
    rw [d_t5] at d_t6
    rw [w_t5] at w_t6
    rw [u_t5] at u_t6
    rw [v_t5] at v_t6
    clear d_t5 w_t5 u_t5 v_t5 e_t5 a_t5 b_t5
    have I_n_t6 := I_n_t5.flat X_t6
    have f_n_t6 := f_n_t5.ex I_n_t5 (X_t6 0)
    have I_m_mdt0_t6 := I_m_mdt0_t5.flat X_t6
    have u_m_mdt0_t6 := u_m_mdt0_t5.ex I_m_mdt0_t5 (X_t6 0)
    refine Ok_ret (show Ok _ _ _ from ?_)
    refine Ok_ret (show Ok _ _ _ from ?_)
    refine Hv_mk hK (C_t6.1.2.2.2.2.2.2 hTt) C_t6 hT (by omega) (by omega) (by omega) ?_ ?_ ?_ (by omega) ?_ ?_ ?_
    · exact Stk_step (N := n) (pop := (12, n, t)) (new := []) F0 C_t6.1.to2 (fun (h : nk 12 = false) => absurd h (by decide)) (fun q _ h => h (12, n, t) rfl) (fun _ => rfl) (fun y hy hk => ⟨rfl, Mo_nil (n := n) y hy hk⟩) (fun (h : 12 = 3 ∨ 12 = 18 ∨ 12 = 41) => absurd h (by decide)) (fun (h : 12 = 18) => absurd h (by decide)) (fun (h : 12 = 41 ∨ 12 = 42 ∨ 12 = 43) => absurd h (by decide)) r [] (fun y hy => absurd hy List.not_mem_nil) hS
    · exact Aj_tl hJ
    · show m_dp t6 = sD r
      have : dlt 12 = 1 := rfl; omega
    · show m_rw t6 = sR r
      have : rho 12 = 0 := rfl; omega
    · show m_md t6 + sM r ≤ 3 * m_at t6 + 7 * (r.length) + 10
      have : mu7 12 = 5 := rfl; omega
    · show sW r + 6 * (4096 - m_at t6) + 4 * (600 - (r.length)) < (wt 12 + sW r) + 6 * (4096 - m_at t0) + 4 * (600 - (r.length + 1))
      have : wt 12 = 1 := rfl; omega
  · refine Kp_push C_t0 (by omega) (fun t7 C_t7 X_t7 a_t7 b_t7 d_t7 w_t7 u_t7 v_t7 j_t7 l_t7 => ?_)
    have e_t7 := C_t7.2.2.2.1
    have I_n_t7 := I_n_t0.flat X_t7
    refine Ok_bnc ?_
    try unfold b_X6_expression
    refine Kp_push C_t7 (by omega) (fun t9 C_t9 X_t9 a_t9 b_t9 d_t9 w_t9 u_t9 v_t9 j_t9 l_t9 => ?_)
    have e_t9 := C_t9.2.2.2.1
    rw [a_t7] at a_t9
    rw [b_t7] at b_t9
    rw [d_t7] at d_t9
    rw [w_t7] at w_t9
    rw [u_t7] at u_t9
    rw [v_t7] at v_t9
    clear d_t7 w_t7 u_t7 v_t7 e_t7 a_t7 b_t7
    have I_n_t9 := I_n_t7.flat X_t9
    refine Kp_push C_t9 (by omega) (fun t10 C_t10 X_t10 a_t10 b_t10 d_t10 w_t10 u_t10 v_t10 j_t10 l_t10 => ?_)
    have e_t10 := C_t10.2.2.2.1
    rw [a_t9] at a_t10
    rw [b_t9] at b_t10
    rw [d_t9] at d_t10
    rw [w_t9] at w_t10
    rw [u_t9] at u_t10
    rw [v_t9] at v_t10
    clear d_t9 w_t9 u_t9 v_t9 e_t9 a_t9 b_t9
    have I_n_t10 := I_n_t9.flat X_t10
    refine Ok_ret (show Ok _ _ _ from ?_)
    refine Ok_ret (show Ok _ _ _ from ?_)
    refine Ok_ret (show Ok _ _ _ from ?_)
    refine Hv_mk (Kv_c (x := (3, n, 0)) rfl (Kv_c (x := (2, n, 0 ||| (1 * 256))) rfl (Kv_c (x := (13, n, 0)) rfl hK))) (C_t10.1.2.2.2.2.2.2 hTt) C_t10 hT (by omega) (by omega) (by omega) ?_ ?_ ?_ (by omega) ?_ ?_ ?_
    · exact ⟨(Io_n (by decide) (by decide) I_n_t10.1 I_n_t10.2.1 I_n_t10.2.2.1 (fun q => absurd q (by decide)) (fun q => absurd q (by decide)) I_n_t10.2.2.2), (Nd_0 (by decide) Mo_nil), ⟨(Io_2 (by have := or_256 (b := 1) (show 0 < 256 from by omega); omega) (by have := or_256 (b := 1) (show 0 < 256 from by omega); omega) (by have := or_256 (b := 1) (show 0 < 256 from by omega); omega) I_n_t10.1 I_n_t10.2.1 I_n_t10.2.2.1 I_n_t10.2.2.2), (Nd_A (by decide) (Mo_cons (fun q => show n ≤ n from by omega) Mo_nil) (Or.inr ⟨(3, n, 0), List.mem_cons_self, rfl, Or.inl rfl⟩)), ⟨(Io_n (by decide) (by decide) I_n_t10.1 I_n_t10.2.1 I_n_t10.2.2.1 (fun q => absurd q (by decide)) (fun q => absurd q (by decide)) I_n_t10.2.2.2), (Nd_0 (by decide) (Mo_cons (fun q => show n ≤ n from by omega) (Mo_cons (fun q => show n ≤ n from by omega) Mo_nil))), Stk_step (N := n) (pop := (12, n, t)) (new := [(13, n, 0), (2, n, 0 ||| (1 * 256)), (3, n, 0)]) F0 C_t10.1.to2 (fun (h : nk 12 = false) => absurd h (by decide)) (fun q _ h => h (12, n, t) rfl) (fun _ => rfl) (fun y hy hk => ⟨rfl, (Mo_cons (fun q => show n ≤ n from by omega) (Mo_cons (fun q => show n ≤ n from by omega) (Mo_cons (fun q => show n ≤ n from by omega) Mo_nil))) y hy hk⟩) (fun (h : 12 = 3 ∨ 12 = 18 ∨ 12 = 41) => absurd h (by decide)) (fun (h : 12 = 18) => absurd h (by decide)) (fun (h : 12 = 41 ∨ 12 = 42 ∨ 12 = 43) => absurd h (by decide)) r [] (fun y hy => absurd hy List.not_mem_nil) hS⟩⟩⟩
    · exact (Aj_up (x := (3, n, 0)) (Aj_up (x := (2, n, 0 ||| (1 * 256))) (Aj_sub (y := (13, n, 0)) hJ (Nat.le_of_ble_eq_true rfl)) (Or.inl (Nat.le_of_ble_eq_true rfl))) (Or.inr (show 2 < 9 - (0 ||| (1 * 256)) / 256 from by have := or_256 (b := 1) (show 0 < 256 from by omega); omega)))
    · show m_dp t10 = (dlt 3 + (dlt 2 + (dlt 13 + sD r)))
      have : dlt 12 = 1 := rfl; have : dlt 13 = 1 := rfl; have : dlt 2 = 0 := rfl; have : dlt 3 = 0 := rfl; omega
    · show m_rw t10 = (rho 3 + (rho 2 + (rho 13 + sR r)))
      have : rho 12 = 0 := rfl; have : rho 13 = 0 := rfl; have : rho 2 = 0 := rfl; have : rho 3 = 0 := rfl; omega
    · show m_md t10 + (mu7 3 + (mu7 2 + (mu7 13 + sM r))) ≤ 3 * m_at t10 + 7 * (r.length + 1 + 1 + 1) + 10
      have : mu7 12 = 5 := rfl; have : mu7 13 = 4 := rfl; have : mu7 2 = 7 := rfl; have : mu7 3 = 5 := rfl; omega
    · show (wt 3 + (wt 2 + (wt 13 + sW r))) + 6 * (4096 - m_at t10) + 4 * (600 - (r.length + 1 + 1 + 1)) < (wt 12 + sW r) + 6 * (4096 - m_at t0) + 4 * (600 - (r.length + 1))
      have : wt 12 = 1 := rfl; have : wt 13 = 0 := rfl; have : wt 2 = 5 := rfl; have : wt 3 = 3 := rfl; omega

