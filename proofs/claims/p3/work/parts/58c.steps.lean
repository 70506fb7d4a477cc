/-! The steps of the reference, one by one. -/
theorem S_4_t78 {t0 : Mm} {n t : Nat} {r : List It} (H : Hp t0 (4, n, t) r) {E : Mm → Prop} (hk0 : lo t0 (m_at t0) = 78) : Ok (Qh (mz t0 ((4, n, t) :: r))) E (b_X6_step 4 n t t0) := by
  obtain ⟨hK, hT, hc, hw0, ha, hC, hS, hJ, hdp, hdl, hrw, hmd, htd, hln, hm16, hI, hD, hTt⟩ := Hp_out H
  have C_t0 := hC n
  have F0 := C_t0.2.1
  have I_n_t0 : Nq t0 n := ⟨(hI.2.1 rfl).1, (hI.2.1 rfl).2.1, (hI.2.1 rfl).2.2, hI.2.2.2 rfl⟩
  have m_n_t0 := I_n_t0.1
  have ht : t < 4096 := hI.1.1 (show 4 ≠ 42 by decide) (show 4 ≠ 48 by decide)
  have hdp : m_dp t0 = dlt 4 + sD r := hdp
  have hrw : m_rw t0 = rho 4 + sR r := hrw
  have hmd : m_md t0 + mu7 4 + sM r ≤ 3 * m_at t0 + 7 * r.length + 17 := hmd
  have hand : t &&& 1 ≤ 1 := Nat.and_le_right
  have h01 : (0 &&& 1 : Nat) = 0 := rfl
  have h02 : (1 : Nat) * 256 = 256 := rfl
  have hq1 : dlt 4 = 0 := rfl
  have hq2 : rho 4 = 0 := rfl
  have hq3 : mu7 4 = 7 := rfl
  have f_n_t0 : Fz t0 n := (hD.2.1 (show 4 = 2 ∨ 4 = 4 ∨ 4 = 42 ∨ 4 = 50 by decide)).resolve_right (fun ⟨y, hy, _⟩ => absurd hy List.not_mem_nil)
  unfold b_X6_step
  refine Ok_ifl (by decide) (by decide) (fun q => absurd q (by decide)) (fun _ => ?_)
  refine Ok_ife (by decide) (by decide) (fun q => absurd q (by decide)) (fun _ => ?_)
  refine Ok_ife (by decide) (by decide) (fun q => absurd q (by decide)) (fun _ => ?_)
  refine Ok_bnc ?_
  try unfold b_X6_postfix
  refine Kp_look C_t0 hT (by omega) ?_
  refine Ok_ife (Nat.lt_trans (lo_lt (C_t0.tk hT) _) (by decide)) (by decide) (fun q => absurd (hk0.symm.trans q) (by decide)) (fun _ => ?_)
  refine Ok_ife (Nat.lt_trans (lo_lt (C_t0.tk hT) _) (by decide)) (by decide) (fun q => absurd (hk0.symm.trans q) (by decide)) (fun _ => ?_)
  refine Ok_ife (Nat.lt_trans (lo_lt (C_t0.tk hT) _) (by decide)) (by decide) (fun q => ?_) (fun q => absurd hk0 q)
  refine Kp_wrap C_t0 I_n_t0.1 I_n_t0.2.1 f_n_t0 I_n_t0.2.2.1 (by omega) (by omega) (by decide) (fun t2 C_t2 X_t2 a_t2 b_t2 d_t2 w_t2 u_t2 v_t2 j_t2 l_t2 => ?_)
  have e_t2 := C_t2.2.2.2.1
  have I_n_t2 := I_n_t0.le X_t2 (by omega)
  have f_n_t2 := f_n_t0.ex I_n_t0 (X_t2 0 (Nat.zero_le _))
  have I_m_mdt0_t2 : Nq t2 (m_md t0) := Nq.wrn j_t2 (by omega) I_n_t0 (by decide)
  have f_m_mdt0_t2 : Fz t2 (m_md t0) := by unfold Fz; rw [j_t2.2.1]; exact j_t2.2.2.1
  refine Kp_more C_t2 (by omega) (by omega) (fun t3 C_t3 X_t3 a_t3 b_t3 d_t3 w_t3 u_t3 v_t3 j_t3 l_t3 => ?_)
  have e_t3 := C_t3.2.2.2.1
  rcases w_t3 with ⟨w_t3, y_t3⟩ | ⟨w_t3, wb_t3⟩
  · rw [a_t2] at a_t3
    rw [b_t2] at b_t3
    rw [d_t2] at d_t3
    rw [w_t2] at w_t3
    rw [u_t2] at u_t3
    rw [v_t2] at v_t3
    rw [d_t3] at y_t3
    clear d_t2 w_t2 u_t2 v_t2 e_t2 a_t2 b_t2
    have I_n_t3 := I_n_t2.flat X_t3
    have f_n_t3 := f_n_t2.ex I_n_t2 (X_t3 0)
    have I_m_mdt0_t3 := I_m_mdt0_t2.flat X_t3
    have f_m_mdt0_t3 := f_m_mdt0_t2.ex I_m_mdt0_t2 (X_t3 0)
    have z_t4 : m_at t3 < m_ct t3 := lo_ne (Nat.ne_of_gt (show 0 < lo t3 (m_at t3) from by omega))
    refine Kp_at C_t3 (fun t4 C_t4 X_t4 a_t4 b_t4 d_t4 w_t4 u_t4 v_t4 j_t4 l_t4 => ?_)
    have e_t4 := C_t4.2.2.2.1
    rw [a_t3] at a_t4
    rw [b_t3] at b_t4
    rw [d_t3] at d_t4
    rw [w_t3] at w_t4
    rw [u_t3] at u_t4
    rw [v_t3] at v_t4
    rw [a_t3, e_t3] at z_t4
    clear d_t3 w_t3 u_t3 v_t3 e_t3 a_t3 b_t3
    have I_n_t4 := I_n_t3.flat X_t4
    have f_n_t4 := f_n_t3.ex I_n_t3 (X_t4 0)
    have I_m_mdt0_t4 := I_m_mdt0_t3.flat X_t4
    have f_m_mdt0_t4 := f_m_mdt0_t3.ex I_m_mdt0_t3 (X_t4 0)
    refine Kp_push C_t4 (by omega) (fun t5 C_t5 X_t5 a_t5 b_t5 d_t5 w_t5 u_t5 v_t5 j_t5 l_t5 => ?_)
    have e_t5 := C_t5.2.2.2.1
    rw [a_t4] at a_t5
    rw [b_t4] at b_t5
    rw [d_t4] at d_t5
    rw [w_t4] at w_t5
    rw [u_t4] at u_t5
    rw [v_t4] at v_t5
    clear d_t4 w_t4 u_t4 v_t4 e_t4 a_t4 b_t4
    have I_n_t5 := I_n_t4.flat X_t5
    have f_n_t5 := f_n_t4.ex I_n_t4 (X_t5 0)
    have I_m_mdt0_t5 := I_m_mdt0_t4.flat X_t5
    have f_m_mdt0_t5 := f_m_mdt0_t4.ex I_m_mdt0_t4 (X_t5 0)
    refine Kp_push C_t5 (by omega) (fun t6 C_t6 X_t6 a_t6 b_t6 d_t6 w_t6 u_t6 v_t6 j_t6 l_t6 => ?_)
    have e_t6 := C_t6.2.2.2.1
    rw [a_t5] at a_t6
    rw [b_t5] at b_t6
    rw [d_t5] at d_t6
    rw [w_t5] at w_t6
    rw [u_t5] at u_t6
    rw [v_t5] at v_t6
    clear d_t5 w_t5 u_t5 v_t5 e_t5 a_t5 b_t5
    have I_n_t6 := I_n_t5.flat X_t6
    have f_n_t6 := f_n_t5.ex I_n_t5 (X_t6 0)
    have I_m_mdt0_t6 := I_m_mdt0_t5.flat X_t6
    have f_m_mdt0_t6 := f_m_mdt0_t5.ex I_m_mdt0_t5 (X_t6 0)
    refine Ok_ret (show Ok _ _ _ from ?_)
    refine Hv_mk (Kv_c (x := (9, m_md t0, 0)) rfl (Kv_c (x := (4, n, t)) rfl hK)) (C_t6.1.2.2.2.2.2.2 hTt) C_t6 hT (by omega) (by omega) (by omega) ?_ ?_ ?_ (by omega) ?_ ?_ ?_
    · exact ⟨(Io_n (by decide) (by decide) I_m_mdt0_t6.1 I_m_mdt0_t6.2.1 I_m_mdt0_t6.2.2.1 (fun q => absurd q (by decide)) (fun q => absurd q (by decide)) I_m_mdt0_t6.2.2.2), (Nd_0 (by decide) Mo_nil), ⟨(Io_n (by decide) (show t < 4096 from by omega) I_n_t6.1 I_n_t6.2.1 I_n_t6.2.2.1 (fun q => absurd q (by decide)) (fun q => absurd q (by decide)) I_n_t6.2.2.2), (Nd_A (by decide) (Mo_cons (fun q => show n ≤ m_md t0 from by omega) Mo_nil) (Or.inl f_n_t6)), Stk_step (N := n) (pop := (4, n, t)) (new := [(4, n, t), (9, m_md t0, 0)]) F0 C_t6.1.to2 (fun (h : nk 4 = false) => absurd h (by decide)) (fun q _ h => h (4, n, t) rfl) (fun _ => rfl) (fun y hy hk => ⟨rfl, (Mo_cons (fun q => show n ≤ n from by omega) (Mo_cons (fun q => show n ≤ m_md t0 from by omega) Mo_nil)) y hy hk⟩) (fun (h : 4 = 3 ∨ 4 = 18 ∨ 4 = 41) => absurd h (by decide)) (fun (h : 4 = 18) => absurd h (by decide)) (fun (h : 4 = 41 ∨ 4 = 42 ∨ 4 = 43) => absurd h (by decide)) r [] (fun y hy => absurd hy List.not_mem_nil) hS⟩⟩
    · exact (Aj_up (x := (9, m_md t0, 0)) (Aj_sub (y := (4, n, t)) hJ (Nat.le_of_ble_eq_true rfl)) (Or.inr (Nat.le_of_ble_eq_true rfl)))
    · show m_dp t6 = (dlt 9 + (dlt 4 + sD r))
      have : dlt 4 = 0 := rfl; have : dlt 9 = 1 := rfl; omega
    · show m_rw t6 = (rho 9 + (rho 4 + sR r))
      have : rho 4 = 0 := rfl; have : rho 9 = 0 := rfl; omega
    · show m_md t6 + (mu7 9 + (mu7 4 + sM r)) ≤ 3 * m_at t6 + 7 * (r.length + 1 + 1) + 10
      have : mu7 4 = 7 := rfl; have : mu7 9 = 4 := rfl; omega
    · show (wt 9 + (wt 4 + sW r)) + 6 * (4096 - m_at t6) + 4 * (600 - (r.length + 1 + 1)) < (wt 4 + sW r) + 6 * (4096 - m_at t0) + 4 * (600 - (r.length + 1))
      have : wt 4 = 5 := rfl; have : wt 9 = 1 := rfl; omega
  · have w_t3 := Nat.pos_of_ne_zero w_t3
    have I_n_t3 := I_n_t2.flat X_t3
    have f_n_t3 := f_n_t2.ex I_n_t2 (X_t3 0)
    have I_m_mdt0_t3 := I_m_mdt0_t2.flat X_t3
    have f_m_mdt0_t3 := f_m_mdt0_t2.ex I_m_mdt0_t2 (X_t3 0)
    refine Kp_at C_t3 (fun t7 C_t7 X_t7 a_t7 b_t7 d_t7 w_t7 u_t7 v_t7 j_t7 l_t7 => ?_)
    have e_t7 := C_t7.2.2.2.1
    have I_n_t7 := I_n_t3.flat X_t7
    have f_n_t7 := f_n_t3.ex I_n_t3 (X_t7 0)
    have I_m_mdt0_t7 := I_m_mdt0_t3.flat X_t7
    have f_m_mdt0_t7 := f_m_mdt0_t3.ex I_m_mdt0_t3 (X_t7 0)
    refine Kp_push C_t7 (by omega) (fun t8 C_t8 X_t8 a_t8 b_t8 d_t8 w_t8 u_t8 v_t8 j_t8 l_t8 => ?_)
    have e_t8 := C_t8.2.2.2.1
    have I_n_t8 := I_n_t7.flat X_t8
    have f_n_t8 := f_n_t7.ex I_n_t7 (X_t8 0)
    have I_m_mdt0_t8 := I_m_mdt0_t7.flat X_t8
    have f_m_mdt0_t8 := f_m_mdt0_t7.ex I_m_mdt0_t7 (X_t8 0)
    refine Kp_push C_t8 (by omega) (fun t9 C_t9 X_t9 a_t9 b_t9 d_t9 w_t9 u_t9 v_t9 j_t9 l_t9 => ?_)
    have e_t9 := C_t9.2.2.2.1
    have I_n_t9 := I_n_t8.flat X_t9
    have f_n_t9 := f_n_t8.ex I_n_t8 (X_t9 0)
    have I_m_mdt0_t9 := I_m_mdt0_t8.flat X_t9
    have f_m_mdt0_t9 := f_m_mdt0_t8.ex I_m_mdt0_t8 (X_t9 0)
    refine Ok_ret (show Ok _ _ _ from ?_)
    exact Or.inl ⟨Nat.ne_of_gt (show 0 < m_wr t9 from by omega), by omega, by omega, C_t9.2.2.2.2.2, by omega⟩

theorem S_4_o {t0 : Mm} {n t : Nat} {r : List It} (H : Hp t0 (4, n, t) r) {E : Mm → Prop} (hk0 : lo t0 (m_at t0) ≠ 86) (hk1 : lo t0 (m_at t0) ≠ 80) (hk2 : lo t0 (m_at t0) ≠ 78) : Ok (Qh (mz t0 ((4, n, t) :: r))) E (b_X6_step 4 n t t0) := by
  obtain ⟨hK, hT, hc, hw0, ha, hC, hS, hJ, hdp, hdl, hrw, hmd, htd, hln, hm16, hI, hD, hTt⟩ := Hp_out H
  have C_t0 := hC n
  have F0 := C_t0.2.1
  have I_n_t0 : Nq t0 n := ⟨(hI.2.1 rfl).1, (hI.2.1 rfl).2.1, (hI.2.1 rfl).2.2, hI.2.2.2 rfl⟩
  have m_n_t0 := I_n_t0.1
  have ht : t < 4096 := hI.1.1 (show 4 ≠ 42 by decide) (show 4 ≠ 48 by decide)
  have hdp : m_dp t0 = dlt 4 + sD r := hdp
  have hrw : m_rw t0 = rho 4 + sR r := hrw
  have hmd : m_md t0 + mu7 4 + sM r ≤ 3 * m_at t0 + 7 * r.length + 17 := hmd
  have hand : t &&& 1 ≤ 1 := Nat.and_le_right
  have h01 : (0 &&& 1 : Nat) = 0 := rfl
  have h02 : (1 : Nat) * 256 = 256 := rfl
  have hq1 : dlt 4 = 0 := rfl
  have hq2 : rho 4 = 0 := rfl
  have hq3 : mu7 4 = 7 := rfl
  have f_n_t0 : Fz t0 n := (hD.2.1 (show 4 = 2 ∨ 4 = 4 ∨ 4 = 42 ∨ 4 = 50 by decide)).resolve_right (fun ⟨y, hy, _⟩ => absurd hy List.not_mem_nil)
  unfold b_X6_step
  refine Ok_ifl (by decide) (by decide) (fun q => absurd q (by decide)) (fun _ => ?_)
  refine Ok_ife (by decide) (by decide) (fun q => absurd q (by decide)) (fun _ => ?_)
  refine Ok_ife (by decide) (by decide) (fun q => absurd q (by decide)) (fun _ => ?_)
  refine Ok_bnc ?_
  try unfold b_X6_postfix
  refine Kp_look C_t0 hT (by omega) ?_
  refine Ok_ife (Nat.lt_trans (lo_lt (C_t0.tk hT) _) (by decide)) (by decide) (fun q => absurd q hk0) (fun q => ?_)
  refine Ok_ife (Nat.lt_trans (lo_lt (C_t0.tk hT) _) (by decide)) (by decide) (fun q => absurd q hk1) (fun q => ?_)
  refine Ok_ife (Nat.lt_trans (lo_lt (C_t0.tk hT) _) (by decide)) (by decide) (fun q => absurd q hk2) (fun q => ?_)
  refine Ok_ret (show Ok _ _ _ from ?_)
  refine Hv_mk hK (C_t0.1.2.2.2.2.2.2 hTt) C_t0 hT (by omega) (by omega) (by omega) ?_ ?_ ?_ (by omega) ?_ ?_ ?_
  · exact Stk_step (N := n) (pop := (4, n, t)) (new := []) F0 C_t0.1.to2 (fun (h : nk 4 = false) => absurd h (by decide)) (fun q _ h => h (4, n, t) rfl) (fun _ => rfl) (fun y hy hk => ⟨rfl, Mo_nil (n := n) y hy hk⟩) (fun (h : 4 = 3 ∨ 4 = 18 ∨ 4 = 41) => absurd h (by decide)) (fun (h : 4 = 18) => absurd h (by decide)) (fun (h : 4 = 41 ∨ 4 = 42 ∨ 4 = 43) => absurd h (by decide)) r [] (fun y hy => absurd hy List.not_mem_nil) hS
  · exact Aj_tl hJ
  · show m_dp t0 = sD r
    have : dlt 4 = 0 := rfl; omega
  · show m_rw t0 = sR r
    have : rho 4 = 0 := rfl; omega
  · show m_md t0 + sM r ≤ 3 * m_at t0 + 7 * (r.length) + 10
    have : mu7 4 = 7 := rfl; omega
  · show sW r + 6 * (4096 - m_at t0) + 4 * (600 - (r.length)) < (wt 4 + sW r) + 6 * (4096 - m_at t0) + 4 * (600 - (r.length + 1))
    have : wt 4 = 5 := rfl; omega

theorem S_4 {t0 : Mm} {n t : Nat} {r : List It} (H : Hp t0 (4, n, t) r) {E : Mm → Prop} : Ok (Qh (mz t0 ((4, n, t) :: r))) E (b_X6_step 4 n t t0) := by
  by_cases h86 : lo t0 (m_at t0) = 86
  · exact S_4_t86 H h86
  by_cases h80 : lo t0 (m_at t0) = 80
  · exact S_4_t80 H h80
  by_cases h78 : lo t0 (m_at t0) = 78
  · exact S_4_t78 H h78
  exact S_4_o H h86 h80 h78

theorem S_5 {t0 : Mm} {n t : Nat} {r : List It} (H : Hp t0 (5, n, t) r) {E : Mm → Prop} : Ok (Qh (mz t0 ((5, n, t) :: r))) E (b_X6_step 5 n t t0) := by
  obtain ⟨hK, hT, hc, hw0, ha, hC, hS, hJ, hdp, hdl, hrw, hmd, htd, hln, hm16, hI, hD, hTt⟩ := Hp_out H
  have C_t0 := hC n
  have F0 := C_t0.2.1
  have I_n_t0 : Nq t0 n := ⟨(hI.2.1 rfl).1, (hI.2.1 rfl).2.1, (hI.2.1 rfl).2.2, hI.2.2.2 rfl⟩
  have m_n_t0 := I_n_t0.1
  have ht : t < 4096 := hI.1.1 (show 5 ≠ 42 by decide) (show 5 ≠ 48 by decide)
  have hdp : m_dp t0 = dlt 5 + sD r := hdp
  have hrw : m_rw t0 = rho 5 + sR r := hrw
  have hmd : m_md t0 + mu7 5 + sM r ≤ 3 * m_at t0 + 7 * r.length + 17 := hmd
  have hand : t &&& 1 ≤ 1 := Nat.and_le_right
  have h01 : (0 &&& 1 : Nat) = 0 := rfl
  have h02 : (1 : Nat) * 256 = 256 := rfl
  have hq1 : dlt 5 = 0 := rfl
  have hq2 : rho 5 = 0 := rfl
  have hq3 : mu7 5 = 7 := rfl
  obtain ⟨f5, -, h521⟩ : N5 t0 n [] := (hD.2.2.1 rfl).resolve_left (fun ⟨_, h⟩ => by cases h)
  have f_n_t0 : Fz t0 n := f5
  have h21 : m_wh t0 (m_la t0 n - 1) = 21 → m_fi t0 (m_la t0 n - 1) ≠ 0 := fun q => (h521 q).resolve_right (fun ⟨y, hy, _⟩ => absurd hy List.not_mem_nil)
  obtain ⟨hla0, hla2, -, -⟩ := Fo_lp F0 I_n_t0 f_n_t0
  have hla1 : m_la t0 n - 1 < m_md t0 := by omega
  unfold b_X6_step
  refine Ok_ifl (by decide) (by decide) (fun _ => ?_) (fun q => absurd (by decide) q)
  refine Ok_ifl (by decide) (by decide) (fun _ => ?_) (fun q => absurd (by decide) q)
  refine Ok_bnc ?_
  try unfold b_X6_value_
  refine Ok_ck (by decide) ?_
  refine Ok_ife (by decide) (by decide) (fun _ => ?_) (fun q => absurd (by decide) q)
  refine Ok_bnc ?_
  try unfold b_X6_literal
  refine Ok_ck (show n < 65536 from by omega) ?_
  refine Ok_ck (show (m_la t0 n) ≠ 0 from by omega) ?_
  refine Ok_ck (show ((m_la t0 n) - 1) < 65536 from by omega) ?_
  refine Ok_ife (Nat.lt_trans (C_t0.2.2.2.2.2.2.1 _) (by decide)) (by decide) (fun q3 => ?_) (fun q3 => ?_)
  · refine Ok_ck (show ((m_la t0 n) - 1) < 65536 from by omega) ?_
    refine Ok_ck (h21 q3) ?_
    refine Ok_ck (by have := (F0 _ hla1).1; omega) ?_
    refine Ok_ife (Nat.lt_trans (C_t0.2.2.2.2.2.2.1 _) (by decide)) (by decide) (fun q4 => ?_) (fun q4 => ?_)
    · try unfold lp_X6_literal_45
      refine Ok_ife (Nat.lt_trans (C_t0.2.2.2.2.2.2.1 _) (by decide)) (by decide) (fun q => absurd (q3.symm.trans q) (by decide)) (fun _ => ?_)
      try unfold lp_X6_literal_59
      refine Ok_ifl (Nat.lt_trans (C_t0.2.2.2.2.2.2.1 _) (by decide)) (by decide) (fun q5 => ?_) (fun q5 => ?_)
      · try unfold lp_X6_literal_73
        refine Ok_ife (Nat.lt_trans (C_t0.2.2.2.2.2.2.1 _) (by decide)) (by decide) (fun q => absurd (q3.symm.trans q) (by decide)) (fun _ => ?_)
        try unfold lp_X6_literal_87
        refine Kp_look C_t0 hT (by omega) ?_
        refine Ok_ife (Nat.lt_trans (lo_lt (C_t0.tk hT) _) (by decide)) (by decide) (fun q6 => ?_) (fun q6 => ?_)
        · refine Ok_ifz0 ?_
          try unfold lp_X6_literal_101
          refine Ok_ifz1 ?_
          refine Kp_error C_t0 (by omega) (fun t7 C_t7 X_t7 a_t7 b_t7 d_t7 w_t7 u_t7 v_t7 j_t7 l_t7 => ?_)
          have wb_t7 := w_t7.2
          have w_t7 := Nat.pos_of_ne_zero w_t7.1
          have e_t7 := C_t7.2.2.2.1
          have I_n_t7 := I_n_t0.flat X_t7
          have f_n_t7 := f_n_t0.ex I_n_t0 (X_t7 0)
          refine Ok_ret (show Ok _ _ _ from ?_)
          refine Ok_ret (show Ok _ _ _ from ?_)
          exact Or.inl ⟨Nat.ne_of_gt (show 0 < m_wr t7 from by omega), by omega, by omega, C_t7.2.2.2.2.2, by omega⟩
        · try unfold lp_X6_literal_101
          refine Ok_ifz1 ?_
          refine Kp_error C_t0 (by omega) (fun t8 C_t8 X_t8 a_t8 b_t8 d_t8 w_t8 u_t8 v_t8 j_t8 l_t8 => ?_)
          have wb_t8 := w_t8.2
          have w_t8 := Nat.pos_of_ne_zero w_t8.1
          have e_t8 := C_t8.2.2.2.1
          have I_n_t8 := I_n_t0.flat X_t8
          have f_n_t8 := f_n_t0.ex I_n_t0 (X_t8 0)
          refine Ok_ret (show Ok _ _ _ from ?_)
          refine Ok_ret (show Ok _ _ _ from ?_)
          exact Or.inl ⟨Nat.ne_of_gt (show 0 < m_wr t8 from by omega), by omega, by omega, C_t8.2.2.2.2.2, by omega⟩
      · refine Ok_ifl (by decide) (Nat.lt_trans (C_t0.2.2.2.2.2.2.1 _) (by decide)) (fun q9 => ?_) (fun q9 => ?_)
        · try unfold lp_X6_literal_73
          refine Ok_ife (Nat.lt_trans (C_t0.2.2.2.2.2.2.1 _) (by decide)) (by decide) (fun q => absurd (q3.symm.trans q) (by decide)) (fun _ => ?_)
          try unfold lp_X6_literal_87
          refine Kp_look C_t0 hT (by omega) ?_
          refine Ok_ife (Nat.lt_trans (lo_lt (C_t0.tk hT) _) (by decide)) (by decide) (fun q10 => ?_) (fun q10 => ?_)
          · refine Ok_ifz0 ?_
            try unfold lp_X6_literal_101
            refine Ok_ifz1 ?_
            refine Kp_error C_t0 (by omega) (fun t11 C_t11 X_t11 a_t11 b_t11 d_t11 w_t11 u_t11 v_t11 j_t11 l_t11 => ?_)
            have wb_t11 := w_t11.2
            have w_t11 := Nat.pos_of_ne_zero w_t11.1
            have e_t11 := C_t11.2.2.2.1
            have I_n_t11 := I_n_t0.flat X_t11
            have f_n_t11 := f_n_t0.ex I_n_t0 (X_t11 0)
            refine Ok_ret (show Ok _ _ _ from ?_)
            refine Ok_ret (show Ok _ _ _ from ?_)
            exact Or.inl ⟨Nat.ne_of_gt (show 0 < m_wr t11 from by omega), by omega, by omega, C_t11.2.2.2.2.2, by omega⟩
          · try unfold lp_X6_literal_101
            refine Ok_ifz1 ?_
            refine Kp_error C_t0 (by omega) (fun t12 C_t12 X_t12 a_t12 b_t12 d_t12 w_t12 u_t12 v_t12 j_t12 l_t12 => ?_)
            have wb_t12 := w_t12.2
            have w_t12 := Nat.pos_of_ne_zero w_t12.1
            have e_t12 := C_t12.2.2.2.1
            have I_n_t12 := I_n_t0.flat X_t12
            have f_n_t12 := f_n_t0.ex I_n_t0 (X_t12 0)
            refine Ok_ret (show Ok _ _ _ from ?_)
            refine Ok_ret (show Ok _ _ _ from ?_)
            exact Or.inl ⟨Nat.ne_of_gt (show 0 < m_wr t12 from by omega), by omega, by omega, C_t12.2.2.2.2.2, by omega⟩
        · try unfold lp_X6_literal_80
          try unfold lp_X6_literal_87
          refine Kp_look C_t0 hT (by omega) ?_
          refine Ok_ife (Nat.lt_trans (lo_lt (C_t0.tk hT) _) (by decide)) (by decide) (fun q13 => ?_) (fun q13 => ?_)
          · refine Ok_ifz1 ?_
            refine Kp_wrap C_t0 I_n_t0.1 I_n_t0.2.1 f_n_t0 I_n_t0.2.2.1 (by omega) (by omega) (by decide) (fun t14 C_t14 X_t14 a_t14 b_t14 d_t14 w_t14 u_t14 v_t14 j_t14 l_t14 => ?_)
            have e_t14 := C_t14.2.2.2.1
            have I_n_t14 := I_n_t0.le X_t14 (by omega)
            have f_n_t14 := f_n_t0.ex I_n_t0 (X_t14 0 (Nat.zero_le _))
            have I_m_mdt0_t14 : Nq t14 (m_md t0) := Nq.wrn j_t14 (by omega) I_n_t0 (by decide)
            have f_m_mdt0_t14 : Fz t14 (m_md t0) := by unfold Fz; rw [j_t14.2.1]; exact j_t14.2.2.1
            refine Kp_more C_t14 (by omega) (by omega) (fun t15 C_t15 X_t15 a_t15 b_t15 d_t15 w_t15 u_t15 v_t15 j_t15 l_t15 => ?_)
            have e_t15 := C_t15.2.2.2.1
            rcases w_t15 with ⟨w_t15, y_t15⟩ | ⟨w_t15, wb_t15⟩
            · rw [a_t14] at a_t15
              rw [b_t14] at b_t15
              rw [d_t14] at d_t15
              rw [w_t14] at w_t15
              rw [u_t14] at u_t15
              rw [v_t14] at v_t15
              rw [d_t15] at y_t15
              clear d_t14 w_t14 u_t14 v_t14 e_t14 a_t14 b_t14
              have I_n_t15 := I_n_t14.flat X_t15
              have f_n_t15 := f_n_t14.ex I_n_t14 (X_t15 0)
              have I_m_mdt0_t15 := I_m_mdt0_t14.flat X_t15
              have f_m_mdt0_t15 := f_m_mdt0_t14.ex I_m_mdt0_t14 (X_t15 0)
              have z_t16 : m_at t15 < m_ct t15 := lo_ne (Nat.ne_of_gt (show 0 < lo t15 (m_at t15) from by omega))
              refine Kp_at C_t15 (fun t16 C_t16 X_t16 a_t16 b_t16 d_t16 w_t16 u_t16 v_t16 j_t16 l_t16 => ?_)
              have e_t16 := C_t16.2.2.2.1
              rw [a_t15] at a_t16
              rw [b_t15] at b_t16
              rw [d_t15] at d_t16
              rw [w_t15] at w_t16
              rw [u_t15] at u_t16
              rw [v_t15] at v_t16
              rw [a_t15, e_t15] at z_t16
              clear d_t15 w_t15 u_t15 v_t15 e_t15 a_t15 b_t15
              have I_n_t16 := I_n_t15.flat X_t16
              have f_n_t16 := f_n_t15.ex I_n_t15 (X_t16 0)
              have I_m_mdt0_t16 := I_m_mdt0_t15.flat X_t16
              have f_m_mdt0_t16 := f_m_mdt0_t15.ex I_m_mdt0_t15 (X_t16 0)
              refine Kp_push C_t16 (by omega) (fun t17 C_t17 X_t17 a_t17 b_t17 d_t17 w_t17 u_t17 v_t17 j_t17 l_t17 => ?_)
              have e_t17 := C_t17.2.2.2.1
              rw [a_t16] at a_t17
              rw [b_t16] at b_t17
              rw [d_t16] at d_t17
              rw [w_t16] at w_t17
              rw [u_t16] at u_t17
              rw [v_t16] at v_t17
              clear d_t16 w_t16 u_t16 v_t16 e_t16 a_t16 b_t16
              have I_n_t17 := I_n_t16.flat X_t17
              have f_n_t17 := f_n_t16.ex I_n_t16 (X_t17 0)
              have I_m_mdt0_t17 := I_m_mdt0_t16.flat X_t17
              have f_m_mdt0_t17 := f_m_mdt0_t16.ex I_m_mdt0_t16 (X_t17 0)
              refine Ok_ret (show Ok _ _ _ from ?_)
              refine Ok_ret (show Ok _ _ _ from ?_)
              refine Hv_mk (Kv_c (x := (14, m_md t0, 0)) rfl hK) (C_t17.1.2.2.2.2.2.2 hTt) C_t17 hT (by omega) (by omega) (by omega) ?_ ?_ ?_ (by omega) ?_ ?_ ?_
              · exact ⟨(Io_n (by decide) (by decide) I_m_mdt0_t17.1 I_m_mdt0_t17.2.1 I_m_mdt0_t17.2.2.1 (fun q => absurd q (by decide)) (fun q => absurd q (by decide)) I_m_mdt0_t17.2.2.2), (Nd_0 (by decide) Mo_nil), Stk_step (N := n) (pop := (5, n, t)) (new := [(14, m_md t0, 0)]) F0 C_t17.1.to2 (fun (h : nk 5 = false) => absurd h (by decide)) (fun q _ h => h (5, n, t) rfl) (fun _ => rfl) (fun y hy hk => ⟨rfl, (Mo_cons (fun q => show n ≤ m_md t0 from by omega) Mo_nil) y hy hk⟩) (fun (h : 5 = 3 ∨ 5 = 18 ∨ 5 = 41) => absurd h (by decide)) (fun (h : 5 = 18) => absurd h (by decide)) (fun (h : 5 = 41 ∨ 5 = 42 ∨ 5 = 43) => absurd h (by decide)) r [] (fun y hy => absurd hy List.not_mem_nil) hS⟩
              · exact (Aj_sub (y := (14, m_md t0, 0)) hJ (Nat.le_of_ble_eq_true rfl))
              · show m_dp t17 = (dlt 14 + sD r)
                have : dlt 14 = 1 := rfl; have : dlt 5 = 0 := rfl; omega
              · show m_rw t17 = (rho 14 + sR r)
                have : rho 14 = 0 := rfl; have : rho 5 = 0 := rfl; omega
              · show m_md t17 + (mu7 14 + sM r) ≤ 3 * m_at t17 + 7 * (r.length + 1) + 10
                have : mu7 14 = 4 := rfl; have : mu7 5 = 7 := rfl; omega
              · show (wt 14 + sW r) + 6 * (4096 - m_at t17) + 4 * (600 - (r.length + 1)) < (wt 5 + sW r) + 6 * (4096 - m_at t0) + 4 * (600 - (r.length + 1))
                have : wt 14 = 3 := rfl; have : wt 5 = 5 := rfl; omega
            · have w_t15 := Nat.pos_of_ne_zero w_t15
              have I_n_t15 := I_n_t14.flat X_t15
              have f_n_t15 := f_n_t14.ex I_n_t14 (X_t15 0)
              have I_m_mdt0_t15 := I_m_mdt0_t14.flat X_t15
              have f_m_mdt0_t15 := f_m_mdt0_t14.ex I_m_mdt0_t14 (X_t15 0)
              refine Kp_at C_t15 (fun t18 C_t18 X_t18 a_t18 b_t18 d_t18 w_t18 u_t18 v_t18 j_t18 l_t18 => ?_)
              have e_t18 := C_t18.2.2.2.1
              have I_n_t18 := I_n_t15.flat X_t18
              have f_n_t18 := f_n_t15.ex I_n_t15 (X_t18 0)
              have I_m_mdt0_t18 := I_m_mdt0_t15.flat X_t18
              have f_m_mdt0_t18 := f_m_mdt0_t15.ex I_m_mdt0_t15 (X_t18 0)
              refine Kp_push C_t18 (by omega) (fun t19 C_t19 X_t19 a_t19 b_t19 d_t19 w_t19 u_t19 v_t19 j_t19 l_t19 => ?_)
              have e_t19 := C_t19.2.2.2.1
              have I_n_t19 := I_n_t18.flat X_t19
              have f_n_t19 := f_n_t18.ex I_n_t18 (X_t19 0)
              have I_m_mdt0_t19 := I_m_mdt0_t18.flat X_t19
              have f_m_mdt0_t19 := f_m_mdt0_t18.ex I_m_mdt0_t18 (X_t19 0)
              refine Ok_ret (show Ok _ _ _ from ?_)
              refine Ok_ret (show Ok _ _ _ from ?_)
              exact Or.inl ⟨Nat.ne_of_gt (show 0 < m_wr t19 from by omega), by omega, by omega, C_t19.2.2.2.2.2, by omega⟩
          · try unfold lp_X6_literal_101
            refine Ok_ifz1 ?_
            refine Kp_error C_t0 (by omega) (fun t20 C_t20 X_t20 a_t20 b_t20 d_t20 w_t20 u_t20 v_t20 j_t20 l_t20 => ?_)
            have wb_t20 := w_t20.2
            have w_t20 := Nat.pos_of_ne_zero w_t20.1
            have e_t20 := C_t20.2.2.2.1
            have I_n_t20 := I_n_t0.flat X_t20
            have f_n_t20 := f_n_t0.ex I_n_t0 (X_t20 0)
            refine Ok_ret (show Ok _ _ _ from ?_)
            refine Ok_ret (show Ok _ _ _ from ?_)
            exact Or.inl ⟨Nat.ne_of_gt (show 0 < m_wr t20 from by omega), by omega, by omega, C_t20.2.2.2.2.2, by omega⟩
    · try unfold lp_X6_literal_42
      try unfold lp_X6_literal_45
      refine Ok_ife (Nat.lt_trans (C_t0.2.2.2.2.2.2.1 _) (by decide)) (by decide) (fun q => absurd (q3.symm.trans q) (by decide)) (fun _ => ?_)
      try unfold lp_X6_literal_59
      refine Ok_ifl (Nat.lt_trans (C_t0.2.2.2.2.2.2.1 _) (by decide)) (by decide) (fun q21 => ?_) (fun q21 => ?_)
      · try unfold lp_X6_literal_73
        refine Ok_ife (Nat.lt_trans (C_t0.2.2.2.2.2.2.1 _) (by decide)) (by decide) (fun q => absurd (q3.symm.trans q) (by decide)) (fun _ => ?_)
        try unfold lp_X6_literal_87
        refine Kp_look C_t0 hT (by omega) ?_
        refine Ok_ife (Nat.lt_trans (lo_lt (C_t0.tk hT) _) (by decide)) (by decide) (fun q22 => ?_) (fun q22 => ?_)
        · refine Ok_ifz0 ?_
          try unfold lp_X6_literal_101
          refine Ok_ifz0 ?_
          refine Ok_ret (show Ok _ _ _ from ?_)
          refine Ok_ret (show Ok _ _ _ from ?_)
          refine Hv_mk hK (C_t0.1.2.2.2.2.2.2 hTt) C_t0 hT (by omega) (by omega) (by omega) ?_ ?_ ?_ (by omega) ?_ ?_ ?_
          · exact Stk_step (N := n) (pop := (5, n, t)) (new := []) F0 C_t0.1.to2 (fun (h : nk 5 = false) => absurd h (by decide)) (fun q _ h => h (5, n, t) rfl) (fun _ => rfl) (fun y hy hk => ⟨rfl, Mo_nil (n := n) y hy hk⟩) (fun (h : 5 = 3 ∨ 5 = 18 ∨ 5 = 41) => absurd h (by decide)) (fun (h : 5 = 18) => absurd h (by decide)) (fun (h : 5 = 41 ∨ 5 = 42 ∨ 5 = 43) => absurd h (by decide)) r [] (fun y hy => absurd hy List.not_mem_nil) hS
          · exact Aj_tl hJ
          · show m_dp t0 = sD r
            have : dlt 5 = 0 := rfl; omega
          · show m_rw t0 = sR r
            have : rho 5 = 0 := rfl; omega
          · show m_md t0 + sM r ≤ 3 * m_at t0 + 7 * (r.length) + 10
            have : mu7 5 = 7 := rfl; omega
          · show sW r + 6 * (4096 - m_at t0) + 4 * (600 - (r.length)) < (wt 5 + sW r) + 6 * (4096 - m_at t0) + 4 * (600 - (r.length + 1))
            have : wt 5 = 5 := rfl; omega
        · try unfold lp_X6_literal_101
          refine Ok_ifz0 ?_
          refine Ok_ret (show Ok _ _ _ from ?_)
          refine Ok_ret (show Ok _ _ _ from ?_)
          refine Hv_mk hK (C_t0.1.2.2.2.2.2.2 hTt) C_t0 hT (by omega) (by omega) (by omega) ?_ ?_ ?_ (by omega) ?_ ?_ ?_
          · exact Stk_step (N := n) (pop := (5, n, t)) (new := []) F0 C_t0.1.to2 (fun (h : nk 5 = false) => absurd h (by decide)) (fun q _ h => h (5, n, t) rfl) (fun _ => rfl) (fun y hy hk => ⟨rfl, Mo_nil (n := n) y hy hk⟩) (fun (h : 5 = 3 ∨ 5 = 18 ∨ 5 = 41) => absurd h (by decide)) (fun (h : 5 = 18) => absurd h (by decide)) (fun (h : 5 = 41 ∨ 5 = 42 ∨ 5 = 43) => absurd h (by decide)) r [] (fun y hy => absurd hy List.not_mem_nil) hS
          · exact Aj_tl hJ
          · show m_dp t0 = sD r
            have : dlt 5 = 0 := rfl; omega
          · show m_rw t0 = sR r
            have : rho 5 = 0 := rfl; omega
          · show m_md t0 + sM r ≤ 3 * m_at t0 + 7 * (r.length) + 10
            have : mu7 5 = 7 := rfl; omega
          · show sW r + 6 * (4096 - m_at t0) + 4 * (600 - (r.length)) < (wt 5 + sW r) + 6 * (4096 - m_at t0) + 4 * (600 - (r.length + 1))
            have : wt 5 = 5 := rfl; omega
      · refine Ok_ifl (by decide) (Nat.lt_trans (C_t0.2.2.2.2.2.2.1 _) (by decide)) (fun q23 => ?_) (fun q23 => ?_)
        · try unfold lp_X6_literal_73
          refine Ok_ife (Nat.lt_trans (C_t0.2.2.2.2.2.2.1 _) (by decide)) (by decide) (fun q => absurd (q3.symm.trans q) (by decide)) (fun _ => ?_)
          try unfold lp_X6_literal_87
          refine Kp_look C_t0 hT (by omega) ?_
          refine Ok_ife (Nat.lt_trans (lo_lt (C_t0.tk hT) _) (by decide)) (by decide) (fun q24 => ?_) (fun q24 => ?_)
          · refine Ok_ifz0 ?_
            try unfold lp_X6_literal_101
            refine Ok_ifz0 ?_
            refine Ok_ret (show Ok _ _ _ from ?_)
            refine Ok_ret (show Ok _ _ _ from ?_)
            refine Hv_mk hK (C_t0.1.2.2.2.2.2.2 hTt) C_t0 hT (by omega) (by omega) (by omega) ?_ ?_ ?_ (by omega) ?_ ?_ ?_
            · exact Stk_step (N := n) (pop := (5, n, t)) (new := []) F0 C_t0.1.to2 (fun (h : nk 5 = false) => absurd h (by decide)) (fun q _ h => h (5, n, t) rfl) (fun _ => rfl) (fun y hy hk => ⟨rfl, Mo_nil (n := n) y hy hk⟩) (fun (h : 5 = 3 ∨ 5 = 18 ∨ 5 = 41) => absurd h (by decide)) (fun (h : 5 = 18) => absurd h (by decide)) (fun (h : 5 = 41 ∨ 5 = 42 ∨ 5 = 43) => absurd h (by decide)) r [] (fun y hy => absurd hy List.not_mem_nil) hS
            · exact Aj_tl hJ
            · show m_dp t0 = sD r
              have : dlt 5 = 0 := rfl; omega
            · show m_rw t0 = sR r
              have : rho 5 = 0 := rfl; omega
            · show m_md t0 + sM r ≤ 3 * m_at t0 + 7 * (r.length) + 10
              have : mu7 5 = 7 := rfl; omega
            · show sW r + 6 * (4096 - m_at t0) + 4 * (600 - (r.length)) < (wt 5 + sW r) + 6 * (4096 - m_at t0) + 4 * (600 - (r.length + 1))
              have : wt 5 = 5 := rfl; omega
          · try unfold lp_X6_literal_101
            refine Ok_ifz0 ?_
            refine Ok_ret (show Ok _ _ _ from ?_)
            refine Ok_ret (show Ok _ _ _ from ?_)
            refine Hv_mk hK (C_t0.1.2.2.2.2.2.2 hTt) C_t0 hT (by omega) (by omega) (by omega) ?_ ?_ ?_ (by omega) ?_ ?_ ?_
            · exact Stk_step (N := n) (pop := (5, n, t)) (new := []) F0 C_t0.1.to2 (fun (h : nk 5 = false) => absurd h (by decide)) (fun q _ h => h (5, n, t) rfl) (fun _ => rfl) (fun y hy hk => ⟨rfl, Mo_nil (n := n) y hy hk⟩) (fun (h : 5 = 3 ∨ 5 = 18 ∨ 5 = 41) => absurd h (by decide)) (fun (h : 5 = 18) => absurd h (by decide)) (fun (h : 5 = 41 ∨ 5 = 42 ∨ 5 = 43) => absurd h (by decide)) r [] (fun y hy => absurd hy List.not_mem_nil) hS
            · exact Aj_tl hJ
            · show m_dp t0 = sD r
              have : dlt 5 = 0 := rfl; omega
            · show m_rw t0 = sR r
              have : rho 5 = 0 := rfl; omega
            · show m_md t0 + sM r ≤ 3 * m_at t0 + 7 * (r.length) + 10
              have : mu7 5 = 7 := rfl; omega
            · show sW r + 6 * (4096 - m_at t0) + 4 * (600 - (r.length)) < (wt 5 + sW r) + 6 * (4096 - m_at t0) + 4 * (600 - (r.length + 1))
              have : wt 5 = 5 := rfl; omega
        · try unfold lp_X6_literal_80
          try unfold lp_X6_literal_87
          refine Kp_look C_t0 hT (by omega) ?_
          refine Ok_ife (Nat.lt_trans (lo_lt (C_t0.tk hT) _) (by decide)) (by decide) (fun q25 => ?_) (fun q25 => ?_)
          · refine Ok_ifz1 ?_
            refine Kp_wrap C_t0 I_n_t0.1 I_n_t0.2.1 f_n_t0 I_n_t0.2.2.1 (by omega) (by omega) (by decide) (fun t26 C_t26 X_t26 a_t26 b_t26 d_t26 w_t26 u_t26 v_t26 j_t26 l_t26 => ?_)
            have e_t26 := C_t26.2.2.2.1
            have I_n_t26 := I_n_t0.le X_t26 (by omega)
            have f_n_t26 := f_n_t0.ex I_n_t0 (X_t26 0 (Nat.zero_le _))
            have I_m_mdt0_t26 : Nq t26 (m_md t0) := Nq.wrn j_t26 (by omega) I_n_t0 (by decide)
            have f_m_mdt0_t26 : Fz t26 (m_md t0) := by unfold Fz; rw [j_t26.2.1]; exact j_t26.2.2.1
            refine Kp_more C_t26 (by omega) (by omega) (fun t27 C_t27 X_t27 a_t27 b_t27 d_t27 w_t27 u_t27 v_t27 j_t27 l_t27 => ?_)
            have e_t27 := C_t27.2.2.2.1
            rcases w_t27 with ⟨w_t27, y_t27⟩ | ⟨w_t27, wb_t27⟩
            · rw [a_t26] at a_t27
              rw [b_t26] at b_t27
              rw [d_t26] at d_t27
              rw [w_t26] at w_t27
              rw [u_t26] at u_t27
              rw [v_t26] at v_t27
              rw [d_t27] at y_t27
              clear d_t26 w_t26 u_t26 v_t26 e_t26 a_t26 b_t26
              have I_n_t27 := I_n_t26.flat X_t27
              have f_n_t27 := f_n_t26.ex I_n_t26 (X_t27 0)
              have I_m_mdt0_t27 := I_m_mdt0_t26.flat X_t27
              have f_m_mdt0_t27 := f_m_mdt0_t26.ex I_m_mdt0_t26 (X_t27 0)
              have z_t28 : m_at t27 < m_ct t27 := lo_ne (Nat.ne_of_gt (show 0 < lo t27 (m_at t27) from by omega))
              refine Kp_at C_t27 (fun t28 C_t28 X_t28 a_t28 b_t28 d_t28 w_t28 u_t28 v_t28 j_t28 l_t28 => ?_)
              have e_t28 := C_t28.2.2.2.1
              rw [a_t27] at a_t28
              rw [b_t27] at b_t28
              rw [d_t27] at d_t28
              rw [w_t27] at w_t28
              rw [u_t27] at u_t28
              rw [v_t27] at v_t28
              rw [a_t27, e_t27] at z_t28
              clear d_t27 w_t27 u_t27 v_t27 e_t27 a_t27 b_t27
              have I_n_t28 := I_n_t27.flat X_t28
              have f_n_t28 := f_n_t27.ex I_n_t27 (X_t28 0)
              have I_m_mdt0_t28 := I_m_mdt0_t27.flat X_t28
              have f_m_mdt0_t28 := f_m_mdt0_t27.ex I_m_mdt0_t27 (X_t28 0)
              refine Kp_push C_t28 (by omega) (fun t29 C_t29 X_t29 a_t29 b_t29 d_t29 w_t29 u_t29 v_t29 j_t29 l_t29 => ?_)
              have e_t29 := C_t29.2.2.2.1
              rw [a_t28] at a_t29
              rw [b_t28] at b_t29
              rw [d_t28] at d_t29
              rw [w_t28] at w_t29
              rw [u_t28] at u_t29
              rw [v_t28] at v_t29
              clear d_t28 w_t28 u_t28 v_t28 e_t28 a_t28 b_t28
              have I_n_t29 := I_n_t28.flat X_t29
              have f_n_t29 := f_n_t28.ex I_n_t28 (X_t29 0)
              have I_m_mdt0_t29 := I_m_mdt0_t28.flat X_t29
              have f_m_mdt0_t29 := f_m_mdt0_t28.ex I_m_mdt0_t28 (X_t29 0)
              refine Ok_ret (show Ok _ _ _ from ?_)
              refine Ok_ret (show Ok _ _ _ from ?_)
              refine Hv_mk (Kv_c (x := (14, m_md t0, 0)) rfl hK) (C_t29.1.2.2.2.2.2.2 hTt) C_t29 hT (by omega) (by omega) (by omega) ?_ ?_ ?_ (by omega) ?_ ?_ ?_
              · exact ⟨(Io_n (by decide) (by decide) I_m_mdt0_t29.1 I_m_mdt0_t29.2.1 I_m_mdt0_t29.2.2.1 (fun q => absurd q (by decide)) (fun q => absurd q (by decide)) I_m_mdt0_t29.2.2.2), (Nd_0 (by decide) Mo_nil), Stk_step (N := n) (pop := (5, n, t)) (new := [(14, m_md t0, 0)]) F0 C_t29.1.to2 (fun (h : nk 5 = false) => absurd h (by decide)) (fun q _ h => h (5, n, t) rfl) (fun _ => rfl) (fun y hy hk => ⟨rfl, (Mo_cons (fun q => show n ≤ m_md t0 from by omega) Mo_nil) y hy hk⟩) (fun (h : 5 = 3 ∨ 5 = 18 ∨ 5 = 41) => absurd h (by decide)) (fun (h : 5 = 18) => absurd h (by decide)) (fun (h : 5 = 41 ∨ 5 = 42 ∨ 5 = 43) => absurd h (by decide)) r [] (fun y hy => absurd hy List.not_mem_nil) hS⟩
              · exact (Aj_sub (y := (14, m_md t0, 0)) hJ (Nat.le_of_ble_eq_true rfl))
              · show m_dp t29 = (dlt 14 + sD r)
                have : dlt 14 = 1 := rfl; have : dlt 5 = 0 := rfl; omega
              · show m_rw t29 = (rho 14 + sR r)
                have : rho 14 = 0 := rfl; have : rho 5 = 0 := rfl; omega
              · show m_md t29 + (mu7 14 + sM r) ≤ 3 * m_at t29 + 7 * (r.length + 1) + 10
                have : mu7 14 = 4 := rfl; have : mu7 5 = 7 := rfl; omega
              · show (wt 14 + sW r) + 6 * (4096 - m_at t29) + 4 * (600 - (r.length + 1)) < (wt 5 + sW r) + 6 * (4096 - m_at t0) + 4 * (600 - (r.length + 1))
                have : wt 14 = 3 := rfl; have : wt 5 = 5 := rfl; omega
            · have w_t27 := Nat.pos_of_ne_zero w_t27
              have I_n_t27 := I_n_t26.flat X_t27
              have f_n_t27 := f_n_t26.ex I_n_t26 (X_t27 0)
              have I_m_mdt0_t27 := I_m_mdt0_t26.flat X_t27
              have f_m_mdt0_t27 := f_m_mdt0_t26.ex I_m_mdt0_t26 (X_t27 0)
              refine Kp_at C_t27 (fun t30 C_t30 X_t30 a_t30 b_t30 d_t30 w_t30 u_t30 v_t30 j_t30 l_t30 => ?_)
              have e_t30 := C_t30.2.2.2.1
              have I_n_t30 := I_n_t27.flat X_t30
              have f_n_t30 := f_n_t27.ex I_n_t27 (X_t30 0)
              have I_m_mdt0_t30 := I_m_mdt0_t27.flat X_t30
              have f_m_mdt0_t30 := f_m_mdt0_t27.ex I_m_mdt0_t27 (X_t30 0)
              refine Kp_push C_t30 (by omega) (fun t31 C_t31 X_t31 a_t31 b_t31 d_t31 w_t31 u_t31 v_t31 j_t31 l_t31 => ?_)
              have e_t31 := C_t31.2.2.2.1
              have I_n_t31 := I_n_t30.flat X_t31
              have f_n_t31 := f_n_t30.ex I_n_t30 (X_t31 0)
              have I_m_mdt0_t31 := I_m_mdt0_t30.flat X_t31
              have f_m_mdt0_t31 := f_m_mdt0_t30.ex I_m_mdt0_t30 (X_t31 0)
              refine Ok_ret (show Ok _ _ _ from ?_)
              refine Ok_ret (show Ok _ _ _ from ?_)
              exact Or.inl ⟨Nat.ne_of_gt (show 0 < m_wr t31 from by omega), by omega, by omega, C_t31.2.2.2.2.2, by omega⟩
          · try unfold lp_X6_literal_101
            refine Ok_ifz0 ?_
            refine Ok_ret (show Ok _ _ _ from ?_)
            refine Ok_ret (show Ok _ _ _ from ?_)
            refine Hv_mk hK (C_t0.1.2.2.2.2.2.2 hTt) C_t0 hT (by omega) (by omega) (by omega) ?_ ?_ ?_ (by omega) ?_ ?_ ?_
            · exact Stk_step (N := n) (pop := (5, n, t)) (new := []) F0 C_t0.1.to2 (fun (h : nk 5 = false) => absurd h (by decide)) (fun q _ h => h (5, n, t) rfl) (fun _ => rfl) (fun y hy hk => ⟨rfl, Mo_nil (n := n) y hy hk⟩) (fun (h : 5 = 3 ∨ 5 = 18 ∨ 5 = 41) => absurd h (by decide)) (fun (h : 5 = 18) => absurd h (by decide)) (fun (h : 5 = 41 ∨ 5 = 42 ∨ 5 = 43) => absurd h (by decide)) r [] (fun y hy => absurd hy List.not_mem_nil) hS
            · exact Aj_tl hJ
            · show m_dp t0 = sD r
              have : dlt 5 = 0 := rfl; omega
            · show m_rw t0 = sR r
              have : rho 5 = 0 := rfl; omega
            · show m_md t0 + sM r ≤ 3 * m_at t0 + 7 * (r.length) + 10
              have : mu7 5 = 7 := rfl; omega
            · show sW r + 6 * (4096 - m_at t0) + 4 * (600 - (r.length)) < (wt 5 + sW r) + 6 * (4096 - m_at t0) + 4 * (600 - (r.length + 1))
              have : wt 5 = 5 := rfl; omega
  · try unfold lp_X6_literal_42
    try unfold lp_X6_literal_45
    refine Ok_ife (Nat.lt_trans (C_t0.2.2.2.2.2.2.1 _) (by decide)) (by decide) (fun q32 => ?_) (fun q32 => ?_)
    · refine Ok_ck (show t < 2147483648 from by omega) ?_
      refine Ok_ifz (f6_has _ _) (fun q33 => ?_) (fun q33 => ?_)
      · try unfold lp_X6_literal_80
        try unfold lp_X6_literal_87
        refine Kp_look C_t0 hT (by omega) ?_
        refine Ok_ife (Nat.lt_trans (lo_lt (C_t0.tk hT) _) (by decide)) (by decide) (fun q34 => ?_) (fun q34 => ?_)
        · refine Ok_ifz1 ?_
          refine Kp_wrap C_t0 I_n_t0.1 I_n_t0.2.1 f_n_t0 I_n_t0.2.2.1 (by omega) (by omega) (by decide) (fun t35 C_t35 X_t35 a_t35 b_t35 d_t35 w_t35 u_t35 v_t35 j_t35 l_t35 => ?_)
          have e_t35 := C_t35.2.2.2.1
          have I_n_t35 := I_n_t0.le X_t35 (by omega)
          have f_n_t35 := f_n_t0.ex I_n_t0 (X_t35 0 (Nat.zero_le _))
          have I_m_mdt0_t35 : Nq t35 (m_md t0) := Nq.wrn j_t35 (by omega) I_n_t0 (by decide)
          have f_m_mdt0_t35 : Fz t35 (m_md t0) := by unfold Fz; rw [j_t35.2.1]; exact j_t35.2.2.1
          refine Kp_more C_t35 (by omega) (by omega) (fun t36 C_t36 X_t36 a_t36 b_t36 d_t36 w_t36 u_t36 v_t36 j_t36 l_t36 => ?_)
          have e_t36 := C_t36.2.2.2.1
          rcases w_t36 with ⟨w_t36, y_t36⟩ | ⟨w_t36, wb_t36⟩
          · rw [a_t35] at a_t36
            rw [b_t35] at b_t36
            rw [d_t35] at d_t36
            rw [w_t35] at w_t36
            rw [u_t35] at u_t36
            rw [v_t35] at v_t36
            rw [d_t36] at y_t36
            clear d_t35 w_t35 u_t35 v_t35 e_t35 a_t35 b_t35
            have I_n_t36 := I_n_t35.flat X_t36
            have f_n_t36 := f_n_t35.ex I_n_t35 (X_t36 0)
            have I_m_mdt0_t36 := I_m_mdt0_t35.flat X_t36
            have f_m_mdt0_t36 := f_m_mdt0_t35.ex I_m_mdt0_t35 (X_t36 0)
            have z_t37 : m_at t36 < m_ct t36 := lo_ne (Nat.ne_of_gt (show 0 < lo t36 (m_at t36) from by omega))
            refine Kp_at C_t36 (fun t37 C_t37 X_t37 a_t37 b_t37 d_t37 w_t37 u_t37 v_t37 j_t37 l_t37 => ?_)
            have e_t37 := C_t37.2.2.2.1
            rw [a_t36] at a_t37
            rw [b_t36] at b_t37
            rw [d_t36] at d_t37
            rw [w_t36] at w_t37
            rw [u_t36] at u_t37
            rw [v_t36] at v_t37
            rw [a_t36, e_t36] at z_t37
            clear d_t36 w_t36 u_t36 v_t36 e_t36 a_t36 b_t36
            have I_n_t37 := I_n_t36.flat X_t37
            have f_n_t37 := f_n_t36.ex I_n_t36 (X_t37 0)
            have I_m_mdt0_t37 := I_m_mdt0_t36.flat X_t37
            have f_m_mdt0_t37 := f_m_mdt0_t36.ex I_m_mdt0_t36 (X_t37 0)
            refine Kp_push C_t37 (by omega) (fun t38 C_t38 X_t38 a_t38 b_t38 d_t38 w_t38 u_t38 v_t38 j_t38 l_t38 => ?_)
            have e_t38 := C_t38.2.2.2.1
            rw [a_t37] at a_t38
            rw [b_t37] at b_t38
            rw [d_t37] at d_t38
            rw [w_t37] at w_t38
            rw [u_t37] at u_t38
            rw [v_t37] at v_t38
            clear d_t37 w_t37 u_t37 v_t37 e_t37 a_t37 b_t37
            have I_n_t38 := I_n_t37.flat X_t38
            have f_n_t38 := f_n_t37.ex I_n_t37 (X_t38 0)
            have I_m_mdt0_t38 := I_m_mdt0_t37.flat X_t38
            have f_m_mdt0_t38 := f_m_mdt0_t37.ex I_m_mdt0_t37 (X_t38 0)
            refine Ok_ret (show Ok _ _ _ from ?_)
            refine Ok_ret (show Ok _ _ _ from ?_)
            refine Hv_mk (Kv_c (x := (14, m_md t0, 0)) rfl hK) (C_t38.1.2.2.2.2.2.2 hTt) C_t38 hT (by omega) (by omega) (by omega) ?_ ?_ ?_ (by omega) ?_ ?_ ?_
            · exact ⟨(Io_n (by decide) (by decide) I_m_mdt0_t38.1 I_m_mdt0_t38.2.1 I_m_mdt0_t38.2.2.1 (fun q => absurd q (by decide)) (fun q => absurd q (by decide)) I_m_mdt0_t38.2.2.2), (Nd_0 (by decide) Mo_nil), Stk_step (N := n) (pop := (5, n, t)) (new := [(14, m_md t0, 0)]) F0 C_t38.1.to2 (fun (h : nk 5 = false) => absurd h (by decide)) (fun q _ h => h (5, n, t) rfl) (fun _ => rfl) (fun y hy hk => ⟨rfl, (Mo_cons (fun q => show n ≤ m_md t0 from by omega) Mo_nil) y hy hk⟩) (fun (h : 5 = 3 ∨ 5 = 18 ∨ 5 = 41) => absurd h (by decide)) (fun (h : 5 = 18) => absurd h (by decide)) (fun (h : 5 = 41 ∨ 5 = 42 ∨ 5 = 43) => absurd h (by decide)) r [] (fun y hy => absurd hy List.not_mem_nil) hS⟩
            · exact (Aj_sub (y := (14, m_md t0, 0)) hJ (Nat.le_of_ble_eq_true rfl))
            · show m_dp t38 = (dlt 14 + sD r)
              have : dlt 14 = 1 := rfl; have : dlt 5 = 0 := rfl; omega
            · show m_rw t38 = (rho 14 + sR r)
              have : rho 14 = 0 := rfl; have : rho 5 = 0 := rfl; omega
            · show m_md t38 + (mu7 14 + sM r) ≤ 3 * m_at t38 + 7 * (r.length + 1) + 10
              have : mu7 14 = 4 := rfl; have : mu7 5 = 7 := rfl; omega
            · show (wt 14 + sW r) + 6 * (4096 - m_at t38) + 4 * (600 - (r.length + 1)) < (wt 5 + sW r) + 6 * (4096 - m_at t0) + 4 * (600 - (r.length + 1))
              have : wt 14 = 3 := rfl; have : wt 5 = 5 := rfl; omega
          · have w_t36 := Nat.pos_of_ne_zero w_t36
            have I_n_t36 := I_n_t35.flat X_t36
            have f_n_t36 := f_n_t35.ex I_n_t35 (X_t36 0)
            have I_m_mdt0_t36 := I_m_mdt0_t35.flat X_t36
            have f_m_mdt0_t36 := f_m_mdt0_t35.ex I_m_mdt0_t35 (X_t36 0)
            refine Kp_at C_t36 (fun t39 C_t39 X_t39 a_t39 b_t39 d_t39 w_t39 u_t39 v_t39 j_t39 l_t39 => ?_)
            have e_t39 := C_t39.2.2.2.1
            have I_n_t39 := I_n_t36.flat X_t39
            have f_n_t39 := f_n_t36.ex I_n_t36 (X_t39 0)
            have I_m_mdt0_t39 := I_m_mdt0_t36.flat X_t39
            have f_m_mdt0_t39 := f_m_mdt0_t36.ex I_m_mdt0_t36 (X_t39 0)
            refine Kp_push C_t39 (by omega) (fun t40 C_t40 X_t40 a_t40 b_t40 d_t40 w_t40 u_t40 v_t40 j_t40 l_t40 => ?_)
            have e_t40 := C_t40.2.2.2.1
            have I_n_t40 := I_n_t39.flat X_t40
            have f_n_t40 := f_n_t39.ex I_n_t39 (X_t40 0)
            have I_m_mdt0_t40 := I_m_mdt0_t39.flat X_t40
            have f_m_mdt0_t40 := f_m_mdt0_t39.ex I_m_mdt0_t39 (X_t40 0)
            refine Ok_ret (show Ok _ _ _ from ?_)
            refine Ok_ret (show Ok _ _ _ from ?_)
            exact Or.inl ⟨Nat.ne_of_gt (show 0 < m_wr t40 from by omega), by omega, by omega, C_t40.2.2.2.2.2, by omega⟩
        · try unfold lp_X6_literal_101
          refine Ok_ifz0 ?_
          refine Ok_ret (show Ok _ _ _ from ?_)
          refine Ok_ret (show Ok _ _ _ from ?_)
          refine Hv_mk hK (C_t0.1.2.2.2.2.2.2 hTt) C_t0 hT (by omega) (by omega) (by omega) ?_ ?_ ?_ (by omega) ?_ ?_ ?_
          · exact Stk_step (N := n) (pop := (5, n, t)) (new := []) F0 C_t0.1.to2 (fun (h : nk 5 = false) => absurd h (by decide)) (fun q _ h => h (5, n, t) rfl) (fun _ => rfl) (fun y hy hk => ⟨rfl, Mo_nil (n := n) y hy hk⟩) (fun (h : 5 = 3 ∨ 5 = 18 ∨ 5 = 41) => absurd h (by decide)) (fun (h : 5 = 18) => absurd h (by decide)) (fun (h : 5 = 41 ∨ 5 = 42 ∨ 5 = 43) => absurd h (by decide)) r [] (fun y hy => absurd hy List.not_mem_nil) hS
          · exact Aj_tl hJ
          · show m_dp t0 = sD r
            have : dlt 5 = 0 := rfl; omega
          · show m_rw t0 = sR r
            have : rho 5 = 0 := rfl; omega
          · show m_md t0 + sM r ≤ 3 * m_at t0 + 7 * (r.length) + 10
            have : mu7 5 = 7 := rfl; omega
          · show sW r + 6 * (4096 - m_at t0) + 4 * (600 - (r.length)) < (wt 5 + sW r) + 6 * (4096 - m_at t0) + 4 * (600 - (r.length + 1))
            have : wt 5 = 5 := rfl; omega
      · try unfold lp_X6_literal_59
        refine Ok_ifl (Nat.lt_trans (C_t0.2.2.2.2.2.2.1 _) (by decide)) (by decide) (fun q41 => ?_) (fun q41 => ?_)
        · try unfold lp_X6_literal_73
          refine Ok_ife (Nat.lt_trans (C_t0.2.2.2.2.2.2.1 _) (by decide)) (by decide) (fun q => absurd (q32.symm.trans q) (by decide)) (fun _ => ?_)
          try unfold lp_X6_literal_87
          refine Kp_look C_t0 hT (by omega) ?_
          refine Ok_ife (Nat.lt_trans (lo_lt (C_t0.tk hT) _) (by decide)) (by decide) (fun q42 => ?_) (fun q42 => ?_)
          · refine Ok_ifz0 ?_
            try unfold lp_X6_literal_101
            refine Ok_ifz0 ?_
            refine Ok_ret (show Ok _ _ _ from ?_)
            refine Ok_ret (show Ok _ _ _ from ?_)
            refine Hv_mk hK (C_t0.1.2.2.2.2.2.2 hTt) C_t0 hT (by omega) (by omega) (by omega) ?_ ?_ ?_ (by omega) ?_ ?_ ?_
            · exact Stk_step (N := n) (pop := (5, n, t)) (new := []) F0 C_t0.1.to2 (fun (h : nk 5 = false) => absurd h (by decide)) (fun q _ h => h (5, n, t) rfl) (fun _ => rfl) (fun y hy hk => ⟨rfl, Mo_nil (n := n) y hy hk⟩) (fun (h : 5 = 3 ∨ 5 = 18 ∨ 5 = 41) => absurd h (by decide)) (fun (h : 5 = 18) => absurd h (by decide)) (fun (h : 5 = 41 ∨ 5 = 42 ∨ 5 = 43) => absurd h (by decide)) r [] (fun y hy => absurd hy List.not_mem_nil) hS
            · exact Aj_tl hJ
            · show m_dp t0 = sD r
              have : dlt 5 = 0 := rfl; omega
            · show m_rw t0 = sR r
              have : rho 5 = 0 := rfl; omega
            · show m_md t0 + sM r ≤ 3 * m_at t0 + 7 * (r.length) + 10
              have : mu7 5 = 7 := rfl; omega
            · show sW r + 6 * (4096 - m_at t0) + 4 * (600 - (r.length)) < (wt 5 + sW r) + 6 * (4096 - m_at t0) + 4 * (600 - (r.length + 1))
              have : wt 5 = 5 := rfl; omega
          · try unfold lp_X6_literal_101
            refine Ok_ifz0 ?_
            refine Ok_ret (show Ok _ _ _ from ?_)
            refine Ok_ret (show Ok _ _ _ from ?_)
            refine Hv_mk hK (C_t0.1.2.2.2.2.2.2 hTt) C_t0 hT (by omega) (by omega) (by omega) ?_ ?_ ?_ (by omega) ?_ ?_ ?_
            · exact Stk_step (N := n) (pop := (5, n, t)) (new := []) F0 C_t0.1.to2 (fun (h : nk 5 = false) => absurd h (by decide)) (fun q _ h => h (5, n, t) rfl) (fun _ => rfl) (fun y hy hk => ⟨rfl, Mo_nil (n := n) y hy hk⟩) (fun (h : 5 = 3 ∨ 5 = 18 ∨ 5 = 41) => absurd h (by decide)) (fun (h : 5 = 18) => absurd h (by decide)) (fun (h : 5 = 41 ∨ 5 = 42 ∨ 5 = 43) => absurd h (by decide)) r [] (fun y hy => absurd hy List.not_mem_nil) hS
            · exact Aj_tl hJ
            · show m_dp t0 = sD r
              have : dlt 5 = 0 := rfl; omega
            · show m_rw t0 = sR r
              have : rho 5 = 0 := rfl; omega
            · show m_md t0 + sM r ≤ 3 * m_at t0 + 7 * (r.length) + 10
              have : mu7 5 = 7 := rfl; omega
            · show sW r + 6 * (4096 - m_at t0) + 4 * (600 - (r.length)) < (wt 5 + sW r) + 6 * (4096 - m_at t0) + 4 * (600 - (r.length + 1))
              have : wt 5 = 5 := rfl; omega
        · refine Ok_ifl (by decide) (Nat.lt_trans (C_t0.2.2.2.2.2.2.1 _) (by decide)) (fun q43 => ?_) (fun q43 => ?_)
          · try unfold lp_X6_literal_73
            refine Ok_ife (Nat.lt_trans (C_t0.2.2.2.2.2.2.1 _) (by decide)) (by decide) (fun q => absurd (q32.symm.trans q) (by decide)) (fun _ => ?_)
            try unfold lp_X6_literal_87
            refine Kp_look C_t0 hT (by omega) ?_
            refine Ok_ife (Nat.lt_trans (lo_lt (C_t0.tk hT) _) (by decide)) (by decide) (fun q44 => ?_) (fun q44 => ?_)
            · refine Ok_ifz0 ?_
              try unfold lp_X6_literal_101
              refine Ok_ifz0 ?_
              refine Ok_ret (show Ok _ _ _ from ?_)
              refine Ok_ret (show Ok _ _ _ from ?_)
              refine Hv_mk hK (C_t0.1.2.2.2.2.2.2 hTt) C_t0 hT (by omega) (by omega) (by omega) ?_ ?_ ?_ (by omega) ?_ ?_ ?_
              · exact Stk_step (N := n) (pop := (5, n, t)) (new := []) F0 C_t0.1.to2 (fun (h : nk 5 = false) => absurd h (by decide)) (fun q _ h => h (5, n, t) rfl) (fun _ => rfl) (fun y hy hk => ⟨rfl, Mo_nil (n := n) y hy hk⟩) (fun (h : 5 = 3 ∨ 5 = 18 ∨ 5 = 41) => absurd h (by decide)) (fun (h : 5 = 18) => absurd h (by decide)) (fun (h : 5 = 41 ∨ 5 = 42 ∨ 5 = 43) => absurd h (by decide)) r [] (fun y hy => absurd hy List.not_mem_nil) hS
              · exact Aj_tl hJ
              · show m_dp t0 = sD r
                have : dlt 5 = 0 := rfl; omega
              · show m_rw t0 = sR r
                have : rho 5 = 0 := rfl; omega
              · show m_md t0 + sM r ≤ 3 * m_at t0 + 7 * (r.length) + 10
                have : mu7 5 = 7 := rfl; omega
              · show sW r + 6 * (4096 - m_at t0) + 4 * (600 - (r.length)) < (wt 5 + sW r) + 6 * (4096 - m_at t0) + 4 * (600 - (r.length + 1))
                have : wt 5 = 5 := rfl; omega
            · try unfold lp_X6_literal_101
              refine Ok_ifz0 ?_
              refine Ok_ret (show Ok _ _ _ from ?_)
              refine Ok_ret (show Ok _ _ _ from ?_)
              refine Hv_mk hK (C_t0.1.2.2.2.2.2.2 hTt) C_t0 hT (by omega) (by omega) (by omega) ?_ ?_ ?_ (by omega) ?_ ?_ ?_
              · exact Stk_step (N := n) (pop := (5, n, t)) (new := []) F0 C_t0.1.to2 (fun (h : nk 5 = false) => absurd h (by decide)) (fun q _ h => h (5, n, t) rfl) (fun _ => rfl) (fun y hy hk => ⟨rfl, Mo_nil (n := n) y hy hk⟩) (fun (h : 5 = 3 ∨ 5 = 18 ∨ 5 = 41) => absurd h (by decide)) (fun (h : 5 = 18) => absurd h (by decide)) (fun (h : 5 = 41 ∨ 5 = 42 ∨ 5 = 43) => absurd h (by decide)) r [] (fun y hy => absurd hy List.not_mem_nil) hS
              · exact Aj_tl hJ
              · show m_dp t0 = sD r
                have : dlt 5 = 0 := rfl; omega
              · show m_rw t0 = sR r
                have : rho 5 = 0 := rfl; omega
              · show m_md t0 + sM r ≤ 3 * m_at t0 + 7 * (r.length) + 10
                have : mu7 5 = 7 := rfl; omega
              · show sW r + 6 * (4096 - m_at t0) + 4 * (600 - (r.length)) < (wt 5 + sW r) + 6 * (4096 - m_at t0) + 4 * (600 - (r.length + 1))
                have : wt 5 = 5 := rfl; omega
          · try unfold lp_X6_literal_80
            try unfold lp_X6_literal_87
            refine Kp_look C_t0 hT (by omega) ?_
            refine Ok_ife (Nat.lt_trans (lo_lt (C_t0.tk hT) _) (by decide)) (by decide) (fun q45 => ?_) (fun q45 => ?_)
            · refine Ok_ifz1 ?_
              refine Kp_wrap C_t0 I_n_t0.1 I_n_t0.2.1 f_n_t0 I_n_t0.2.2.1 (by omega) (by omega) (by decide) (fun t46 C_t46 X_t46 a_t46 b_t46 d_t46 w_t46 u_t46 v_t46 j_t46 l_t46 => ?_)
              have e_t46 := C_t46.2.2.2.1
              have I_n_t46 := I_n_t0.le X_t46 (by omega)
              have f_n_t46 := f_n_t0.ex I_n_t0 (X_t46 0 (Nat.zero_le _))
              have I_m_mdt0_t46 : Nq t46 (m_md t0) := Nq.wrn j_t46 (by omega) I_n_t0 (by decide)
              have f_m_mdt0_t46 : Fz t46 (m_md t0) := by unfold Fz; rw [j_t46.2.1]; exact j_t46.2.2.1
              refine Kp_more C_t46 (by omega) (by omega) (fun t47 C_t47 X_t47 a_t47 b_t47 d_t47 w_t47 u_t47 v_t47 j_t47 l_t47 => ?_)
              have e_t47 := C_t47.2.2.2.1
              rcases w_t47 with ⟨w_t47, y_t47⟩ | ⟨w_t47, wb_t47⟩
              · rw [a_t46] at a_t47
                rw [b_t46] at b_t47
                rw [d_t46] at d_t47
                rw [w_t46] at w_t47
                rw [u_t46] at u_t47
                rw [v_t46] at v_t47
                rw [d_t47] at y_t47
                clear d_t46 w_t46 u_t46 v_t46 e_t46 a_t46 b_t46
                have I_n_t47 := I_n_t46.flat X_t47
                have f_n_t47 := f_n_t46.ex I_n_t46 (X_t47 0)
                have I_m_mdt0_t47 := I_m_mdt0_t46.flat X_t47
                have f_m_mdt0_t47 := f_m_mdt0_t46.ex I_m_mdt0_t46 (X_t47 0)
                have z_t48 : m_at t47 < m_ct t47 := lo_ne (Nat.ne_of_gt (show 0 < lo t47 (m_at t47) from by omega))
                refine Kp_at C_t47 (fun t48 C_t48 X_t48 a_t48 b_t48 d_t48 w_t48 u_t48 v_t48 j_t48 l_t48 => ?_)
                have e_t48 := C_t48.2.2.2.1
                rw [a_t47] at a_t48
                rw [b_t47] at b_t48
                rw [d_t47] at d_t48
                rw [w_t47] at w_t48
                rw [u_t47] at u_t48
                rw [v_t47] at v_t48
                rw [a_t47, e_t47] at z_t48
                clear d_t47 w_t47 u_t47 v_t47 e_t47 a_t47 b_t47
                have I_n_t48 := I_n_t47.flat X_t48
                have f_n_t48 := f_n_t47.ex I_n_t47 (X_t48 0)
                have I_m_mdt0_t48 := I_m_mdt0_t47.flat X_t48
                have f_m_mdt0_t48 := f_m_mdt0_t47.ex I_m_mdt0_t47 (X_t48 0)
                refine Kp_push C_t48 (by omega) (fun t49 C_t49 X_t49 a_t49 b_t49 d_t49 w_t49 u_t49 v_t49 j_t49 l_t49 => ?_)
                have e_t49 := C_t49.2.2.2.1
                rw [a_t48] at a_t49
                rw [b_t48] at b_t49
                rw [d_t48] at d_t49
                rw [w_t48] at w_t49
                rw [u_t48] at u_t49
                rw [v_t48] at v_t49
                clear d_t48 w_t48 u_t48 v_t48 e_t48 a_t48 b_t48
                have I_n_t49 := I_n_t48.flat X_t49
                have f_n_t49 := f_n_t48.ex I_n_t48 (X_t49 0)
                have I_m_mdt0_t49 := I_m_mdt0_t48.flat X_t49
                have f_m_mdt0_t49 := f_m_mdt0_t48.ex I_m_mdt0_t48 (X_t49 0)
                refine Ok_ret (show Ok _ _ _ from ?_)
                refine Ok_ret (show Ok _ _ _ from ?_)
                refine Hv_mk (Kv_c (x := (14, m_md t0, 0)) rfl hK) (C_t49.1.2.2.2.2.2.2 hTt) C_t49 hT (by omega) (by omega) (by omega) ?_ ?_ ?_ (by omega) ?_ ?_ ?_
                · exact ⟨(Io_n (by decide) (by decide) I_m_mdt0_t49.1 I_m_mdt0_t49.2.1 I_m_mdt0_t49.2.2.1 (fun q => absurd q (by decide)) (fun q => absurd q (by decide)) I_m_mdt0_t49.2.2.2), (Nd_0 (by decide) Mo_nil), Stk_step (N := n) (pop := (5, n, t)) (new := [(14, m_md t0, 0)]) F0 C_t49.1.to2 (fun (h : nk 5 = false) => absurd h (by decide)) (fun q _ h => h (5, n, t) rfl) (fun _ => rfl) (fun y hy hk => ⟨rfl, (Mo_cons (fun q => show n ≤ m_md t0 from by omega) Mo_nil) y hy hk⟩) (fun (h : 5 = 3 ∨ 5 = 18 ∨ 5 = 41) => absurd h (by decide)) (fun (h : 5 = 18) => absurd h (by decide)) (fun (h : 5 = 41 ∨ 5 = 42 ∨ 5 = 43) => absurd h (by decide)) r [] (fun y hy => absurd hy List.not_mem_nil) hS⟩
                · exact (Aj_sub (y := (14, m_md t0, 0)) hJ (Nat.le_of_ble_eq_true rfl))
                · show m_dp t49 = (dlt 14 + sD r)
                  have : dlt 14 = 1 := rfl; have : dlt 5 = 0 := rfl; omega
                · show m_rw t49 = (rho 14 + sR r)
                  have : rho 14 = 0 := rfl; have : rho 5 = 0 := rfl; omega
                · show m_md t49 + (mu7 14 + sM r) ≤ 3 * m_at t49 + 7 * (r.length + 1) + 10
                  have : mu7 14 = 4 := rfl; have : mu7 5 = 7 := rfl; omega
                · show (wt 14 + sW r) + 6 * (4096 - m_at t49) + 4 * (600 - (r.length + 1)) < (wt 5 + sW r) + 6 * (4096 - m_at t0) + 4 * (600 - (r.length + 1))
                  have : wt 14 = 3 := rfl; have : wt 5 = 5 := rfl; omega
              · have w_t47 := Nat.pos_of_ne_zero w_t47
                have I_n_t47 := I_n_t46.flat X_t47
                have f_n_t47 := f_n_t46.ex I_n_t46 (X_t47 0)
                have I_m_mdt0_t47 := I_m_mdt0_t46.flat X_t47
                have f_m_mdt0_t47 := f_m_mdt0_t46.ex I_m_mdt0_t46 (X_t47 0)
                refine Kp_at C_t47 (fun t50 C_t50 X_t50 a_t50 b_t50 d_t50 w_t50 u_t50 v_t50 j_t50 l_t50 => ?_)
                have e_t50 := C_t50.2.2.2.1
                have I_n_t50 := I_n_t47.flat X_t50
                have f_n_t50 := f_n_t47.ex I_n_t47 (X_t50 0)
                have I_m_mdt0_t50 := I_m_mdt0_t47.flat X_t50
                have f_m_mdt0_t50 := f_m_mdt0_t47.ex I_m_mdt0_t47 (X_t50 0)
                refine Kp_push C_t50 (by omega) (fun t51 C_t51 X_t51 a_t51 b_t51 d_t51 w_t51 u_t51 v_t51 j_t51 l_t51 => ?_)
                have e_t51 := C_t51.2.2.2.1
                have I_n_t51 := I_n_t50.flat X_t51
                have f_n_t51 := f_n_t50.ex I_n_t50 (X_t51 0)
                have I_m_mdt0_t51 := I_m_mdt0_t50.flat X_t51
                have f_m_mdt0_t51 := f_m_mdt0_t50.ex I_m_mdt0_t50 (X_t51 0)
                refine Ok_ret (show Ok _ _ _ from ?_)
                refine Ok_ret (show Ok _ _ _ from ?_)
                exact Or.inl ⟨Nat.ne_of_gt (show 0 < m_wr t51 from by omega), by omega, by omega, C_t51.2.2.2.2.2, by omega⟩
            · try unfold lp_X6_literal_101
              refine Ok_ifz0 ?_
              refine Ok_ret (show Ok _ _ _ from ?_)
              refine Ok_ret (show Ok _ _ _ from ?_)
              refine Hv_mk hK (C_t0.1.2.2.2.2.2.2 hTt) C_t0 hT (by omega) (by omega) (by omega) ?_ ?_ ?_ (by omega) ?_ ?_ ?_
              · exact Stk_step (N := n) (pop := (5, n, t)) (new := []) F0 C_t0.1.to2 (fun (h : nk 5 = false) => absurd h (by decide)) (fun q _ h => h (5, n, t) rfl) (fun _ => rfl) (fun y hy hk => ⟨rfl, Mo_nil (n := n) y hy hk⟩) (fun (h : 5 = 3 ∨ 5 = 18 ∨ 5 = 41) => absurd h (by decide)) (fun (h : 5 = 18) => absurd h (by decide)) (fun (h : 5 = 41 ∨ 5 = 42 ∨ 5 = 43) => absurd h (by decide)) r [] (fun y hy => absurd hy List.not_mem_nil) hS
              · exact Aj_tl hJ
              · show m_dp t0 = sD r
                have : dlt 5 = 0 := rfl; omega
              · show m_rw t0 = sR r
                have : rho 5 = 0 := rfl; omega
              · show m_md t0 + sM r ≤ 3 * m_at t0 + 7 * (r.length) + 10
                have : mu7 5 = 7 := rfl; omega
              · show sW r + 6 * (4096 - m_at t0) + 4 * (600 - (r.length)) < (wt 5 + sW r) + 6 * (4096 - m_at t0) + 4 * (600 - (r.length + 1))
                have : wt 5 = 5 := rfl; omega
    · try unfold lp_X6_literal_59
      refine Ok_ifl (Nat.lt_trans (C_t0.2.2.2.2.2.2.1 _) (by decide)) (by decide) (fun q52 => ?_) (fun q52 => ?_)
      · try unfold lp_X6_literal_73
        refine Ok_ife (Nat.lt_trans (C_t0.2.2.2.2.2.2.1 _) (by decide)) (by decide) (fun q53 => ?_) (fun q53 => ?_)
        · try unfold lp_X6_literal_80
          try unfold lp_X6_literal_87
          refine Kp_look C_t0 hT (by omega) ?_
          refine Ok_ife (Nat.lt_trans (lo_lt (C_t0.tk hT) _) (by decide)) (by decide) (fun q54 => ?_) (fun q54 => ?_)
          · refine Ok_ifz1 ?_
            refine Kp_wrap C_t0 I_n_t0.1 I_n_t0.2.1 f_n_t0 I_n_t0.2.2.1 (by omega) (by omega) (by decide) (fun t55 C_t55 X_t55 a_t55 b_t55 d_t55 w_t55 u_t55 v_t55 j_t55 l_t55 => ?_)
            have e_t55 := C_t55.2.2.2.1
            have I_n_t55 := I_n_t0.le X_t55 (by omega)
            have f_n_t55 := f_n_t0.ex I_n_t0 (X_t55 0 (Nat.zero_le _))
            have I_m_mdt0_t55 : Nq t55 (m_md t0) := Nq.wrn j_t55 (by omega) I_n_t0 (by decide)
            have f_m_mdt0_t55 : Fz t55 (m_md t0) := by unfold Fz; rw [j_t55.2.1]; exact j_t55.2.2.1
            refine Kp_more C_t55 (by omega) (by omega) (fun t56 C_t56 X_t56 a_t56 b_t56 d_t56 w_t56 u_t56 v_t56 j_t56 l_t56 => ?_)
            have e_t56 := C_t56.2.2.2.1
            rcases w_t56 with ⟨w_t56, y_t56⟩ | ⟨w_t56, wb_t56⟩
            · rw [a_t55] at a_t56
              rw [b_t55] at b_t56
              rw [d_t55] at d_t56
              rw [w_t55] at w_t56
              rw [u_t55] at u_t56
              rw [v_t55] at v_t56
              rw [d_t56] at y_t56
              clear d_t55 w_t55 u_t55 v_t55 e_t55 a_t55 b_t55
              have I_n_t56 := I_n_t55.flat X_t56
              have f_n_t56 := f_n_t55.ex I_n_t55 (X_t56 0)
              have I_m_mdt0_t56 := I_m_mdt0_t55.flat X_t56
              have f_m_mdt0_t56 := f_m_mdt0_t55.ex I_m_mdt0_t55 (X_t56 0)
              have z_t57 : m_at t56 < m_ct t56 := lo_ne (Nat.ne_of_gt (show 0 < lo t56 (m_at t56) from by omega))
              refine Kp_at C_t56 (fun t57 C_t57 X_t57 a_t57 b_t57 d_t57 w_t57 u_t57 v_t57 j_t57 l_t57 => ?_)
              have e_t57 := C_t57.2.2.2.1
              rw [a_t56] at a_t57
              rw [b_t56] at b_t57
              rw [d_t56] at d_t57
              rw [w_t56] at w_t57
              rw [u_t56] at u_t57
              rw [v_t56] at v_t57
              rw [a_t56, e_t56] at z_t57
              clear d_t56 w_t56 u_t56 v_t56 e_t56 a_t56 b_t56
              have I_n_t57 := I_n_t56.flat X_t57
              have f_n_t57 := f_n_t56.ex I_n_t56 (X_t57 0)
              have I_m_mdt0_t57 := I_m_mdt0_t56.flat X_t57
              have f_m_mdt0_t57 := f_m_mdt0_t56.ex I_m_mdt0_t56 (X_t57 0)
              refine Kp_push C_t57 (by omega) (fun t58 C_t58 X_t58 a_t58 b_t58 d_t58 w_t58 u_t58 v_t58 j_t58 l_t58 => ?_)
              have e_t58 := C_t58.2.2.2.1
              rw [a_t57] at a_t58
              rw [b_t57] at b_t58
              rw [d_t57] at d_t58
              rw [w_t57] at w_t58
              rw [u_t57] at u_t58
              rw [v_t57] at v_t58
              clear d_t57 w_t57 u_t57 v_t57 e_t57 a_t57 b_t57
              have I_n_t58 := I_n_t57.flat X_t58
              have f_n_t58 := f_n_t57.ex I_n_t57 (X_t58 0)
              have I_m_mdt0_t58 := I_m_mdt0_t57.flat X_t58
              have f_m_mdt0_t58 := f_m_mdt0_t57.ex I_m_mdt0_t57 (X_t58 0)
              refine Ok_ret (show Ok _ _ _ from ?_)
              refine Ok_ret (show Ok _ _ _ from ?_)
              refine Hv_mk (Kv_c (x := (14, m_md t0, 0)) rfl hK) (C_t58.1.2.2.2.2.2.2 hTt) C_t58 hT (by omega) (by omega) (by omega) ?_ ?_ ?_ (by omega) ?_ ?_ ?_
              · exact ⟨(Io_n (by decide) (by decide) I_m_mdt0_t58.1 I_m_mdt0_t58.2.1 I_m_mdt0_t58.2.2.1 (fun q => absurd q (by decide)) (fun q => absurd q (by decide)) I_m_mdt0_t58.2.2.2), (Nd_0 (by decide) Mo_nil), Stk_step (N := n) (pop := (5, n, t)) (new := [(14, m_md t0, 0)]) F0 C_t58.1.to2 (fun (h : nk 5 = false) => absurd h (by decide)) (fun q _ h => h (5, n, t) rfl) (fun _ => rfl) (fun y hy hk => ⟨rfl, (Mo_cons (fun q => show n ≤ m_md t0 from by omega) Mo_nil) y hy hk⟩) (fun (h : 5 = 3 ∨ 5 = 18 ∨ 5 = 41) => absurd h (by decide)) (fun (h : 5 = 18) => absurd h (by decide)) (fun (h : 5 = 41 ∨ 5 = 42 ∨ 5 = 43) => absurd h (by decide)) r [] (fun y hy => absurd hy List.not_mem_nil) hS⟩
              · exact (Aj_sub (y := (14, m_md t0, 0)) hJ (Nat.le_of_ble_eq_true rfl))
              · show m_dp t58 = (dlt 14 + sD r)
                have : dlt 14 = 1 := rfl; have : dlt 5 = 0 := rfl; omega
              · show m_rw t58 = (rho 14 + sR r)
                have : rho 14 = 0 := rfl; have : rho 5 = 0 := rfl; omega
              · show m_md t58 + (mu7 14 + sM r) ≤ 3 * m_at t58 + 7 * (r.length + 1) + 10
                have : mu7 14 = 4 := rfl; have : mu7 5 = 7 := rfl; omega
              · show (wt 14 + sW r) + 6 * (4096 - m_at t58) + 4 * (600 - (r.length + 1)) < (wt 5 + sW r) + 6 * (4096 - m_at t0) + 4 * (600 - (r.length + 1))
                have : wt 14 = 3 := rfl; have : wt 5 = 5 := rfl; omega
            · have w_t56 := Nat.pos_of_ne_zero w_t56
              have I_n_t56 := I_n_t55.flat X_t56
              have f_n_t56 := f_n_t55.ex I_n_t55 (X_t56 0)
              have I_m_mdt0_t56 := I_m_mdt0_t55.flat X_t56
              have f_m_mdt0_t56 := f_m_mdt0_t55.ex I_m_mdt0_t55 (X_t56 0)
              refine Kp_at C_t56 (fun t59 C_t59 X_t59 a_t59 b_t59 d_t59 w_t59 u_t59 v_t59 j_t59 l_t59 => ?_)
              have e_t59 := C_t59.2.2.2.1
              have I_n_t59 := I_n_t56.flat X_t59
              have f_n_t59 := f_n_t56.ex I_n_t56 (X_t59 0)
              have I_m_mdt0_t59 := I_m_mdt0_t56.flat X_t59
              have f_m_mdt0_t59 := f_m_mdt0_t56.ex I_m_mdt0_t56 (X_t59 0)
              refine Kp_push C_t59 (by omega) (fun t60 C_t60 X_t60 a_t60 b_t60 d_t60 w_t60 u_t60 v_t60 j_t60 l_t60 => ?_)
              have e_t60 := C_t60.2.2.2.1
              have I_n_t60 := I_n_t59.flat X_t60
              have f_n_t60 := f_n_t59.ex I_n_t59 (X_t60 0)
              have I_m_mdt0_t60 := I_m_mdt0_t59.flat X_t60
              have f_m_mdt0_t60 := f_m_mdt0_t59.ex I_m_mdt0_t59 (X_t60 0)
              refine Ok_ret (show Ok _ _ _ from ?_)
              refine Ok_ret (show Ok _ _ _ from ?_)
              exact Or.inl ⟨Nat.ne_of_gt (show 0 < m_wr t60 from by omega), by omega, by omega, C_t60.2.2.2.2.2, by omega⟩
          · try unfold lp_X6_literal_101
            refine Ok_ifz0 ?_
            refine Ok_ret (show Ok _ _ _ from ?_)
            refine Ok_ret (show Ok _ _ _ from ?_)
            refine Hv_mk hK (C_t0.1.2.2.2.2.2.2 hTt) C_t0 hT (by omega) (by omega) (by omega) ?_ ?_ ?_ (by omega) ?_ ?_ ?_
            · exact Stk_step (N := n) (pop := (5, n, t)) (new := []) F0 C_t0.1.to2 (fun (h : nk 5 = false) => absurd h (by decide)) (fun q _ h => h (5, n, t) rfl) (fun _ => rfl) (fun y hy hk => ⟨rfl, Mo_nil (n := n) y hy hk⟩) (fun (h : 5 = 3 ∨ 5 = 18 ∨ 5 = 41) => absurd h (by decide)) (fun (h : 5 = 18) => absurd h (by decide)) (fun (h : 5 = 41 ∨ 5 = 42 ∨ 5 = 43) => absurd h (by decide)) r [] (fun y hy => absurd hy List.not_mem_nil) hS
            · exact Aj_tl hJ
            · show m_dp t0 = sD r
              have : dlt 5 = 0 := rfl; omega
            · show m_rw t0 = sR r
              have : rho 5 = 0 := rfl; omega
            · show m_md t0 + sM r ≤ 3 * m_at t0 + 7 * (r.length) + 10
              have : mu7 5 = 7 := rfl; omega
            · show sW r + 6 * (4096 - m_at t0) + 4 * (600 - (r.length)) < (wt 5 + sW r) + 6 * (4096 - m_at t0) + 4 * (600 - (r.length + 1))
              have : wt 5 = 5 := rfl; omega
        · try unfold lp_X6_literal_87
          refine Kp_look C_t0 hT (by omega) ?_
          refine Ok_ife (Nat.lt_trans (lo_lt (C_t0.tk hT) _) (by decide)) (by decide) (fun q61 => ?_) (fun q61 => ?_)
          · refine Ok_ifz0 ?_
            try unfold lp_X6_literal_101
            refine Ok_ifz0 ?_
            refine Ok_ret (show Ok _ _ _ from ?_)
            refine Ok_ret (show Ok _ _ _ from ?_)
            refine Hv_mk hK (C_t0.1.2.2.2.2.2.2 hTt) C_t0 hT (by omega) (by omega) (by omega) ?_ ?_ ?_ (by omega) ?_ ?_ ?_
            · exact Stk_step (N := n) (pop := (5, n, t)) (new := []) F0 C_t0.1.to2 (fun (h : nk 5 = false) => absurd h (by decide)) (fun q _ h => h (5, n, t) rfl) (fun _ => rfl) (fun y hy hk => ⟨rfl, Mo_nil (n := n) y hy hk⟩) (fun (h : 5 = 3 ∨ 5 = 18 ∨ 5 = 41) => absurd h (by decide)) (fun (h : 5 = 18) => absurd h (by decide)) (fun (h : 5 = 41 ∨ 5 = 42 ∨ 5 = 43) => absurd h (by decide)) r [] (fun y hy => absurd hy List.not_mem_nil) hS
            · exact Aj_tl hJ
            · show m_dp t0 = sD r
              have : dlt 5 = 0 := rfl; omega
            · show m_rw t0 = sR r
              have : rho 5 = 0 := rfl; omega
            · show m_md t0 + sM r ≤ 3 * m_at t0 + 7 * (r.length) + 10
              have : mu7 5 = 7 := rfl; omega
            · show sW r + 6 * (4096 - m_at t0) + 4 * (600 - (r.length)) < (wt 5 + sW r) + 6 * (4096 - m_at t0) + 4 * (600 - (r.length + 1))
              have : wt 5 = 5 := rfl; omega
          · try unfold lp_X6_literal_101
            refine Ok_ifz0 ?_
            refine Ok_ret (show Ok _ _ _ from ?_)
            refine Ok_ret (show Ok _ _ _ from ?_)
            refine Hv_mk hK (C_t0.1.2.2.2.2.2.2 hTt) C_t0 hT (by omega) (by omega) (by omega) ?_ ?_ ?_ (by omega) ?_ ?_ ?_
            · exact Stk_step (N := n) (pop := (5, n, t)) (new := []) F0 C_t0.1.to2 (fun (h : nk 5 = false) => absurd h (by decide)) (fun q _ h => h (5, n, t) rfl) (fun _ => rfl) (fun y hy hk => ⟨rfl, Mo_nil (n := n) y hy hk⟩) (fun (h : 5 = 3 ∨ 5 = 18 ∨ 5 = 41) => absurd h (by decide)) (fun (h : 5 = 18) => absurd h (by decide)) (fun (h : 5 = 41 ∨ 5 = 42 ∨ 5 = 43) => absurd h (by decide)) r [] (fun y hy => absurd hy List.not_mem_nil) hS
            · exact Aj_tl hJ
            · show m_dp t0 = sD r
              have : dlt 5 = 0 := rfl; omega
            · show m_rw t0 = sR r
              have : rho 5 = 0 := rfl; omega
            · show m_md t0 + sM r ≤ 3 * m_at t0 + 7 * (r.length) + 10
              have : mu7 5 = 7 := rfl; omega
            · show sW r + 6 * (4096 - m_at t0) + 4 * (600 - (r.length)) < (wt 5 + sW r) + 6 * (4096 - m_at t0) + 4 * (600 - (r.length + 1))
              have : wt 5 = 5 := rfl; omega
      · refine Ok_ifl (by decide) (Nat.lt_trans (C_t0.2.2.2.2.2.2.1 _) (by decide)) (fun q62 => ?_) (fun q62 => ?_)
        · try unfold lp_X6_literal_73
          refine Ok_ife (Nat.lt_trans (C_t0.2.2.2.2.2.2.1 _) (by decide)) (by decide) (fun q63 => ?_) (fun q63 => ?_)
          · try unfold lp_X6_literal_80
            try unfold lp_X6_literal_87
            refine Kp_look C_t0 hT (by omega) ?_
            refine Ok_ife (Nat.lt_trans (lo_lt (C_t0.tk hT) _) (by decide)) (by decide) (fun q64 => ?_) (fun q64 => ?_)
            · refine Ok_ifz1 ?_
              refine Kp_wrap C_t0 I_n_t0.1 I_n_t0.2.1 f_n_t0 I_n_t0.2.2.1 (by omega) (by omega) (by decide) (fun t65 C_t65 X_t65 a_t65 b_t65 d_t65 w_t65 u_t65 v_t65 j_t65 l_t65 => ?_)
              have e_t65 := C_t65.2.2.2.1
              have I_n_t65 := I_n_t0.le X_t65 (by omega)
              have f_n_t65 := f_n_t0.ex I_n_t0 (X_t65 0 (Nat.zero_le _))
              have I_m_mdt0_t65 : Nq t65 (m_md t0) := Nq.wrn j_t65 (by omega) I_n_t0 (by decide)
              have f_m_mdt0_t65 : Fz t65 (m_md t0) := by unfold Fz; rw [j_t65.2.1]; exact j_t65.2.2.1
              refine Kp_more C_t65 (by omega) (by omega) (fun t66 C_t66 X_t66 a_t66 b_t66 d_t66 w_t66 u_t66 v_t66 j_t66 l_t66 => ?_)
              have e_t66 := C_t66.2.2.2.1
              rcases w_t66 with ⟨w_t66, y_t66⟩ | ⟨w_t66, wb_t66⟩
              · rw [a_t65] at a_t66
                rw [b_t65] at b_t66
                rw [d_t65] at d_t66
                rw [w_t65] at w_t66
                rw [u_t65] at u_t66
                rw [v_t65] at v_t66
                rw [d_t66] at y_t66
                clear d_t65 w_t65 u_t65 v_t65 e_t65 a_t65 b_t65
                have I_n_t66 := I_n_t65.flat X_t66
                have f_n_t66 := f_n_t65.ex I_n_t65 (X_t66 0)
                have I_m_mdt0_t66 := I_m_mdt0_t65.flat X_t66
                have f_m_mdt0_t66 := f_m_mdt0_t65.ex I_m_mdt0_t65 (X_t66 0)
                have z_t67 : m_at t66 < m_ct t66 := lo_ne (Nat.ne_of_gt (show 0 < lo t66 (m_at t66) from by omega))
                refine Kp_at C_t66 (fun t67 C_t67 X_t67 a_t67 b_t67 d_t67 w_t67 u_t67 v_t67 j_t67 l_t67 => ?_)
                have e_t67 := C_t67.2.2.2.1
                rw [a_t66] at a_t67
                rw [b_t66] at b_t67
                rw [d_t66] at d_t67
                rw [w_t66] at w_t67
                rw [u_t66] at u_t67
                rw [v_t66] at v_t67
                rw [a_t66, e_t66] at z_t67
                clear d_t66 w_t66 u_t66 v_t66 e_t66 a_t66 b_t66
                have I_n_t67 := I_n_t66.flat X_t67
                have f_n_t67 := f_n_t66.ex I_n_t66 (X_t67 0)
                have I_m_mdt0_t67 := I_m_mdt0_t66.flat X_t67
                have f_m_mdt0_t67 := f_m_mdt0_t66.ex I_m_mdt0_t66 (X_t67 0)
                refine Kp_push C_t67 (by omega) (fun t68 C_t68 X_t68 a_t68 b_t68 d_t68 w_t68 u_t68 v_t68 j_t68 l_t68 => ?_)
                have e_t68 := C_t68.2.2.2.1
                rw [a_t67] at a_t68
                rw [b_t67] at b_t68
                rw [d_t67] at d_t68
                rw [w_t67] at w_t68
                rw [u_t67] at u_t68
                rw [v_t67] at v_t68
                clear d_t67 w_t67 u_t67 v_t67 e_t67 a_t67 b_t67
                have I_n_t68 := I_n_t67.flat X_t68
                have f_n_t68 := f_n_t67.ex I_n_t67 (X_t68 0)
                have I_m_mdt0_t68 := I_m_mdt0_t67.flat X_t68
                have f_m_mdt0_t68 := f_m_mdt0_t67.ex I_m_mdt0_t67 (X_t68 0)
                refine Ok_ret (show Ok _ _ _ from ?_)
                refine Ok_ret (show Ok _ _ _ from ?_)
                refine Hv_mk (Kv_c (x := (14, m_md t0, 0)) rfl hK) (C_t68.1.2.2.2.2.2.2 hTt) C_t68 hT (by omega) (by omega) (by omega) ?_ ?_ ?_ (by omega) ?_ ?_ ?_
                · exact ⟨(Io_n (by decide) (by decide) I_m_mdt0_t68.1 I_m_mdt0_t68.2.1 I_m_mdt0_t68.2.2.1 (fun q => absurd q (by decide)) (fun q => absurd q (by decide)) I_m_mdt0_t68.2.2.2), (Nd_0 (by decide) Mo_nil), Stk_step (N := n) (pop := (5, n, t)) (new := [(14, m_md t0, 0)]) F0 C_t68.1.to2 (fun (h : nk 5 = false) => absurd h (by decide)) (fun q _ h => h (5, n, t) rfl) (fun _ => rfl) (fun y hy hk => ⟨rfl, (Mo_cons (fun q => show n ≤ m_md t0 from by omega) Mo_nil) y hy hk⟩) (fun (h : 5 = 3 ∨ 5 = 18 ∨ 5 = 41) => absurd h (by decide)) (fun (h : 5 = 18) => absurd h (by decide)) (fun (h : 5 = 41 ∨ 5 = 42 ∨ 5 = 43) => absurd h (by decide)) r [] (fun y hy => absurd hy List.not_mem_nil) hS⟩
                · exact (Aj_sub (y := (14, m_md t0, 0)) hJ (Nat.le_of_ble_eq_true rfl))
                · show m_dp t68 = (dlt 14 + sD r)
                  have : dlt 14 = 1 := rfl; have : dlt 5 = 0 := rfl; omega
                · show m_rw t68 = (rho 14 + sR r)
                  have : rho 14 = 0 := rfl; have : rho 5 = 0 := rfl; omega
                · show m_md t68 + (mu7 14 + sM r) ≤ 3 * m_at t68 + 7 * (r.length + 1) + 10
                  have : mu7 14 = 4 := rfl; have : mu7 5 = 7 := rfl; omega
                · show (wt 14 + sW r) + 6 * (4096 - m_at t68) + 4 * (600 - (r.length + 1)) < (wt 5 + sW r) + 6 * (4096 - m_at t0) + 4 * (600 - (r.length + 1))
                  have : wt 14 = 3 := rfl; have : wt 5 = 5 := rfl; omega
              · have w_t66 := Nat.pos_of_ne_zero w_t66
                have I_n_t66 := I_n_t65.flat X_t66
                have f_n_t66 := f_n_t65.ex I_n_t65 (X_t66 0)
                have I_m_mdt0_t66 := I_m_mdt0_t65.flat X_t66
                have f_m_mdt0_t66 := f_m_mdt0_t65.ex I_m_mdt0_t65 (X_t66 0)
                refine Kp_at C_t66 (fun t69 C_t69 X_t69 a_t69 b_t69 d_t69 w_t69 u_t69 v_t69 j_t69 l_t69 => ?_)
                have e_t69 := C_t69.2.2.2.1
                have I_n_t69 := I_n_t66.flat X_t69
                have f_n_t69 := f_n_t66.ex I_n_t66 (X_t69 0)
                have I_m_mdt0_t69 := I_m_mdt0_t66.flat X_t69
                have f_m_mdt0_t69 := f_m_mdt0_t66.ex I_m_mdt0_t66 (X_t69 0)
                refine Kp_push C_t69 (by omega) (fun t70 C_t70 X_t70 a_t70 b_t70 d_t70 w_t70 u_t70 v_t70 j_t70 l_t70 => ?_)
                have e_t70 := C_t70.2.2.2.1
                have I_n_t70 := I_n_t69.flat X_t70
                have f_n_t70 := f_n_t69.ex I_n_t69 (X_t70 0)
                have I_m_mdt0_t70 := I_m_mdt0_t69.flat X_t70
                have f_m_mdt0_t70 := f_m_mdt0_t69.ex I_m_mdt0_t69 (X_t70 0)
                refine Ok_ret (show Ok _ _ _ from ?_)
                refine Ok_ret (show Ok _ _ _ from ?_)
                exact Or.inl ⟨Nat.ne_of_gt (show 0 < m_wr t70 from by omega), by omega, by omega, C_t70.2.2.2.2.2, by omega⟩
            · try unfold lp_X6_literal_101
              refine Ok_ifz0 ?_
              refine Ok_ret (show Ok _ _ _ from ?_)
              refine Ok_ret (show Ok _ _ _ from ?_)
              refine Hv_mk hK (C_t0.1.2.2.2.2.2.2 hTt) C_t0 hT (by omega) (by omega) (by omega) ?_ ?_ ?_ (by omega) ?_ ?_ ?_
              · exact Stk_step (N := n) (pop := (5, n, t)) (new := []) F0 C_t0.1.to2 (fun (h : nk 5 = false) => absurd h (by decide)) (fun q _ h => h (5, n, t) rfl) (fun _ => rfl) (fun y hy hk => ⟨rfl, Mo_nil (n := n) y hy hk⟩) (fun (h : 5 = 3 ∨ 5 = 18 ∨ 5 = 41) => absurd h (by decide)) (fun (h : 5 = 18) => absurd h (by decide)) (fun (h : 5 = 41 ∨ 5 = 42 ∨ 5 = 43) => absurd h (by decide)) r [] (fun y hy => absurd hy List.not_mem_nil) hS
              · exact Aj_tl hJ
              · show m_dp t0 = sD r
                have : dlt 5 = 0 := rfl; omega
              · show m_rw t0 = sR r
                have : rho 5 = 0 := rfl; omega
              · show m_md t0 + sM r ≤ 3 * m_at t0 + 7 * (r.length) + 10
                have : mu7 5 = 7 := rfl; omega
              · show sW r + 6 * (4096 - m_at t0) + 4 * (600 - (r.length)) < (wt 5 + sW r) + 6 * (4096 - m_at t0) + 4 * (600 - (r.length + 1))
                have : wt 5 = 5 := rfl; omega
          · try unfold lp_X6_literal_87
            refine Kp_look C_t0 hT (by omega) ?_
            refine Ok_ife (Nat.lt_trans (lo_lt (C_t0.tk hT) _) (by decide)) (by decide) (fun q71 => ?_) (fun q71 => ?_)
            · refine Ok_ifz0 ?_
              try unfold lp_X6_literal_101
              refine Ok_ifz0 ?_
              refine Ok_ret (show Ok _ _ _ from ?_)
              refine Ok_ret (show Ok _ _ _ from ?_)
              refine Hv_mk hK (C_t0.1.2.2.2.2.2.2 hTt) C_t0 hT (by omega) (by omega) (by omega) ?_ ?_ ?_ (by omega) ?_ ?_ ?_
              · exact Stk_step (N := n) (pop := (5, n, t)) (new := []) F0 C_t0.1.to2 (fun (h : nk 5 = false) => absurd h (by decide)) (fun q _ h => h (5, n, t) rfl) (fun _ => rfl) (fun y hy hk => ⟨rfl, Mo_nil (n := n) y hy hk⟩) (fun (h : 5 = 3 ∨ 5 = 18 ∨ 5 = 41) => absurd h (by decide)) (fun (h : 5 = 18) => absurd h (by decide)) (fun (h : 5 = 41 ∨ 5 = 42 ∨ 5 = 43) => absurd h (by decide)) r [] (fun y hy => absurd hy List.not_mem_nil) hS
              · exact Aj_tl hJ
              · show m_dp t0 = sD r
                have : dlt 5 = 0 := rfl; omega
              · show m_rw t0 = sR r
                have : rho 5 = 0 := rfl; omega
              · show m_md t0 + sM r ≤ 3 * m_at t0 + 7 * (r.length) + 10
                have : mu7 5 = 7 := rfl; omega
              · show sW r + 6 * (4096 - m_at t0) + 4 * (600 - (r.length)) < (wt 5 + sW r) + 6 * (4096 - m_at t0) + 4 * (600 - (r.length + 1))
                have : wt 5 = 5 := rfl; omega
            · try unfold lp_X6_literal_101
              refine Ok_ifz0 ?_
              refine Ok_ret (show Ok _ _ _ from ?_)
              refine Ok_ret (show Ok _ _ _ from ?_)
              refine Hv_mk hK (C_t0.1.2.2.2.2.2.2 hTt) C_t0 hT (by omega) (by omega) (by omega) ?_ ?_ ?_ (by omega) ?_ ?_ ?_
              · exact Stk_step (N := n) (pop := (5, n, t)) (new := []) F0 C_t0.1.to2 (fun (h : nk 5 = false) => absurd h (by decide)) (fun q _ h => h (5, n, t) rfl) (fun _ => rfl) (fun y hy hk => ⟨rfl, Mo_nil (n := n) y hy hk⟩) (fun (h : 5 = 3 ∨ 5 = 18 ∨ 5 = 41) => absurd h (by decide)) (fun (h : 5 = 18) => absurd h (by decide)) (fun (h : 5 = 41 ∨ 5 = 42 ∨ 5 = 43) => absurd h (by decide)) r [] (fun y hy => absurd hy List.not_mem_nil) hS
              · exact Aj_tl hJ
              · show m_dp t0 = sD r
                have : dlt 5 = 0 := rfl; omega
              · show m_rw t0 = sR r
                have : rho 5 = 0 := rfl; omega
              · show m_md t0 + sM r ≤ 3 * m_at t0 + 7 * (r.length) + 10
                have : mu7 5 = 7 := rfl; omega
              · show sW r + 6 * (4096 - m_at t0) + 4 * (600 - (r.length)) < (wt 5 + sW r) + 6 * (4096 - m_at t0) + 4 * (600 - (r.length + 1))
                have : wt 5 = 5 := rfl; omega
        · try unfold lp_X6_literal_80
          try unfold lp_X6_literal_87
          refine Kp_look C_t0 hT (by omega) ?_
          refine Ok_ife (Nat.lt_trans (lo_lt (C_t0.tk hT) _) (by decide)) (by decide) (fun q72 => ?_) (fun q72 => ?_)
          · refine Ok_ifz1 ?_
            refine Kp_wrap C_t0 I_n_t0.1 I_n_t0.2.1 f_n_t0 I_n_t0.2.2.1 (by omega) (by omega) (by decide) (fun t73 C_t73 X_t73 a_t73 b_t73 d_t73 w_t73 u_t73 v_t73 j_t73 l_t73 => ?_)
            have e_t73 := C_t73.2.2.2.1
            have I_n_t73 := I_n_t0.le X_t73 (by omega)
            have f_n_t73 := f_n_t0.ex I_n_t0 (X_t73 0 (Nat.zero_le _))
            have I_m_mdt0_t73 : Nq t73 (m_md t0) := Nq.wrn j_t73 (by omega) I_n_t0 (by decide)
            have f_m_mdt0_t73 : Fz t73 (m_md t0) := by unfold Fz; rw [j_t73.2.1]; exact j_t73.2.2.1
            refine Kp_more C_t73 (by omega) (by omega) (fun t74 C_t74 X_t74 a_t74 b_t74 d_t74 w_t74 u_t74 v_t74 j_t74 l_t74 => ?_)
            have e_t74 := C_t74.2.2.2.1
            rcases w_t74 with ⟨w_t74, y_t74⟩ | ⟨w_t74, wb_t74⟩
            · rw [a_t73] at a_t74
              rw [b_t73] at b_t74
              rw [d_t73] at d_t74
              rw [w_t73] at w_t74
              rw [u_t73] at u_t74
              rw [v_t73] at v_t74
              rw [d_t74] at y_t74
              clear d_t73 w_t73 u_t73 v_t73 e_t73 a_t73 b_t73
              have I_n_t74 := I_n_t73.flat X_t74
              have f_n_t74 := f_n_t73.ex I_n_t73 (X_t74 0)
              have I_m_mdt0_t74 := I_m_mdt0_t73.flat X_t74
              have f_m_mdt0_t74 := f_m_mdt0_t73.ex I_m_mdt0_t73 (X_t74 0)
              have z_t75 : m_at t74 < m_ct t74 := lo_ne (Nat.ne_of_gt (show 0 < lo t74 (m_at t74) from by omega))
              refine Kp_at C_t74 (fun t75 C_t75 X_t75 a_t75 b_t75 d_t75 w_t75 u_t75 v_t75 j_t75 l_t75 => ?_)
              have e_t75 := C_t75.2.2.2.1
              rw [a_t74] at a_t75
              rw [b_t74] at b_t75
              rw [d_t74] at d_t75
              rw [w_t74] at w_t75
              rw [u_t74] at u_t75
              rw [v_t74] at v_t75
              rw [a_t74, e_t74] at z_t75
              clear d_t74 w_t74 u_t74 v_t74 e_t74 a_t74 b_t74
              have I_n_t75 := I_n_t74.flat X_t75
              have f_n_t75 := f_n_t74.ex I_n_t74 (X_t75 0)
              have I_m_mdt0_t75 := I_m_mdt0_t74.flat X_t75
              have f_m_mdt0_t75 := f_m_mdt0_t74.ex I_m_mdt0_t74 (X_t75 0)
              refine Kp_push C_t75 (by omega) (fun t76 C_t76 X_t76 a_t76 b_t76 d_t76 w_t76 u_t76 v_t76 j_t76 l_t76 => ?_)
              have e_t76 := C_t76.2.2.2.1
              rw [a_t75] at a_t76
              rw [b_t75] at b_t76
              rw [d_t75] at d_t76
              rw [w_t75] at w_t76
              rw [u_t75] at u_t76
              rw [v_t75] at v_t76
              clear d_t75 w_t75 u_t75 v_t75 e_t75 a_t75 b_t75
              have I_n_t76 := I_n_t75.flat X_t76
              have f_n_t76 := f_n_t75.ex I_n_t75 (X_t76 0)
              have I_m_mdt0_t76 := I_m_mdt0_t75.flat X_t76
              have f_m_mdt0_t76 := f_m_mdt0_t75.ex I_m_mdt0_t75 (X_t76 0)
              refine Ok_ret (show Ok _ _ _ from ?_)
              refine Ok_ret (show Ok _ _ _ from ?_)
              refine Hv_mk (Kv_c (x := (14, m_md t0, 0)) rfl hK) (C_t76.1.2.2.2.2.2.2 hTt) C_t76 hT (by omega) (by omega) (by omega) ?_ ?_ ?_ (by omega) ?_ ?_ ?_
              · exact ⟨(Io_n (by decide) (by decide) I_m_mdt0_t76.1 I_m_mdt0_t76.2.1 I_m_mdt0_t76.2.2.1 (fun q => absurd q (by decide)) (fun q => absurd q (by decide)) I_m_mdt0_t76.2.2.2), (Nd_0 (by decide) Mo_nil), Stk_step (N := n) (pop := (5, n, t)) (new := [(14, m_md t0, 0)]) F0 C_t76.1.to2 (fun (h : nk 5 = false) => absurd h (by decide)) (fun q _ h => h (5, n, t) rfl) (fun _ => rfl) (fun y hy hk => ⟨rfl, (Mo_cons (fun q => show n ≤ m_md t0 from by omega) Mo_nil) y hy hk⟩) (fun (h : 5 = 3 ∨ 5 = 18 ∨ 5 = 41) => absurd h (by decide)) (fun (h : 5 = 18) => absurd h (by decide)) (fun (h : 5 = 41 ∨ 5 = 42 ∨ 5 = 43) => absurd h (by decide)) r [] (fun y hy => absurd hy List.not_mem_nil) hS⟩
              · exact (Aj_sub (y := (14, m_md t0, 0)) hJ (Nat.le_of_ble_eq_true rfl))
              · show m_dp t76 = (dlt 14 + sD r)
                have : dlt 14 = 1 := rfl; have : dlt 5 = 0 := rfl; omega
              · show m_rw t76 = (rho 14 + sR r)
                have : rho 14 = 0 := rfl; have : rho 5 = 0 := rfl; omega
              · show m_md t76 + (mu7 14 + sM r) ≤ 3 * m_at t76 + 7 * (r.length + 1) + 10
                have : mu7 14 = 4 := rfl; have : mu7 5 = 7 := rfl; omega
              · show (wt 14 + sW r) + 6 * (4096 - m_at t76) + 4 * (600 - (r.length + 1)) < (wt 5 + sW r) + 6 * (4096 - m_at t0) + 4 * (600 - (r.length + 1))
                have : wt 14 = 3 := rfl; have : wt 5 = 5 := rfl; omega
            · have w_t74 := Nat.pos_of_ne_zero w_t74
              have I_n_t74 := I_n_t73.flat X_t74
              have f_n_t74 := f_n_t73.ex I_n_t73 (X_t74 0)
              have I_m_mdt0_t74 := I_m_mdt0_t73.flat X_t74
              have f_m_mdt0_t74 := f_m_mdt0_t73.ex I_m_mdt0_t73 (X_t74 0)
              refine Kp_at C_t74 (fun t77 C_t77 X_t77 a_t77 b_t77 d_t77 w_t77 u_t77 v_t77 j_t77 l_t77 => ?_)
              have e_t77 := C_t77.2.2.2.1
              have I_n_t77 := I_n_t74.flat X_t77
              have f_n_t77 := f_n_t74.ex I_n_t74 (X_t77 0)
              have I_m_mdt0_t77 := I_m_mdt0_t74.flat X_t77
              have f_m_mdt0_t77 := f_m_mdt0_t74.ex I_m_mdt0_t74 (X_t77 0)
              refine Kp_push C_t77 (by omega) (fun t78 C_t78 X_t78 a_t78 b_t78 d_t78 w_t78 u_t78 v_t78 j_t78 l_t78 => ?_)
              have e_t78 := C_t78.2.2.2.1
              have I_n_t78 := I_n_t77.flat X_t78
              have f_n_t78 := f_n_t77.ex I_n_t77 (X_t78 0)
              have I_m_mdt0_t78 := I_m_mdt0_t77.flat X_t78
              have f_m_mdt0_t78 := f_m_mdt0_t77.ex I_m_mdt0_t77 (X_t78 0)
              refine Ok_ret (show Ok _ _ _ from ?_)
              refine Ok_ret (show Ok _ _ _ from ?_)
              exact Or.inl ⟨Nat.ne_of_gt (show 0 < m_wr t78 from by omega), by omega, by omega, C_t78.2.2.2.2.2, by omega⟩
          · try unfold lp_X6_literal_101
            refine Ok_ifz0 ?_
            refine Ok_ret (show Ok _ _ _ from ?_)
            refine Ok_ret (show Ok _ _ _ from ?_)
            refine Hv_mk hK (C_t0.1.2.2.2.2.2.2 hTt) C_t0 hT (by omega) (by omega) (by omega) ?_ ?_ ?_ (by omega) ?_ ?_ ?_
            · exact Stk_step (N := n) (pop := (5, n, t)) (new := []) F0 C_t0.1.to2 (fun (h : nk 5 = false) => absurd h (by decide)) (fun q _ h => h (5, n, t) rfl) (fun _ => rfl) (fun y hy hk => ⟨rfl, Mo_nil (n := n) y hy hk⟩) (fun (h : 5 = 3 ∨ 5 = 18 ∨ 5 = 41) => absurd h (by decide)) (fun (h : 5 = 18) => absurd h (by decide)) (fun (h : 5 = 41 ∨ 5 = 42 ∨ 5 = 43) => absurd h (by decide)) r [] (fun y hy => absurd hy List.not_mem_nil) hS
            · exact Aj_tl hJ
            · show m_dp t0 = sD r
              have : dlt 5 = 0 := rfl; omega
            · show m_rw t0 = sR r
              have : rho 5 = 0 := rfl; omega
            · show m_md t0 + sM r ≤ 3 * m_at t0 + 7 * (r.length) + 10
              have : mu7 5 = 7 := rfl; omega
            · show sW r + 6 * (4096 - m_at t0) + 4 * (600 - (r.length)) < (wt 5 + sW r) + 6 * (4096 - m_at t0) + 4 * (600 - (r.length + 1))
              have : wt 5 = 5 := rfl; omega

