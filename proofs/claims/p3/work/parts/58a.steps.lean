/-! The steps of the reference, one by one. -/
theorem S_2 {t0 : Mm} {n t : Nat} {r : List It} (H : Hp t0 (2, n, t) r) {E : Mm → Prop} : Ok (Qh (mz t0 ((2, n, t) :: r))) E (b_X6_step 2 n t t0) := by
  obtain ⟨hK, hT, hc, hw0, ha, hC, hS, hJ, hdp, hdl, hrw, hmd, htd, hln, hm16, hI, hD, hTt⟩ := Hp_out H
  have C_t0 := hC n
  have F0 := C_t0.2.1
  have I_n_t0 : Nq t0 n := ⟨(hI.2.1 rfl).1, (hI.2.1 rfl).2.1, (hI.2.1 rfl).2.2, hI.2.2.2 rfl⟩
  have m_n_t0 := I_n_t0.1
  have ht : t < 4096 := hI.1.1 (show 2 ≠ 42 by decide) (show 2 ≠ 48 by decide)
  have hdp : m_dp t0 = dlt 2 + sD r := hdp
  have hrw : m_rw t0 = rho 2 + sR r := hrw
  have hmd : m_md t0 + mu7 2 + sM r ≤ 3 * m_at t0 + 7 * r.length + 17 := hmd
  have hand : t &&& 1 ≤ 1 := Nat.and_le_right
  have h01 : (0 &&& 1 : Nat) = 0 := rfl
  have hst := f6_strength (lo t0 (m_at t0))
  have ht2 : 1 ≤ t / 256 ∧ t / 256 ≤ 6 := hI.1.2.1 rfl
  have h02 : (1 : Nat) * 256 = 256 := rfl
  have hq1 : dlt 2 = 0 := rfl
  have hq2 : rho 2 = 0 := rfl
  have hq3 : mu7 2 = 7 := rfl
  have f_n_t0 : Fz t0 n := (hD.2.1 (show 2 = 2 ∨ 2 = 4 ∨ 2 = 42 ∨ 2 = 50 by decide)).resolve_right (fun ⟨y, hy, _⟩ => absurd hy List.not_mem_nil)
  unfold b_X6_step
  refine Ok_ifl (by decide) (by decide) (fun q => absurd q (by decide)) (fun _ => ?_)
  refine Ok_ife (by decide) (by decide) (fun _ => ?_) (fun q => absurd (by decide) q)
  refine Ok_bnc ?_
  try unfold b_X6_binary
  refine Kp_look C_t0 hT (by omega) ?_
  refine Ok_ck (Nat.lt_trans (lo_lt (C_t0.tk hT) _) (by decide)) ?_
  refine Ok_ck (show t < 2147483648 from by omega) ?_
  refine Ok_ifl (Nat.lt_trans (f6_strength _) (by decide)) (show t / 256 < 2147483648 from by omega) (fun q2 => ?_) (fun q2 => ?_)
  · refine Ok_ret (show Ok _ _ _ from ?_)
    refine Hv_mk hK (C_t0.1.2.2.2.2.2.2 hTt) C_t0 hT (by omega) (by omega) (by omega) ?_ ?_ ?_ (by omega) ?_ ?_ ?_
    · exact Stk_step (N := n) (pop := (2, n, t)) (new := []) F0 C_t0.1.to2 (fun (h : nk 2 = false) => absurd h (by decide)) (fun q _ h => h (2, n, t) rfl) (fun _ => rfl) (fun y hy hk => ⟨rfl, Mo_nil (n := n) y hy hk⟩) (fun (h : 2 = 3 ∨ 2 = 18 ∨ 2 = 41) => absurd h (by decide)) (fun (h : 2 = 18) => absurd h (by decide)) (fun (h : 2 = 41 ∨ 2 = 42 ∨ 2 = 43) => absurd h (by decide)) r [] (fun y hy => absurd hy List.not_mem_nil) hS
    · exact Aj_tl hJ
    · show m_dp t0 = sD r
      have : dlt 2 = 0 := rfl; omega
    · show m_rw t0 = sR r
      have : rho 2 = 0 := rfl; omega
    · show m_md t0 + sM r ≤ 3 * m_at t0 + 7 * (r.length) + 10
      have : mu7 2 = 7 := rfl; omega
    · show sW r + 6 * (4096 - m_at t0) + 4 * (600 - (r.length)) < (wt 2 + sW r) + 6 * (4096 - m_at t0) + 4 * (600 - (r.length + 1))
      have : wt 2 = 5 := rfl; omega
  · refine Ok_ifz (Nat.lt_trans (f6_strength _) (by decide)) (fun q3 => ?_) (fun q3 => ?_)
    · refine Ok_ret (show Ok _ _ _ from ?_)
      refine Hv_mk hK (C_t0.1.2.2.2.2.2.2 hTt) C_t0 hT (by omega) (by omega) (by omega) ?_ ?_ ?_ (by omega) ?_ ?_ ?_
      · exact Stk_step (N := n) (pop := (2, n, t)) (new := []) F0 C_t0.1.to2 (fun (h : nk 2 = false) => absurd h (by decide)) (fun q _ h => h (2, n, t) rfl) (fun _ => rfl) (fun y hy hk => ⟨rfl, Mo_nil (n := n) y hy hk⟩) (fun (h : 2 = 3 ∨ 2 = 18 ∨ 2 = 41) => absurd h (by decide)) (fun (h : 2 = 18) => absurd h (by decide)) (fun (h : 2 = 41 ∨ 2 = 42 ∨ 2 = 43) => absurd h (by decide)) r [] (fun y hy => absurd hy List.not_mem_nil) hS
      · exact Aj_tl hJ
      · show m_dp t0 = sD r
        have : dlt 2 = 0 := rfl; omega
      · show m_rw t0 = sR r
        have : rho 2 = 0 := rfl; omega
      · show m_md t0 + sM r ≤ 3 * m_at t0 + 7 * (r.length) + 10
        have : mu7 2 = 7 := rfl; omega
      · show sW r + 6 * (4096 - m_at t0) + 4 * (600 - (r.length)) < (wt 2 + sW r) + 6 * (4096 - m_at t0) + 4 * (600 - (r.length + 1))
        have : wt 2 = 5 := rfl; omega
    · have q3n := Nat.pos_of_ne_zero (n6_strength q3)
      refine Kp_wrap C_t0 I_n_t0.1 I_n_t0.2.1 f_n_t0 I_n_t0.2.2.1 (by omega) (by omega) (by decide) (fun t4 C_t4 X_t4 a_t4 b_t4 d_t4 w_t4 u_t4 v_t4 j_t4 l_t4 => ?_)
      have e_t4 := C_t4.2.2.2.1
      have I_n_t4 := I_n_t0.le X_t4 (by omega)
      have f_n_t4 := f_n_t0.ex I_n_t0 (X_t4 0 (Nat.zero_le _))
      have I_m_mdt0_t4 : Nq t4 (m_md t0) := Nq.wrn j_t4 (by omega) I_n_t0 (by decide)
      have f_m_mdt0_t4 : Fz t4 (m_md t0) := by unfold Fz; rw [j_t4.2.1]; exact j_t4.2.2.1
      have z_t5 : m_at t4 < m_ct t4 := lo_ne (Nat.ne_of_gt (show 0 < lo t4 (m_at t4) from by omega))
      refine Kp_at C_t4 (fun t5 C_t5 X_t5 a_t5 b_t5 d_t5 w_t5 u_t5 v_t5 j_t5 l_t5 => ?_)
      have e_t5 := C_t5.2.2.2.1
      rw [a_t4] at a_t5
      rw [b_t4] at b_t5
      rw [d_t4] at d_t5
      rw [w_t4] at w_t5
      rw [u_t4] at u_t5
      rw [v_t4] at v_t5
      rw [a_t4, e_t4] at z_t5
      clear d_t4 w_t4 u_t4 v_t4 e_t4 a_t4 b_t4
      have I_n_t5 := I_n_t4.flat X_t5
      have f_n_t5 := f_n_t4.ex I_n_t4 (X_t5 0)
      have I_m_mdt0_t5 := I_m_mdt0_t4.flat X_t5
      have f_m_mdt0_t5 := f_m_mdt0_t4.ex I_m_mdt0_t4 (X_t5 0)
      refine Ok_ck (show t < 4096 from by omega) ?_
      refine Kp_push C_t5 (by omega) (fun t6 C_t6 X_t6 a_t6 b_t6 d_t6 w_t6 u_t6 v_t6 j_t6 l_t6 => ?_)
      have e_t6 := C_t6.2.2.2.1
      rw [a_t5] at a_t6
      rw [b_t5] at b_t6
      rw [d_t5] at d_t6
      rw [w_t5] at w_t6
      rw [u_t5] at u_t6
      rw [v_t5] at v_t6
      clear d_t5 w_t5 u_t5 v_t5 e_t5 a_t5 b_t5
      have I_n_t6 := I_n_t5.flat X_t6
      have f_n_t6 := f_n_t5.ex I_n_t5 (X_t6 0)
      have I_m_mdt0_t6 := I_m_mdt0_t5.flat X_t6
      have f_m_mdt0_t6 := f_m_mdt0_t5.ex I_m_mdt0_t5 (X_t6 0)
      refine Ok_bnc ?_
      try unfold b_X6_expression
      refine Kp_push C_t6 (by omega) (fun t8 C_t8 X_t8 a_t8 b_t8 d_t8 w_t8 u_t8 v_t8 j_t8 l_t8 => ?_)
      have e_t8 := C_t8.2.2.2.1
      rw [a_t6] at a_t8
      rw [b_t6] at b_t8
      rw [d_t6] at d_t8
      rw [w_t6] at w_t8
      rw [u_t6] at u_t8
      rw [v_t6] at v_t8
      clear d_t6 w_t6 u_t6 v_t6 e_t6 a_t6 b_t6
      have I_n_t8 := I_n_t6.flat X_t8
      have f_n_t8 := f_n_t6.ex I_n_t6 (X_t8 0)
      have I_m_mdt0_t8 := I_m_mdt0_t6.flat X_t8
      have f_m_mdt0_t8 := f_m_mdt0_t6.ex I_m_mdt0_t6 (X_t8 0)
      refine Kp_push C_t8 (by omega) (fun t9 C_t9 X_t9 a_t9 b_t9 d_t9 w_t9 u_t9 v_t9 j_t9 l_t9 => ?_)
      have e_t9 := C_t9.2.2.2.1
      rw [a_t8] at a_t9
      rw [b_t8] at b_t9
      rw [d_t8] at d_t9
      rw [w_t8] at w_t9
      rw [u_t8] at u_t9
      rw [v_t8] at v_t9
      clear d_t8 w_t8 u_t8 v_t8 e_t8 a_t8 b_t8
      have I_n_t9 := I_n_t8.flat X_t9
      have f_n_t9 := f_n_t8.ex I_n_t8 (X_t9 0)
      have I_m_mdt0_t9 := I_m_mdt0_t8.flat X_t9
      have f_m_mdt0_t9 := f_m_mdt0_t8.ex I_m_mdt0_t8 (X_t9 0)
      refine Ok_ret (show Ok _ _ _ from ?_)
      refine Ok_ret (show Ok _ _ _ from ?_)
      refine Hv_mk (Kv_c (x := (3, m_md t0, t &&& 1)) rfl (Kv_c (x := (2, m_md t0, (t &&& 1) ||| (((f_X6_strength (lo t0 (m_at t0))) + 1) * 256))) rfl (Kv_c (x := (2, n, c2 t)) rfl hK))) (C_t9.1.2.2.2.2.2.2 hTt) C_t9 hT (by omega) (by omega) (by omega) ?_ ?_ ?_ (by omega) ?_ ?_ ?_
      · exact ⟨(Io_n (by decide) (show t &&& 1 < 4096 from by omega) I_m_mdt0_t9.1 I_m_mdt0_t9.2.1 I_m_mdt0_t9.2.2.1 (fun q => absurd q (by decide)) (fun q => absurd q (by decide)) I_m_mdt0_t9.2.2.2), (Nd_0 (by decide) Mo_nil), ⟨(Io_2 (by have := or_256 (b := ((f_X6_strength (lo t0 (m_at t0))) + 1)) (show (t &&& 1) < 256 from by omega); omega) (by have := or_256 (b := ((f_X6_strength (lo t0 (m_at t0))) + 1)) (show (t &&& 1) < 256 from by omega); omega) (by have := or_256 (b := ((f_X6_strength (lo t0 (m_at t0))) + 1)) (show (t &&& 1) < 256 from by omega); omega) I_m_mdt0_t9.1 I_m_mdt0_t9.2.1 I_m_mdt0_t9.2.2.1 I_m_mdt0_t9.2.2.2), (Nd_A (by decide) (Mo_cons (fun q => show m_md t0 ≤ m_md t0 from by omega) Mo_nil) (Or.inr ⟨(3, m_md t0, t &&& 1), List.mem_cons_self, rfl, Or.inl rfl⟩)), ⟨(Io_2 (by have := (c2_256 (a := t)).2; omega) (by rw [(c2_256 (a := t)).1]; omega) (by rw [(c2_256 (a := t)).1]; omega) I_n_t9.1 I_n_t9.2.1 I_n_t9.2.2.1 I_n_t9.2.2.2), (Nd_A (by decide) (Mo_cons (fun q => show n ≤ m_md t0 from by omega) (Mo_cons (fun q => show n ≤ m_md t0 from by omega) Mo_nil)) (Or.inl f_n_t9)), Stk_step (N := n) (pop := (2, n, t)) (new := [(2, n, c2 t), (2, m_md t0, (t &&& 1) ||| (((f_X6_strength (lo t0 (m_at t0))) + 1) * 256)), (3, m_md t0, t &&& 1)]) F0 C_t9.1.to2 (fun (h : nk 2 = false) => absurd h (by decide)) (fun q _ h => h (2, n, t) rfl) (fun _ => rfl) (fun y hy hk => ⟨rfl, (Mo_cons (fun q => show n ≤ n from by omega) (Mo_cons (fun q => show n ≤ m_md t0 from by omega) (Mo_cons (fun q => show n ≤ m_md t0 from by omega) Mo_nil))) y hy hk⟩) (fun (h : 2 = 3 ∨ 2 = 18 ∨ 2 = 41) => absurd h (by decide)) (fun (h : 2 = 18) => absurd h (by decide)) (fun (h : 2 = 41 ∨ 2 = 42 ∨ 2 = 43) => absurd h (by decide)) r [] (fun y hy => absurd hy List.not_mem_nil) hS⟩⟩⟩
      · exact (Aj_up (x := (3, m_md t0, t &&& 1)) (Aj_up (x := (2, m_md t0, (t &&& 1) ||| (((f_X6_strength (lo t0 (m_at t0))) + 1) * 256))) (Aj_sub (y := (2, n, c2 t)) hJ (show 9 - c2 t / 256 ≤ 9 - t / 256 from by have := (c2_256 (a := t)).1; omega)) (Or.inr (show 9 - ((t &&& 1) ||| (((f_X6_strength (lo t0 (m_at t0))) + 1) * 256)) / 256 < 9 - c2 t / 256 from by have := (c2_256 (a := t)).1; have := or_256 (b := ((f_X6_strength (lo t0 (m_at t0))) + 1)) (show (t &&& 1) < 256 from by omega); omega))) (Or.inr (show 2 < 9 - ((t &&& 1) ||| (((f_X6_strength (lo t0 (m_at t0))) + 1) * 256)) / 256 from by have := or_256 (b := ((f_X6_strength (lo t0 (m_at t0))) + 1)) (show (t &&& 1) < 256 from by omega); omega)))
      · show m_dp t9 = (dlt 3 + (dlt 2 + (dlt 2 + sD r)))
        have : dlt 2 = 0 := rfl; have : dlt 3 = 0 := rfl; omega
      · show m_rw t9 = (rho 3 + (rho 2 + (rho 2 + sR r)))
        have : rho 2 = 0 := rfl; have : rho 3 = 0 := rfl; omega
      · show m_md t9 + (mu7 3 + (mu7 2 + (mu7 2 + sM r))) ≤ 3 * m_at t9 + 7 * (r.length + 1 + 1 + 1) + 10
        have : mu7 2 = 7 := rfl; have : mu7 3 = 5 := rfl; omega
      · show (wt 3 + (wt 2 + (wt 2 + sW r))) + 6 * (4096 - m_at t9) + 4 * (600 - (r.length + 1 + 1 + 1)) < (wt 2 + sW r) + 6 * (4096 - m_at t0) + 4 * (600 - (r.length + 1))
        have : wt 2 = 5 := rfl; have : wt 3 = 3 := rfl; omega

theorem S_3 {t0 : Mm} {n t : Nat} {r : List It} (H : Hp t0 (3, n, t) r) {E : Mm → Prop} : Ok (Qh (mz t0 ((3, n, t) :: r))) E (b_X6_step 3 n t t0) := by
  obtain ⟨hK, hT, hc, hw0, ha, hC, hS, hJ, hdp, hdl, hrw, hmd, htd, hln, hm16, hI, hD, hTt⟩ := Hp_out H
  have C_t0 := hC n
  have F0 := C_t0.2.1
  have I_n_t0 : Nq t0 n := ⟨(hI.2.1 rfl).1, (hI.2.1 rfl).2.1, (hI.2.1 rfl).2.2, hI.2.2.2 rfl⟩
  have m_n_t0 := I_n_t0.1
  have ht : t < 4096 := hI.1.1 (show 3 ≠ 42 by decide) (show 3 ≠ 48 by decide)
  have hdp : m_dp t0 = dlt 3 + sD r := hdp
  have hrw : m_rw t0 = rho 3 + sR r := hrw
  have hmd : m_md t0 + mu7 3 + sM r ≤ 3 * m_at t0 + 7 * r.length + 17 := hmd
  have hand : t &&& 1 ≤ 1 := Nat.and_le_right
  have h01 : (0 &&& 1 : Nat) = 0 := rfl
  have h02 : (1 : Nat) * 256 = 256 := rfl
  have hq1 : dlt 3 = 0 := rfl
  have hq2 : rho 3 = 0 := rfl
  have hq3 : mu7 3 = 5 := rfl
  unfold b_X6_step
  refine Ok_ifl (by decide) (by decide) (fun q => absurd q (by decide)) (fun _ => ?_)
  refine Ok_ife (by decide) (by decide) (fun q => absurd q (by decide)) (fun _ => ?_)
  refine Ok_ife (by decide) (by decide) (fun _ => ?_) (fun q => absurd (by decide) q)
  refine Ok_bnc ?_
  try unfold b_X6_unary
  refine Kp_look C_t0 hT (by omega) ?_
  refine Ok_ck (Nat.lt_trans (lo_lt (C_t0.tk hT) _) (by decide)) ?_
  refine Ok_ifz (f6_isUnary _) (fun q2 => ?_) (fun q2 => ?_)
  · refine Kp_push C_t0 (by omega) (fun t3 C_t3 X_t3 a_t3 b_t3 d_t3 w_t3 u_t3 v_t3 j_t3 l_t3 => ?_)
    have e_t3 := C_t3.2.2.2.1
    have I_n_t3 := I_n_t0.flat X_t3
    refine Ok_bnc ?_
    try unfold b_X6_operand
    refine Kp_look C_t3 hT (by omega) ?_
    refine Ok_ifl (by decide) (Nat.lt_trans (lo_lt (C_t3.tk hT) _) (by decide)) (fun q5 => ?_) (fun q5 => ?_)
    · refine Ok_ifl (by decide) (Nat.lt_trans (lo_lt (C_t3.tk hT) _) (by decide)) (fun q6 => ?_) (fun q6 => ?_)
      · refine Ok_ife (Nat.lt_trans (lo_lt (C_t3.tk hT) _) (by decide)) (by decide) (fun q7 => ?_) (fun q7 => ?_)
        · refine Ok_bnc ?_
          try unfold b_X6_name
          refine Kp_look C_t3 hT (by omega) ?_
          refine Ok_ife (Nat.lt_trans (lo_lt (C_t3.tk hT) _) (by decide)) (by decide) (fun q => ?_) (fun q => absurd q7 q)
          refine Kp_child C_t3 I_n_t3.1 I_n_t3.2.1 I_n_t3.2.2.1 (by omega) (by omega) (by decide) (by decide) (fun t9 C_t9 X_t9 a_t9 b_t9 d_t9 w_t9 u_t9 v_t9 j_t9 l_t9 => ?_)
          have e_t9 := C_t9.2.2.2.1
          rw [a_t3] at a_t9
          rw [b_t3] at b_t9
          rw [d_t3] at d_t9
          rw [w_t3] at w_t9
          rw [u_t3] at u_t9
          rw [v_t3] at v_t9
          clear d_t3 w_t3 u_t3 v_t3 e_t3 a_t3
          have I_n_t9 := I_n_t3.chd X_t9 j_t9
          have f_n_t9 : Fz t9 n := j_t9.2.2.2.2.1
          have I_m_mdt3_t9 : Nq t9 (m_md t3) := Nq.chn j_t9 (by omega) I_n_t3 (by decide)
          have u_m_mdt3_t9 : Up t9 (m_md t3) := Or.inl j_t9.2.1
          have la_n_t9 : m_la t9 n = (m_md t3) + 1 := j_t9.2.2.2.2.2.1
          have wl_n_t9 : m_wh t9 (m_md t3) = 5 := j_t9.1
          have z_t10 : m_at t9 < m_ct t9 := lo_ne (Nat.ne_of_gt (show 0 < lo t9 (m_at t9) from by omega))
          refine Kp_at C_t9 (fun t10 C_t10 X_t10 a_t10 b_t10 d_t10 w_t10 u_t10 v_t10 j_t10 l_t10 => ?_)
          have e_t10 := C_t10.2.2.2.1
          rw [a_t9] at a_t10
          rw [b_t9] at b_t10
          rw [d_t9] at d_t10
          rw [w_t9] at w_t10
          rw [u_t9] at u_t10
          rw [v_t9] at v_t10
          rw [a_t9, e_t9] at z_t10
          clear d_t9 w_t9 u_t9 v_t9 e_t9 a_t9 b_t9
          have I_n_t10 := I_n_t9.flat X_t10
          have f_n_t10 := f_n_t9.ex I_n_t9 (X_t10 0)
          have I_m_mdt3_t10 := I_m_mdt3_t9.flat X_t10
          have u_m_mdt3_t10 := u_m_mdt3_t9.ex I_m_mdt3_t9 (X_t10 0)
          have la_n_t10 : m_la t10 n = (m_md t3) + 1 := by rw [j_t10.2.2.1]; exact la_n_t9
          have wl_n_t10 : m_wh t10 ((m_md t3)) = 5 := by rw [j_t10.1]; exact wl_n_t9
          clear la_n_t9 wl_n_t9
          refine Ok_ret (show Ok _ _ _ from ?_)
          refine Kp_push C_t10 (by omega) (fun t11 C_t11 X_t11 a_t11 b_t11 d_t11 w_t11 u_t11 v_t11 j_t11 l_t11 => ?_)
          have e_t11 := C_t11.2.2.2.1
          rw [a_t10] at a_t11
          rw [b_t10] at b_t11
          rw [d_t10] at d_t11
          rw [w_t10] at w_t11
          rw [u_t10] at u_t11
          rw [v_t10] at v_t11
          clear d_t10 w_t10 u_t10 v_t10 e_t10 a_t10 b_t10
          have I_n_t11 := I_n_t10.flat X_t11
          have f_n_t11 := f_n_t10.ex I_n_t10 (X_t11 0)
          have I_m_mdt3_t11 := I_m_mdt3_t10.flat X_t11
          have u_m_mdt3_t11 := u_m_mdt3_t10.ex I_m_mdt3_t10 (X_t11 0)
          have la_n_t11 : m_la t11 n = (m_md t3) + 1 := by rw [j_t11.2.2.1]; exact la_n_t10
          have wl_n_t11 : m_wh t11 ((m_md t3)) = 5 := by rw [j_t11.1]; exact wl_n_t10
          clear la_n_t10 wl_n_t10
          refine Ok_ret (show Ok _ _ _ from ?_)
          refine Ok_ret (show Ok _ _ _ from ?_)
          refine Hv_mk (Kv_c (x := (5, n, t)) rfl (Kv_c (x := (4, n, t)) rfl hK)) (C_t11.1.2.2.2.2.2.2 hTt) C_t11 hT (by omega) (by omega) (by omega) ?_ ?_ ?_ (by omega) ?_ ?_ ?_
          · exact ⟨(Io_n (by decide) (show t < 4096 from by omega) I_n_t11.1 I_n_t11.2.1 I_n_t11.2.2.1 (fun q => absurd q (by decide)) (fun q => absurd q (by decide)) I_n_t11.2.2.2), (Nd_5 Mo_nil (Or.inr (N5_mk f_n_t11 (Ab_none rfl) la_n_t11 wl_n_t11 (Or.inl (by decide))))), ⟨(Io_n (by decide) (show t < 4096 from by omega) I_n_t11.1 I_n_t11.2.1 I_n_t11.2.2.1 (fun q => absurd q (by decide)) (fun q => absurd q (by decide)) I_n_t11.2.2.2), (Nd_A (by decide) (Mo_cons (fun q => show n ≤ n from by omega) Mo_nil) (Or.inl f_n_t11)), Stk_step (N := n) (pop := (3, n, t)) (new := [(4, n, t), (5, n, t)]) F0 C_t11.1.to2 (fun (h : nk 3 = false) => absurd h (by decide)) (fun q _ h => h (3, n, t) rfl) (fun _ => rfl) (fun y hy hk => ⟨rfl, (Mo_cons (fun q => show n ≤ n from by omega) (Mo_cons (fun q => show n ≤ n from by omega) Mo_nil)) y hy hk⟩) (fun _ => Or.inl f_n_t11) (fun (h : 3 = 18) => absurd h (by decide)) (fun (h : 3 = 41 ∨ 3 = 42 ∨ 3 = 43) => absurd h (by decide)) r [] (fun y hy => absurd hy List.not_mem_nil) hS⟩⟩
          · exact (Aj_up (x := (5, n, t)) (Aj_sub (y := (4, n, t)) hJ (Nat.le_of_ble_eq_true rfl)) (Or.inr (Nat.le_of_ble_eq_true rfl)))
          · show m_dp t11 = (dlt 5 + (dlt 4 + sD r))
            have : dlt 3 = 0 := rfl; have : dlt 4 = 0 := rfl; have : dlt 5 = 0 := rfl; omega
          · show m_rw t11 = (rho 5 + (rho 4 + sR r))
            have : rho 3 = 0 := rfl; have : rho 4 = 0 := rfl; have : rho 5 = 0 := rfl; omega
          · show m_md t11 + (mu7 5 + (mu7 4 + sM r)) ≤ 3 * m_at t11 + 7 * (r.length + 1 + 1) + 10
            have : mu7 3 = 5 := rfl; have : mu7 4 = 7 := rfl; have : mu7 5 = 7 := rfl; omega
          · show (wt 5 + (wt 4 + sW r)) + 6 * (4096 - m_at t11) + 4 * (600 - (r.length + 1 + 1)) < (wt 3 + sW r) + 6 * (4096 - m_at t0) + 4 * (600 - (r.length + 1))
            have : wt 3 = 3 := rfl; have : wt 4 = 5 := rfl; have : wt 5 = 5 := rfl; omega
        · refine Ok_ife (Nat.lt_trans (lo_lt (C_t3.tk hT) _) (by decide)) (by decide) (fun q12 => ?_) (fun q12 => ?_)
          · refine Kp_child C_t3 I_n_t3.1 I_n_t3.2.1 I_n_t3.2.2.1 (by omega) (by omega) (by decide) (by decide) (fun t13 C_t13 X_t13 a_t13 b_t13 d_t13 w_t13 u_t13 v_t13 j_t13 l_t13 => ?_)
            have e_t13 := C_t13.2.2.2.1
            rw [a_t3] at a_t13
            rw [b_t3] at b_t13
            rw [d_t3] at d_t13
            rw [w_t3] at w_t13
            rw [u_t3] at u_t13
            rw [v_t3] at v_t13
            clear d_t3 w_t3 u_t3 v_t3 e_t3 a_t3
            have I_n_t13 := I_n_t3.chd X_t13 j_t13
            have f_n_t13 : Fz t13 n := j_t13.2.2.2.2.1
            have I_m_mdt3_t13 : Nq t13 (m_md t3) := Nq.chn j_t13 (by omega) I_n_t3 (by decide)
            have u_m_mdt3_t13 : Up t13 (m_md t3) := Or.inl j_t13.2.1
            have la_n_t13 : m_la t13 n = (m_md t3) + 1 := j_t13.2.2.2.2.2.1
            have wl_n_t13 : m_wh t13 (m_md t3) = 89 := j_t13.1
            refine Kp_more C_t13 (by omega) (by omega) (fun t14 C_t14 X_t14 a_t14 b_t14 d_t14 w_t14 u_t14 v_t14 j_t14 l_t14 => ?_)
            have e_t14 := C_t14.2.2.2.1
            rcases w_t14 with ⟨w_t14, y_t14⟩ | ⟨w_t14, wb_t14⟩
            · rw [a_t13] at a_t14
              rw [b_t13] at b_t14
              rw [d_t13] at d_t14
              rw [w_t13] at w_t14
              rw [u_t13] at u_t14
              rw [v_t13] at v_t14
              rw [d_t14] at y_t14
              clear d_t13 w_t13 u_t13 v_t13 e_t13 a_t13 b_t13
              have I_n_t14 := I_n_t13.flat X_t14
              have f_n_t14 := f_n_t13.ex I_n_t13 (X_t14 0)
              have I_m_mdt3_t14 := I_m_mdt3_t13.flat X_t14
              have u_m_mdt3_t14 := u_m_mdt3_t13.ex I_m_mdt3_t13 (X_t14 0)
              have la_n_t14 : m_la t14 n = (m_md t3) + 1 := by rw [j_t14.2.2.1]; exact la_n_t13
              have wl_n_t14 : m_wh t14 ((m_md t3)) = 89 := by rw [j_t14.1]; exact wl_n_t13
              clear la_n_t13 wl_n_t13
              have z_t15 : m_at t14 < m_ct t14 := lo_ne (Nat.ne_of_gt (show 0 < lo t14 (m_at t14) from by omega))
              refine Kp_at C_t14 (fun t15 C_t15 X_t15 a_t15 b_t15 d_t15 w_t15 u_t15 v_t15 j_t15 l_t15 => ?_)
              have e_t15 := C_t15.2.2.2.1
              rw [a_t14] at a_t15
              rw [b_t14] at b_t15
              rw [d_t14] at d_t15
              rw [w_t14] at w_t15
              rw [u_t14] at u_t15
              rw [v_t14] at v_t15
              rw [a_t14, e_t14] at z_t15
              clear d_t14 w_t14 u_t14 v_t14 e_t14 a_t14 b_t14
              have I_n_t15 := I_n_t14.flat X_t15
              have f_n_t15 := f_n_t14.ex I_n_t14 (X_t15 0)
              have I_m_mdt3_t15 := I_m_mdt3_t14.flat X_t15
              have u_m_mdt3_t15 := u_m_mdt3_t14.ex I_m_mdt3_t14 (X_t15 0)
              have la_n_t15 : m_la t15 n = (m_md t3) + 1 := by rw [j_t15.2.2.1]; exact la_n_t14
              have wl_n_t15 : m_wh t15 ((m_md t3)) = 89 := by rw [j_t15.1]; exact wl_n_t14
              clear la_n_t14 wl_n_t14
              refine Kp_push C_t15 (by omega) (fun t16 C_t16 X_t16 a_t16 b_t16 d_t16 w_t16 u_t16 v_t16 j_t16 l_t16 => ?_)
              have e_t16 := C_t16.2.2.2.1
              rw [a_t15] at a_t16
              rw [b_t15] at b_t16
              rw [d_t15] at d_t16
              rw [w_t15] at w_t16
              rw [u_t15] at u_t16
              rw [v_t15] at v_t16
              clear d_t15 w_t15 u_t15 v_t15 e_t15 a_t15 b_t15
              have I_n_t16 := I_n_t15.flat X_t16
              have f_n_t16 := f_n_t15.ex I_n_t15 (X_t16 0)
              have I_m_mdt3_t16 := I_m_mdt3_t15.flat X_t16
              have u_m_mdt3_t16 := u_m_mdt3_t15.ex I_m_mdt3_t15 (X_t16 0)
              have la_n_t16 : m_la t16 n = (m_md t3) + 1 := by rw [j_t16.2.2.1]; exact la_n_t15
              have wl_n_t16 : m_wh t16 ((m_md t3)) = 89 := by rw [j_t16.1]; exact wl_n_t15
              clear la_n_t15 wl_n_t15
              refine Ok_bnc ?_
              try unfold b_X6_expression
              refine Kp_push C_t16 (by omega) (fun t18 C_t18 X_t18 a_t18 b_t18 d_t18 w_t18 u_t18 v_t18 j_t18 l_t18 => ?_)
              have e_t18 := C_t18.2.2.2.1
              rw [a_t16] at a_t18
              rw [b_t16] at b_t18
              rw [d_t16] at d_t18
              rw [w_t16] at w_t18
              rw [u_t16] at u_t18
              rw [v_t16] at v_t18
              clear d_t16 w_t16 u_t16 v_t16 e_t16 a_t16 b_t16
              have I_n_t18 := I_n_t16.flat X_t18
              have f_n_t18 := f_n_t16.ex I_n_t16 (X_t18 0)
              have I_m_mdt3_t18 := I_m_mdt3_t16.flat X_t18
              have u_m_mdt3_t18 := u_m_mdt3_t16.ex I_m_mdt3_t16 (X_t18 0)
              have la_n_t18 : m_la t18 n = (m_md t3) + 1 := by rw [j_t18.2.2.1]; exact la_n_t16
              have wl_n_t18 : m_wh t18 ((m_md t3)) = 89 := by rw [j_t18.1]; exact wl_n_t16
              clear la_n_t16 wl_n_t16
              refine Kp_push C_t18 (by omega) (fun t19 C_t19 X_t19 a_t19 b_t19 d_t19 w_t19 u_t19 v_t19 j_t19 l_t19 => ?_)
              have e_t19 := C_t19.2.2.2.1
              rw [a_t18] at a_t19
              rw [b_t18] at b_t19
              rw [d_t18] at d_t19
              rw [w_t18] at w_t19
              rw [u_t18] at u_t19
              rw [v_t18] at v_t19
              clear d_t18 w_t18 u_t18 v_t18 e_t18 a_t18 b_t18
              have I_n_t19 := I_n_t18.flat X_t19
              have f_n_t19 := f_n_t18.ex I_n_t18 (X_t19 0)
              have I_m_mdt3_t19 := I_m_mdt3_t18.flat X_t19
              have u_m_mdt3_t19 := u_m_mdt3_t18.ex I_m_mdt3_t18 (X_t19 0)
              have la_n_t19 : m_la t19 n = (m_md t3) + 1 := by rw [j_t19.2.2.1]; exact la_n_t18
              have wl_n_t19 : m_wh t19 ((m_md t3)) = 89 := by rw [j_t19.1]; exact wl_n_t18
              clear la_n_t18 wl_n_t18
              refine Ok_ret (show Ok _ _ _ from ?_)
              refine Ok_ret (show Ok _ _ _ from ?_)
              refine Ok_ret (show Ok _ _ _ from ?_)
              refine Hv_mk (Kv_c (x := (3, m_md t3, 0)) rfl (Kv_c (x := (2, m_md t3, 0 ||| (1 * 256))) rfl (Kv_c (x := (8, 79, 0)) rfl (Kv_c (x := (4, n, t)) rfl hK)))) (C_t19.1.2.2.2.2.2.2 hTt) C_t19 hT (by omega) (by omega) (by omega) ?_ ?_ ?_ (by omega) ?_ ?_ ?_
              · exact ⟨(Io_n (by decide) (by decide) I_m_mdt3_t19.1 I_m_mdt3_t19.2.1 I_m_mdt3_t19.2.2.1 (fun q => absurd q (by decide)) (fun q => absurd q (by decide)) I_m_mdt3_t19.2.2.2), (Nd_0 (by decide) Mo_nil), ⟨(Io_2 (by have := or_256 (b := 1) (show 0 < 256 from by omega); omega) (by have := or_256 (b := 1) (show 0 < 256 from by omega); omega) (by have := or_256 (b := 1) (show 0 < 256 from by omega); omega) I_m_mdt3_t19.1 I_m_mdt3_t19.2.1 I_m_mdt3_t19.2.2.1 I_m_mdt3_t19.2.2.2), (Nd_A (by decide) (Mo_cons (fun q => show m_md t3 ≤ m_md t3 from by omega) Mo_nil) (Or.inr ⟨(3, m_md t3, 0), List.mem_cons_self, rfl, Or.inl rfl⟩)), ⟨(Io_78 (by decide) (by decide) (by decide)), (Nd_x (by decide)), ⟨(Io_n (by decide) (show t < 4096 from by omega) I_n_t19.1 I_n_t19.2.1 I_n_t19.2.2.1 (fun q => absurd q (by decide)) (fun q => absurd q (by decide)) I_n_t19.2.2.2), (Nd_A (by decide) (Mo_cons (fun q => absurd (show nk 8 = true from q) (by decide)) (Mo_cons (fun q => show n ≤ m_md t3 from by omega) (Mo_cons (fun q => show n ≤ m_md t3 from by omega) Mo_nil))) (Or.inl f_n_t19)), Stk_step (N := n) (pop := (3, n, t)) (new := [(4, n, t), (8, 79, 0), (2, m_md t3, 0 ||| (1 * 256)), (3, m_md t3, 0)]) F0 C_t19.1.to2 (fun (h : nk 3 = false) => absurd h (by decide)) (fun q _ h => h (3, n, t) rfl) (fun _ => rfl) (fun y hy hk => ⟨rfl, (Mo_cons (fun q => show n ≤ n from by omega) (Mo_cons (fun q => absurd (show nk 8 = true from q) (by decide)) (Mo_cons (fun q => show n ≤ m_md t3 from by omega) (Mo_cons (fun q => show n ≤ m_md t3 from by omega) Mo_nil)))) y hy hk⟩) (fun _ => Or.inl f_n_t19) (fun (h : 3 = 18) => absurd h (by decide)) (fun (h : 3 = 41 ∨ 3 = 42 ∨ 3 = 43) => absurd h (by decide)) r [] (fun y hy => absurd hy List.not_mem_nil) hS⟩⟩⟩⟩
              · exact (Aj_up (x := (3, m_md t3, 0)) (Aj_up (x := (2, m_md t3, 0 ||| (1 * 256))) (Aj_up (x := (8, 79, 0)) (Aj_sub (y := (4, n, t)) hJ (Nat.le_of_ble_eq_true rfl)) (Or.inr (Nat.le_of_ble_eq_true rfl))) (Or.inl (Nat.le_of_ble_eq_true rfl))) (Or.inr (show 2 < 9 - (0 ||| (1 * 256)) / 256 from by have := or_256 (b := 1) (show 0 < 256 from by omega); omega)))
              · show m_dp t19 = (dlt 3 + (dlt 2 + (dlt 8 + (dlt 4 + sD r))))
                have : dlt 2 = 0 := rfl; have : dlt 3 = 0 := rfl; have : dlt 4 = 0 := rfl; have : dlt 8 = 1 := rfl; omega
              · show m_rw t19 = (rho 3 + (rho 2 + (rho 8 + (rho 4 + sR r))))
                have : rho 2 = 0 := rfl; have : rho 3 = 0 := rfl; have : rho 4 = 0 := rfl; have : rho 8 = 0 := rfl; omega
              · show m_md t19 + (mu7 3 + (mu7 2 + (mu7 8 + (mu7 4 + sM r)))) ≤ 3 * m_at t19 + 7 * (r.length + 1 + 1 + 1 + 1) + 10
                have : mu7 2 = 7 := rfl; have : mu7 3 = 5 := rfl; have : mu7 4 = 7 := rfl; have : mu7 8 = 4 := rfl; omega
              · show (wt 3 + (wt 2 + (wt 8 + (wt 4 + sW r)))) + 6 * (4096 - m_at t19) + 4 * (600 - (r.length + 1 + 1 + 1 + 1)) < (wt 3 + sW r) + 6 * (4096 - m_at t0) + 4 * (600 - (r.length + 1))
                have : wt 2 = 5 := rfl; have : wt 3 = 3 := rfl; have : wt 4 = 5 := rfl; have : wt 8 = 0 := rfl; omega
            · have w_t14 := Nat.pos_of_ne_zero w_t14
              have I_n_t14 := I_n_t13.flat X_t14
              have f_n_t14 := f_n_t13.ex I_n_t13 (X_t14 0)
              have I_m_mdt3_t14 := I_m_mdt3_t13.flat X_t14
              have u_m_mdt3_t14 := u_m_mdt3_t13.ex I_m_mdt3_t13 (X_t14 0)
              have la_n_t14 : m_la t14 n = (m_md t3) + 1 := by rw [j_t14.2.2.1]; exact la_n_t13
              have wl_n_t14 : m_wh t14 ((m_md t3)) = 89 := by rw [j_t14.1]; exact wl_n_t13
              clear la_n_t13 wl_n_t13
              refine Kp_at C_t14 (fun t20 C_t20 X_t20 a_t20 b_t20 d_t20 w_t20 u_t20 v_t20 j_t20 l_t20 => ?_)
              have e_t20 := C_t20.2.2.2.1
              have I_n_t20 := I_n_t14.flat X_t20
              have f_n_t20 := f_n_t14.ex I_n_t14 (X_t20 0)
              have I_m_mdt3_t20 := I_m_mdt3_t14.flat X_t20
              have u_m_mdt3_t20 := u_m_mdt3_t14.ex I_m_mdt3_t14 (X_t20 0)
              have la_n_t20 : m_la t20 n = (m_md t3) + 1 := by rw [j_t20.2.2.1]; exact la_n_t14
              have wl_n_t20 : m_wh t20 ((m_md t3)) = 89 := by rw [j_t20.1]; exact wl_n_t14
              clear la_n_t14 wl_n_t14
              refine Kp_push C_t20 (by omega) (fun t21 C_t21 X_t21 a_t21 b_t21 d_t21 w_t21 u_t21 v_t21 j_t21 l_t21 => ?_)
              have e_t21 := C_t21.2.2.2.1
              have I_n_t21 := I_n_t20.flat X_t21
              have f_n_t21 := f_n_t20.ex I_n_t20 (X_t21 0)
              have I_m_mdt3_t21 := I_m_mdt3_t20.flat X_t21
              have u_m_mdt3_t21 := u_m_mdt3_t20.ex I_m_mdt3_t20 (X_t21 0)
              have la_n_t21 : m_la t21 n = (m_md t3) + 1 := by rw [j_t21.2.2.1]; exact la_n_t20
              have wl_n_t21 : m_wh t21 ((m_md t3)) = 89 := by rw [j_t21.1]; exact wl_n_t20
              clear la_n_t20 wl_n_t20
              refine Ok_bnc ?_
              try unfold b_X6_expression
              refine Kp_push C_t21 (by omega) (fun t23 C_t23 X_t23 a_t23 b_t23 d_t23 w_t23 u_t23 v_t23 j_t23 l_t23 => ?_)
              have e_t23 := C_t23.2.2.2.1
              have I_n_t23 := I_n_t21.flat X_t23
              have f_n_t23 := f_n_t21.ex I_n_t21 (X_t23 0)
              have I_m_mdt3_t23 := I_m_mdt3_t21.flat X_t23
              have u_m_mdt3_t23 := u_m_mdt3_t21.ex I_m_mdt3_t21 (X_t23 0)
              have la_n_t23 : m_la t23 n = (m_md t3) + 1 := by rw [j_t23.2.2.1]; exact la_n_t21
              have wl_n_t23 : m_wh t23 ((m_md t3)) = 89 := by rw [j_t23.1]; exact wl_n_t21
              clear la_n_t21 wl_n_t21
              refine Kp_push C_t23 (by omega) (fun t24 C_t24 X_t24 a_t24 b_t24 d_t24 w_t24 u_t24 v_t24 j_t24 l_t24 => ?_)
              have e_t24 := C_t24.2.2.2.1
              have I_n_t24 := I_n_t23.flat X_t24
              have f_n_t24 := f_n_t23.ex I_n_t23 (X_t24 0)
              have I_m_mdt3_t24 := I_m_mdt3_t23.flat X_t24
              have u_m_mdt3_t24 := u_m_mdt3_t23.ex I_m_mdt3_t23 (X_t24 0)
              have la_n_t24 : m_la t24 n = (m_md t3) + 1 := by rw [j_t24.2.2.1]; exact la_n_t23
              have wl_n_t24 : m_wh t24 ((m_md t3)) = 89 := by rw [j_t24.1]; exact wl_n_t23
              clear la_n_t23 wl_n_t23
              refine Ok_ret (show Ok _ _ _ from ?_)
              refine Ok_ret (show Ok _ _ _ from ?_)
              refine Ok_ret (show Ok _ _ _ from ?_)
              exact Or.inl ⟨Nat.ne_of_gt (show 0 < m_wr t24 from by omega), by omega, by omega, C_t24.2.2.2.2.2, by omega⟩
          · refine Ok_ife (Nat.lt_trans (lo_lt (C_t3.tk hT) _) (by decide)) (by decide) (fun q25 => ?_) (fun q25 => ?_)
            · refine Kp_child C_t3 I_n_t3.1 I_n_t3.2.1 I_n_t3.2.2.1 (by omega) (by omega) (by decide) (by decide) (fun t26 C_t26 X_t26 a_t26 b_t26 d_t26 w_t26 u_t26 v_t26 j_t26 l_t26 => ?_)
              have e_t26 := C_t26.2.2.2.1
              rw [a_t3] at a_t26
              rw [b_t3] at b_t26
              rw [d_t3] at d_t26
              rw [w_t3] at w_t26
              rw [u_t3] at u_t26
              rw [v_t3] at v_t26
              clear d_t3 w_t3 u_t3 v_t3 e_t3 a_t3
              have I_n_t26 := I_n_t3.chd X_t26 j_t26
              have f_n_t26 : Fz t26 n := j_t26.2.2.2.2.1
              have I_m_mdt3_t26 : Nq t26 (m_md t3) := Nq.chn j_t26 (by omega) I_n_t3 (by decide)
              have u_m_mdt3_t26 : Up t26 (m_md t3) := Or.inl j_t26.2.1
              have la_n_t26 : m_la t26 n = (m_md t3) + 1 := j_t26.2.2.2.2.2.1
              have wl_n_t26 : m_wh t26 (m_md t3) = 29 := j_t26.1
              refine Kp_more C_t26 (by omega) (by omega) (fun t27 C_t27 X_t27 a_t27 b_t27 d_t27 w_t27 u_t27 v_t27 j_t27 l_t27 => ?_)
              have e_t27 := C_t27.2.2.2.1
              rcases w_t27 with ⟨w_t27, y_t27⟩ | ⟨w_t27, wb_t27⟩
              · rw [a_t26] at a_t27
                rw [b_t26] at b_t27
                rw [d_t26] at d_t27
                rw [w_t26] at w_t27
                rw [u_t26] at u_t27
                rw [v_t26] at v_t27
                rw [d_t27] at y_t27
                clear d_t26 w_t26 u_t26 v_t26 e_t26 a_t26 b_t26
                have I_n_t27 := I_n_t26.flat X_t27
                have f_n_t27 := f_n_t26.ex I_n_t26 (X_t27 0)
                have I_m_mdt3_t27 := I_m_mdt3_t26.flat X_t27
                have u_m_mdt3_t27 := u_m_mdt3_t26.ex I_m_mdt3_t26 (X_t27 0)
                have la_n_t27 : m_la t27 n = (m_md t3) + 1 := by rw [j_t27.2.2.1]; exact la_n_t26
                have wl_n_t27 : m_wh t27 ((m_md t3)) = 29 := by rw [j_t27.1]; exact wl_n_t26
                clear la_n_t26 wl_n_t26
                have z_t28 : m_at t27 < m_ct t27 := lo_ne (Nat.ne_of_gt (show 0 < lo t27 (m_at t27) from by omega))
                refine Kp_at C_t27 (fun t28 C_t28 X_t28 a_t28 b_t28 d_t28 w_t28 u_t28 v_t28 j_t28 l_t28 => ?_)
                have e_t28 := C_t28.2.2.2.1
                rw [a_t27] at a_t28
                rw [b_t27] at b_t28
                rw [d_t27] at d_t28
                rw [w_t27] at w_t28
                rw [u_t27] at u_t28
                rw [v_t27] at v_t28
                rw [a_t27, e_t27] at z_t28
                clear d_t27 w_t27 u_t27 v_t27 e_t27 a_t27 b_t27
                have I_n_t28 := I_n_t27.flat X_t28
                have f_n_t28 := f_n_t27.ex I_n_t27 (X_t28 0)
                have I_m_mdt3_t28 := I_m_mdt3_t27.flat X_t28
                have u_m_mdt3_t28 := u_m_mdt3_t27.ex I_m_mdt3_t27 (X_t28 0)
                have la_n_t28 : m_la t28 n = (m_md t3) + 1 := by rw [j_t28.2.2.1]; exact la_n_t27
                have wl_n_t28 : m_wh t28 ((m_md t3)) = 29 := by rw [j_t28.1]; exact wl_n_t27
                clear la_n_t27 wl_n_t27
                refine Kp_push C_t28 (by omega) (fun t29 C_t29 X_t29 a_t29 b_t29 d_t29 w_t29 u_t29 v_t29 j_t29 l_t29 => ?_)
                have e_t29 := C_t29.2.2.2.1
                rw [a_t28] at a_t29
                rw [b_t28] at b_t29
                rw [d_t28] at d_t29
                rw [w_t28] at w_t29
                rw [u_t28] at u_t29
                rw [v_t28] at v_t29
                clear d_t28 w_t28 u_t28 v_t28 e_t28 a_t28 b_t28
                have I_n_t29 := I_n_t28.flat X_t29
                have f_n_t29 := f_n_t28.ex I_n_t28 (X_t29 0)
                have I_m_mdt3_t29 := I_m_mdt3_t28.flat X_t29
                have u_m_mdt3_t29 := u_m_mdt3_t28.ex I_m_mdt3_t28 (X_t29 0)
                have la_n_t29 : m_la t29 n = (m_md t3) + 1 := by rw [j_t29.2.2.1]; exact la_n_t28
                have wl_n_t29 : m_wh t29 ((m_md t3)) = 29 := by rw [j_t29.1]; exact wl_n_t28
                clear la_n_t28 wl_n_t28
                refine Kp_push C_t29 (by omega) (fun t30 C_t30 X_t30 a_t30 b_t30 d_t30 w_t30 u_t30 v_t30 j_t30 l_t30 => ?_)
                have e_t30 := C_t30.2.2.2.1
                rw [a_t29] at a_t30
                rw [b_t29] at b_t30
                rw [d_t29] at d_t30
                rw [w_t29] at w_t30
                rw [u_t29] at u_t30
                rw [v_t29] at v_t30
                clear d_t29 w_t29 u_t29 v_t29 e_t29 a_t29 b_t29
                have I_n_t30 := I_n_t29.flat X_t30
                have f_n_t30 := f_n_t29.ex I_n_t29 (X_t30 0)
                have I_m_mdt3_t30 := I_m_mdt3_t29.flat X_t30
                have u_m_mdt3_t30 := u_m_mdt3_t29.ex I_m_mdt3_t29 (X_t30 0)
                have la_n_t30 : m_la t30 n = (m_md t3) + 1 := by rw [j_t30.2.2.1]; exact la_n_t29
                have wl_n_t30 : m_wh t30 ((m_md t3)) = 29 := by rw [j_t30.1]; exact wl_n_t29
                clear la_n_t29 wl_n_t29
                refine Ok_ret (show Ok _ _ _ from ?_)
                refine Ok_ret (show Ok _ _ _ from ?_)
                refine Hv_mk (Kv_c (x := (21, m_md t3, 0)) rfl (Kv_c (x := (20, m_md t3, 0)) rfl (Kv_c (x := (4, n, t)) rfl hK))) (C_t30.1.2.2.2.2.2.2 hTt) C_t30 hT (by omega) (by omega) (by omega) ?_ ?_ ?_ (by omega) ?_ ?_ ?_
                · exact ⟨(Io_n (by decide) (by decide) I_m_mdt3_t30.1 I_m_mdt3_t30.2.1 I_m_mdt3_t30.2.2.1 (fun q => absurd q (by decide)) (fun q => absurd q (by decide)) I_m_mdt3_t30.2.2.2), (Nd_0 (by decide) Mo_nil), ⟨(Io_n (by decide) (by decide) I_m_mdt3_t30.1 I_m_mdt3_t30.2.1 I_m_mdt3_t30.2.2.1 (fun q => absurd q (by decide)) (fun q => absurd q (by decide)) I_m_mdt3_t30.2.2.2), (Nd_0 (by decide) (Mo_cons (fun q => show m_md t3 ≤ m_md t3 from by omega) Mo_nil)), ⟨(Io_n (by decide) (show t < 4096 from by omega) I_n_t30.1 I_n_t30.2.1 I_n_t30.2.2.1 (fun q => absurd q (by decide)) (fun q => absurd q (by decide)) I_n_t30.2.2.2), (Nd_A (by decide) (Mo_cons (fun q => show n ≤ m_md t3 from by omega) (Mo_cons (fun q => show n ≤ m_md t3 from by omega) Mo_nil)) (Or.inl f_n_t30)), Stk_step (N := n) (pop := (3, n, t)) (new := [(4, n, t), (20, m_md t3, 0), (21, m_md t3, 0)]) F0 C_t30.1.to2 (fun (h : nk 3 = false) => absurd h (by decide)) (fun q _ h => h (3, n, t) rfl) (fun _ => rfl) (fun y hy hk => ⟨rfl, (Mo_cons (fun q => show n ≤ n from by omega) (Mo_cons (fun q => show n ≤ m_md t3 from by omega) (Mo_cons (fun q => show n ≤ m_md t3 from by omega) Mo_nil))) y hy hk⟩) (fun _ => Or.inl f_n_t30) (fun (h : 3 = 18) => absurd h (by decide)) (fun (h : 3 = 41 ∨ 3 = 42 ∨ 3 = 43) => absurd h (by decide)) r [] (fun y hy => absurd hy List.not_mem_nil) hS⟩⟩⟩
                · exact (Aj_up (x := (21, m_md t3, 0)) (Aj_up (x := (20, m_md t3, 0)) (Aj_sub (y := (4, n, t)) hJ (Nat.le_of_ble_eq_true rfl)) (Or.inr (Nat.le_of_ble_eq_true rfl))) (Or.inl (Nat.le_of_ble_eq_true rfl)))
                · show m_dp t30 = (dlt 21 + (dlt 20 + (dlt 4 + sD r)))
                  have : dlt 20 = 1 := rfl; have : dlt 21 = 0 := rfl; have : dlt 3 = 0 := rfl; have : dlt 4 = 0 := rfl; omega
                · show m_rw t30 = (rho 21 + (rho 20 + (rho 4 + sR r)))
                  have : rho 20 = 0 := rfl; have : rho 21 = 0 := rfl; have : rho 3 = 0 := rfl; have : rho 4 = 0 := rfl; omega
                · show m_md t30 + (mu7 21 + (mu7 20 + (mu7 4 + sM r))) ≤ 3 * m_at t30 + 7 * (r.length + 1 + 1 + 1) + 10
                  have : mu7 20 = 7 := rfl; have : mu7 21 = 3 := rfl; have : mu7 3 = 5 := rfl; have : mu7 4 = 7 := rfl; omega
                · show (wt 21 + (wt 20 + (wt 4 + sW r))) + 6 * (4096 - m_at t30) + 4 * (600 - (r.length + 1 + 1 + 1)) < (wt 3 + sW r) + 6 * (4096 - m_at t0) + 4 * (600 - (r.length + 1))
                  have : wt 20 = 5 := rfl; have : wt 21 = 2 := rfl; have : wt 3 = 3 := rfl; have : wt 4 = 5 := rfl; omega
              · have w_t27 := Nat.pos_of_ne_zero w_t27
                have I_n_t27 := I_n_t26.flat X_t27
                have f_n_t27 := f_n_t26.ex I_n_t26 (X_t27 0)
                have I_m_mdt3_t27 := I_m_mdt3_t26.flat X_t27
                have u_m_mdt3_t27 := u_m_mdt3_t26.ex I_m_mdt3_t26 (X_t27 0)
                have la_n_t27 : m_la t27 n = (m_md t3) + 1 := by rw [j_t27.2.2.1]; exact la_n_t26
                have wl_n_t27 : m_wh t27 ((m_md t3)) = 29 := by rw [j_t27.1]; exact wl_n_t26
                clear la_n_t26 wl_n_t26
                refine Kp_at C_t27 (fun t31 C_t31 X_t31 a_t31 b_t31 d_t31 w_t31 u_t31 v_t31 j_t31 l_t31 => ?_)
                have e_t31 := C_t31.2.2.2.1
                have I_n_t31 := I_n_t27.flat X_t31
                have f_n_t31 := f_n_t27.ex I_n_t27 (X_t31 0)
                have I_m_mdt3_t31 := I_m_mdt3_t27.flat X_t31
                have u_m_mdt3_t31 := u_m_mdt3_t27.ex I_m_mdt3_t27 (X_t31 0)
                have la_n_t31 : m_la t31 n = (m_md t3) + 1 := by rw [j_t31.2.2.1]; exact la_n_t27
                have wl_n_t31 : m_wh t31 ((m_md t3)) = 29 := by rw [j_t31.1]; exact wl_n_t27
                clear la_n_t27 wl_n_t27
                refine Kp_push C_t31 (by omega) (fun t32 C_t32 X_t32 a_t32 b_t32 d_t32 w_t32 u_t32 v_t32 j_t32 l_t32 => ?_)
                have e_t32 := C_t32.2.2.2.1
                have I_n_t32 := I_n_t31.flat X_t32
                have f_n_t32 := f_n_t31.ex I_n_t31 (X_t32 0)
                have I_m_mdt3_t32 := I_m_mdt3_t31.flat X_t32
                have u_m_mdt3_t32 := u_m_mdt3_t31.ex I_m_mdt3_t31 (X_t32 0)
                have la_n_t32 : m_la t32 n = (m_md t3) + 1 := by rw [j_t32.2.2.1]; exact la_n_t31
                have wl_n_t32 : m_wh t32 ((m_md t3)) = 29 := by rw [j_t32.1]; exact wl_n_t31
                clear la_n_t31 wl_n_t31
                refine Kp_push C_t32 (by omega) (fun t33 C_t33 X_t33 a_t33 b_t33 d_t33 w_t33 u_t33 v_t33 j_t33 l_t33 => ?_)
                have e_t33 := C_t33.2.2.2.1
                have I_n_t33 := I_n_t32.flat X_t33
                have f_n_t33 := f_n_t32.ex I_n_t32 (X_t33 0)
                have I_m_mdt3_t33 := I_m_mdt3_t32.flat X_t33
                have u_m_mdt3_t33 := u_m_mdt3_t32.ex I_m_mdt3_t32 (X_t33 0)
                have la_n_t33 : m_la t33 n = (m_md t3) + 1 := by rw [j_t33.2.2.1]; exact la_n_t32
                have wl_n_t33 : m_wh t33 ((m_md t3)) = 29 := by rw [j_t33.1]; exact wl_n_t32
                clear la_n_t32 wl_n_t32
                refine Ok_ret (show Ok _ _ _ from ?_)
                refine Ok_ret (show Ok _ _ _ from ?_)
                exact Or.inl ⟨Nat.ne_of_gt (show 0 < m_wr t33 from by omega), by omega, by omega, C_t33.2.2.2.2.2, by omega⟩
            · refine Ok_ife (Nat.lt_trans (lo_lt (C_t3.tk hT) _) (by decide)) (by decide) (fun q34 => ?_) (fun q34 => ?_)
              · refine Kp_push C_t3 (by omega) (fun t35 C_t35 X_t35 a_t35 b_t35 d_t35 w_t35 u_t35 v_t35 j_t35 l_t35 => ?_)
                have e_t35 := C_t35.2.2.2.1
                rw [a_t3] at a_t35
                rw [b_t3] at b_t35
                rw [d_t3] at d_t35
                rw [w_t3] at w_t35
                rw [u_t3] at u_t35
                rw [v_t3] at v_t35
                clear d_t3 w_t3 u_t3 v_t3 e_t3 a_t3 b_t3
                have I_n_t35 := I_n_t3.flat X_t35
                refine Kp_push C_t35 (by omega) (fun t36 C_t36 X_t36 a_t36 b_t36 d_t36 w_t36 u_t36 v_t36 j_t36 l_t36 => ?_)
                have e_t36 := C_t36.2.2.2.1
                rw [a_t35] at a_t36
                rw [b_t35] at b_t36
                rw [d_t35] at d_t36
                rw [w_t35] at w_t36
                rw [u_t35] at u_t36
                rw [v_t35] at v_t36
                clear d_t35 w_t35 u_t35 v_t35 e_t35 a_t35 b_t35
                have I_n_t36 := I_n_t35.flat X_t36
                refine Ok_ret (show Ok _ _ _ from ?_)
                refine Ok_ret (show Ok _ _ _ from ?_)
                refine Hv_mk (Kv_c (x := (18, n, 1)) rfl (Kv_c (x := (5, n, t)) rfl (Kv_c (x := (4, n, t)) rfl hK))) (C_t36.1.2.2.2.2.2.2 hTt) C_t36 hT (by omega) (by omega) (by omega) ?_ ?_ ?_ (by omega) ?_ ?_ ?_
                · exact ⟨(Io_n (by decide) (by decide) I_n_t36.1 I_n_t36.2.1 I_n_t36.2.2.1 (fun q => absurd q (by decide)) (fun q => absurd q (by decide)) I_n_t36.2.2.2), (Nd_0 (by decide) Mo_nil), ⟨(Io_n (by decide) (show t < 4096 from by omega) I_n_t36.1 I_n_t36.2.1 I_n_t36.2.2.1 (fun q => absurd q (by decide)) (fun q => absurd q (by decide)) I_n_t36.2.2.2), (Nd_5 (Mo_cons (fun q => show n ≤ n from by omega) Mo_nil) (Or.inl ⟨1, rfl⟩)), ⟨(Io_n (by decide) (show t < 4096 from by omega) I_n_t36.1 I_n_t36.2.1 I_n_t36.2.2.1 (fun q => absurd q (by decide)) (fun q => absurd q (by decide)) I_n_t36.2.2.2), (Nd_A (by decide) (Mo_cons (fun q => show n ≤ n from by omega) (Mo_cons (fun q => show n ≤ n from by omega) Mo_nil)) (Or.inr ⟨(18, n, 1), (List.mem_cons_of_mem _ List.mem_cons_self), rfl, Or.inr (Or.inl rfl)⟩)), Stk_step (N := n) (pop := (3, n, t)) (new := [(4, n, t), (5, n, t), (18, n, 1)]) F0 C_t36.1.to2 (fun (h : nk 3 = false) => absurd h (by decide)) (fun q _ h => h (3, n, t) rfl) (fun _ => rfl) (fun y hy hk => ⟨rfl, (Mo_cons (fun q => show n ≤ n from by omega) (Mo_cons (fun q => show n ≤ n from by omega) (Mo_cons (fun q => show n ≤ n from by omega) Mo_nil))) y hy hk⟩) (fun _ => Or.inr ⟨(18, n, 1), (List.mem_cons_of_mem _ (List.mem_cons_of_mem _ List.mem_cons_self)), rfl, Or.inr (Or.inl rfl)⟩) (fun (h : 3 = 18) => absurd h (by decide)) (fun (h : 3 = 41 ∨ 3 = 42 ∨ 3 = 43) => absurd h (by decide)) r [] (fun y hy => absurd hy List.not_mem_nil) hS⟩⟩⟩
                · exact (Aj_up (x := (18, n, 1)) (Aj_up (x := (5, n, t)) (Aj_sub (y := (4, n, t)) hJ (Nat.le_of_ble_eq_true rfl)) (Or.inr (Nat.le_of_ble_eq_true rfl))) (Or.inr (Nat.le_of_ble_eq_true rfl)))
                · show m_dp t36 = (dlt 18 + (dlt 5 + (dlt 4 + sD r)))
                  have : dlt 18 = 0 := rfl; have : dlt 3 = 0 := rfl; have : dlt 4 = 0 := rfl; have : dlt 5 = 0 := rfl; omega
                · show m_rw t36 = (rho 18 + (rho 5 + (rho 4 + sR r)))
                  have : rho 18 = 0 := rfl; have : rho 3 = 0 := rfl; have : rho 4 = 0 := rfl; have : rho 5 = 0 := rfl; omega
                · show m_md t36 + (mu7 18 + (mu7 5 + (mu7 4 + sM r))) ≤ 3 * m_at t36 + 7 * (r.length + 1 + 1 + 1) + 10
                  have : mu7 18 = 5 := rfl; have : mu7 3 = 5 := rfl; have : mu7 4 = 7 := rfl; have : mu7 5 = 7 := rfl; omega
                · show (wt 18 + (wt 5 + (wt 4 + sW r))) + 6 * (4096 - m_at t36) + 4 * (600 - (r.length + 1 + 1 + 1)) < (wt 3 + sW r) + 6 * (4096 - m_at t0) + 4 * (600 - (r.length + 1))
                  have : wt 18 = 0 := rfl; have : wt 3 = 3 := rfl; have : wt 4 = 5 := rfl; have : wt 5 = 5 := rfl; omega
              · refine Ok_ife (Nat.lt_trans (lo_lt (C_t3.tk hT) _) (by decide)) (by decide) (fun q37 => ?_) (fun q37 => ?_)
                · refine Kp_push C_t3 (by omega) (fun t38 C_t38 X_t38 a_t38 b_t38 d_t38 w_t38 u_t38 v_t38 j_t38 l_t38 => ?_)
                  have e_t38 := C_t38.2.2.2.1
                  rw [a_t3] at a_t38
                  rw [b_t3] at b_t38
                  rw [d_t3] at d_t38
                  rw [w_t3] at w_t38
                  rw [u_t3] at u_t38
                  rw [v_t3] at v_t38
                  clear d_t3 w_t3 u_t3 v_t3 e_t3 a_t3 b_t3
                  have I_n_t38 := I_n_t3.flat X_t38
                  refine Kp_push C_t38 (by omega) (fun t39 C_t39 X_t39 a_t39 b_t39 d_t39 w_t39 u_t39 v_t39 j_t39 l_t39 => ?_)
                  have e_t39 := C_t39.2.2.2.1
                  rw [a_t38] at a_t39
                  rw [b_t38] at b_t39
                  rw [d_t38] at d_t39
                  rw [w_t38] at w_t39
                  rw [u_t38] at u_t39
                  rw [v_t38] at v_t39
                  clear d_t38 w_t38 u_t38 v_t38 e_t38 a_t38 b_t38
                  have I_n_t39 := I_n_t38.flat X_t39
                  refine Ok_ret (show Ok _ _ _ from ?_)
                  refine Ok_ret (show Ok _ _ _ from ?_)
                  refine Hv_mk (Kv_c (x := (18, n, 1)) rfl (Kv_c (x := (5, n, t)) rfl (Kv_c (x := (4, n, t)) rfl hK))) (C_t39.1.2.2.2.2.2.2 hTt) C_t39 hT (by omega) (by omega) (by omega) ?_ ?_ ?_ (by omega) ?_ ?_ ?_
                  · exact ⟨(Io_n (by decide) (by decide) I_n_t39.1 I_n_t39.2.1 I_n_t39.2.2.1 (fun q => absurd q (by decide)) (fun q => absurd q (by decide)) I_n_t39.2.2.2), (Nd_0 (by decide) Mo_nil), ⟨(Io_n (by decide) (show t < 4096 from by omega) I_n_t39.1 I_n_t39.2.1 I_n_t39.2.2.1 (fun q => absurd q (by decide)) (fun q => absurd q (by decide)) I_n_t39.2.2.2), (Nd_5 (Mo_cons (fun q => show n ≤ n from by omega) Mo_nil) (Or.inl ⟨1, rfl⟩)), ⟨(Io_n (by decide) (show t < 4096 from by omega) I_n_t39.1 I_n_t39.2.1 I_n_t39.2.2.1 (fun q => absurd q (by decide)) (fun q => absurd q (by decide)) I_n_t39.2.2.2), (Nd_A (by decide) (Mo_cons (fun q => show n ≤ n from by omega) (Mo_cons (fun q => show n ≤ n from by omega) Mo_nil)) (Or.inr ⟨(18, n, 1), (List.mem_cons_of_mem _ List.mem_cons_self), rfl, Or.inr (Or.inl rfl)⟩)), Stk_step (N := n) (pop := (3, n, t)) (new := [(4, n, t), (5, n, t), (18, n, 1)]) F0 C_t39.1.to2 (fun (h : nk 3 = false) => absurd h (by decide)) (fun q _ h => h (3, n, t) rfl) (fun _ => rfl) (fun y hy hk => ⟨rfl, (Mo_cons (fun q => show n ≤ n from by omega) (Mo_cons (fun q => show n ≤ n from by omega) (Mo_cons (fun q => show n ≤ n from by omega) Mo_nil))) y hy hk⟩) (fun _ => Or.inr ⟨(18, n, 1), (List.mem_cons_of_mem _ (List.mem_cons_of_mem _ List.mem_cons_self)), rfl, Or.inr (Or.inl rfl)⟩) (fun (h : 3 = 18) => absurd h (by decide)) (fun (h : 3 = 41 ∨ 3 = 42 ∨ 3 = 43) => absurd h (by decide)) r [] (fun y hy => absurd hy List.not_mem_nil) hS⟩⟩⟩
                  · exact (Aj_up (x := (18, n, 1)) (Aj_up (x := (5, n, t)) (Aj_sub (y := (4, n, t)) hJ (Nat.le_of_ble_eq_true rfl)) (Or.inr (Nat.le_of_ble_eq_true rfl))) (Or.inr (Nat.le_of_ble_eq_true rfl)))
                  · show m_dp t39 = (dlt 18 + (dlt 5 + (dlt 4 + sD r)))
                    have : dlt 18 = 0 := rfl; have : dlt 3 = 0 := rfl; have : dlt 4 = 0 := rfl; have : dlt 5 = 0 := rfl; omega
                  · show m_rw t39 = (rho 18 + (rho 5 + (rho 4 + sR r)))
                    have : rho 18 = 0 := rfl; have : rho 3 = 0 := rfl; have : rho 4 = 0 := rfl; have : rho 5 = 0 := rfl; omega
                  · show m_md t39 + (mu7 18 + (mu7 5 + (mu7 4 + sM r))) ≤ 3 * m_at t39 + 7 * (r.length + 1 + 1 + 1) + 10
                    have : mu7 18 = 5 := rfl; have : mu7 3 = 5 := rfl; have : mu7 4 = 7 := rfl; have : mu7 5 = 7 := rfl; omega
                  · show (wt 18 + (wt 5 + (wt 4 + sW r))) + 6 * (4096 - m_at t39) + 4 * (600 - (r.length + 1 + 1 + 1)) < (wt 3 + sW r) + 6 * (4096 - m_at t0) + 4 * (600 - (r.length + 1))
                    have : wt 18 = 0 := rfl; have : wt 3 = 3 := rfl; have : wt 4 = 5 := rfl; have : wt 5 = 5 := rfl; omega
                · refine Ok_ife (Nat.lt_trans (lo_lt (C_t3.tk hT) _) (by decide)) (by decide) (fun q40 => ?_) (fun q40 => ?_)
                  · refine Kp_push C_t3 (by omega) (fun t41 C_t41 X_t41 a_t41 b_t41 d_t41 w_t41 u_t41 v_t41 j_t41 l_t41 => ?_)
                    have e_t41 := C_t41.2.2.2.1
                    rw [a_t3] at a_t41
                    rw [b_t3] at b_t41
                    rw [d_t3] at d_t41
                    rw [w_t3] at w_t41
                    rw [u_t3] at u_t41
                    rw [v_t3] at v_t41
                    clear d_t3 w_t3 u_t3 v_t3 e_t3 a_t3 b_t3
                    have I_n_t41 := I_n_t3.flat X_t41
                    refine Kp_push C_t41 (by omega) (fun t42 C_t42 X_t42 a_t42 b_t42 d_t42 w_t42 u_t42 v_t42 j_t42 l_t42 => ?_)
                    have e_t42 := C_t42.2.2.2.1
                    rw [a_t41] at a_t42
                    rw [b_t41] at b_t42
                    rw [d_t41] at d_t42
                    rw [w_t41] at w_t42
                    rw [u_t41] at u_t42
                    rw [v_t41] at v_t42
                    clear d_t41 w_t41 u_t41 v_t41 e_t41 a_t41 b_t41
                    have I_n_t42 := I_n_t41.flat X_t42
                    refine Ok_ret (show Ok _ _ _ from ?_)
                    refine Ok_ret (show Ok _ _ _ from ?_)
                    refine Hv_mk (Kv_c (x := (18, n, 1)) rfl (Kv_c (x := (5, n, t)) rfl (Kv_c (x := (4, n, t)) rfl hK))) (C_t42.1.2.2.2.2.2.2 hTt) C_t42 hT (by omega) (by omega) (by omega) ?_ ?_ ?_ (by omega) ?_ ?_ ?_
                    · exact ⟨(Io_n (by decide) (by decide) I_n_t42.1 I_n_t42.2.1 I_n_t42.2.2.1 (fun q => absurd q (by decide)) (fun q => absurd q (by decide)) I_n_t42.2.2.2), (Nd_0 (by decide) Mo_nil), ⟨(Io_n (by decide) (show t < 4096 from by omega) I_n_t42.1 I_n_t42.2.1 I_n_t42.2.2.1 (fun q => absurd q (by decide)) (fun q => absurd q (by decide)) I_n_t42.2.2.2), (Nd_5 (Mo_cons (fun q => show n ≤ n from by omega) Mo_nil) (Or.inl ⟨1, rfl⟩)), ⟨(Io_n (by decide) (show t < 4096 from by omega) I_n_t42.1 I_n_t42.2.1 I_n_t42.2.2.1 (fun q => absurd q (by decide)) (fun q => absurd q (by decide)) I_n_t42.2.2.2), (Nd_A (by decide) (Mo_cons (fun q => show n ≤ n from by omega) (Mo_cons (fun q => show n ≤ n from by omega) Mo_nil)) (Or.inr ⟨(18, n, 1), (List.mem_cons_of_mem _ List.mem_cons_self), rfl, Or.inr (Or.inl rfl)⟩)), Stk_step (N := n) (pop := (3, n, t)) (new := [(4, n, t), (5, n, t), (18, n, 1)]) F0 C_t42.1.to2 (fun (h : nk 3 = false) => absurd h (by decide)) (fun q _ h => h (3, n, t) rfl) (fun _ => rfl) (fun y hy hk => ⟨rfl, (Mo_cons (fun q => show n ≤ n from by omega) (Mo_cons (fun q => show n ≤ n from by omega) (Mo_cons (fun q => show n ≤ n from by omega) Mo_nil))) y hy hk⟩) (fun _ => Or.inr ⟨(18, n, 1), (List.mem_cons_of_mem _ (List.mem_cons_of_mem _ List.mem_cons_self)), rfl, Or.inr (Or.inl rfl)⟩) (fun (h : 3 = 18) => absurd h (by decide)) (fun (h : 3 = 41 ∨ 3 = 42 ∨ 3 = 43) => absurd h (by decide)) r [] (fun y hy => absurd hy List.not_mem_nil) hS⟩⟩⟩
                    · exact (Aj_up (x := (18, n, 1)) (Aj_up (x := (5, n, t)) (Aj_sub (y := (4, n, t)) hJ (Nat.le_of_ble_eq_true rfl)) (Or.inr (Nat.le_of_ble_eq_true rfl))) (Or.inr (Nat.le_of_ble_eq_true rfl)))
                    · show m_dp t42 = (dlt 18 + (dlt 5 + (dlt 4 + sD r)))
                      have : dlt 18 = 0 := rfl; have : dlt 3 = 0 := rfl; have : dlt 4 = 0 := rfl; have : dlt 5 = 0 := rfl; omega
                    · show m_rw t42 = (rho 18 + (rho 5 + (rho 4 + sR r)))
                      have : rho 18 = 0 := rfl; have : rho 3 = 0 := rfl; have : rho 4 = 0 := rfl; have : rho 5 = 0 := rfl; omega
                    · show m_md t42 + (mu7 18 + (mu7 5 + (mu7 4 + sM r))) ≤ 3 * m_at t42 + 7 * (r.length + 1 + 1 + 1) + 10
                      have : mu7 18 = 5 := rfl; have : mu7 3 = 5 := rfl; have : mu7 4 = 7 := rfl; have : mu7 5 = 7 := rfl; omega
                    · show (wt 18 + (wt 5 + (wt 4 + sW r))) + 6 * (4096 - m_at t42) + 4 * (600 - (r.length + 1 + 1 + 1)) < (wt 3 + sW r) + 6 * (4096 - m_at t0) + 4 * (600 - (r.length + 1))
                      have : wt 18 = 0 := rfl; have : wt 3 = 3 := rfl; have : wt 4 = 5 := rfl; have : wt 5 = 5 := rfl; omega
                  · refine Ok_ife (Nat.lt_trans (lo_lt (C_t3.tk hT) _) (by decide)) (by decide) (fun q43 => ?_) (fun q43 => ?_)
                    · refine Kp_push C_t3 (by omega) (fun t44 C_t44 X_t44 a_t44 b_t44 d_t44 w_t44 u_t44 v_t44 j_t44 l_t44 => ?_)
                      have e_t44 := C_t44.2.2.2.1
                      rw [a_t3] at a_t44
                      rw [b_t3] at b_t44
                      rw [d_t3] at d_t44
                      rw [w_t3] at w_t44
                      rw [u_t3] at u_t44
                      rw [v_t3] at v_t44
                      clear d_t3 w_t3 u_t3 v_t3 e_t3 a_t3 b_t3
                      have I_n_t44 := I_n_t3.flat X_t44
                      refine Kp_push C_t44 (by omega) (fun t45 C_t45 X_t45 a_t45 b_t45 d_t45 w_t45 u_t45 v_t45 j_t45 l_t45 => ?_)
                      have e_t45 := C_t45.2.2.2.1
                      rw [a_t44] at a_t45
                      rw [b_t44] at b_t45
                      rw [d_t44] at d_t45
                      rw [w_t44] at w_t45
                      rw [u_t44] at u_t45
                      rw [v_t44] at v_t45
                      clear d_t44 w_t44 u_t44 v_t44 e_t44 a_t44 b_t44
                      have I_n_t45 := I_n_t44.flat X_t45
                      refine Ok_ret (show Ok _ _ _ from ?_)
                      refine Ok_ret (show Ok _ _ _ from ?_)
                      refine Hv_mk (Kv_c (x := (18, n, 1)) rfl (Kv_c (x := (5, n, t)) rfl (Kv_c (x := (4, n, t)) rfl hK))) (C_t45.1.2.2.2.2.2.2 hTt) C_t45 hT (by omega) (by omega) (by omega) ?_ ?_ ?_ (by omega) ?_ ?_ ?_
                      · exact ⟨(Io_n (by decide) (by decide) I_n_t45.1 I_n_t45.2.1 I_n_t45.2.2.1 (fun q => absurd q (by decide)) (fun q => absurd q (by decide)) I_n_t45.2.2.2), (Nd_0 (by decide) Mo_nil), ⟨(Io_n (by decide) (show t < 4096 from by omega) I_n_t45.1 I_n_t45.2.1 I_n_t45.2.2.1 (fun q => absurd q (by decide)) (fun q => absurd q (by decide)) I_n_t45.2.2.2), (Nd_5 (Mo_cons (fun q => show n ≤ n from by omega) Mo_nil) (Or.inl ⟨1, rfl⟩)), ⟨(Io_n (by decide) (show t < 4096 from by omega) I_n_t45.1 I_n_t45.2.1 I_n_t45.2.2.1 (fun q => absurd q (by decide)) (fun q => absurd q (by decide)) I_n_t45.2.2.2), (Nd_A (by decide) (Mo_cons (fun q => show n ≤ n from by omega) (Mo_cons (fun q => show n ≤ n from by omega) Mo_nil)) (Or.inr ⟨(18, n, 1), (List.mem_cons_of_mem _ List.mem_cons_self), rfl, Or.inr (Or.inl rfl)⟩)), Stk_step (N := n) (pop := (3, n, t)) (new := [(4, n, t), (5, n, t), (18, n, 1)]) F0 C_t45.1.to2 (fun (h : nk 3 = false) => absurd h (by decide)) (fun q _ h => h (3, n, t) rfl) (fun _ => rfl) (fun y hy hk => ⟨rfl, (Mo_cons (fun q => show n ≤ n from by omega) (Mo_cons (fun q => show n ≤ n from by omega) (Mo_cons (fun q => show n ≤ n from by omega) Mo_nil))) y hy hk⟩) (fun _ => Or.inr ⟨(18, n, 1), (List.mem_cons_of_mem _ (List.mem_cons_of_mem _ List.mem_cons_self)), rfl, Or.inr (Or.inl rfl)⟩) (fun (h : 3 = 18) => absurd h (by decide)) (fun (h : 3 = 41 ∨ 3 = 42 ∨ 3 = 43) => absurd h (by decide)) r [] (fun y hy => absurd hy List.not_mem_nil) hS⟩⟩⟩
                      · exact (Aj_up (x := (18, n, 1)) (Aj_up (x := (5, n, t)) (Aj_sub (y := (4, n, t)) hJ (Nat.le_of_ble_eq_true rfl)) (Or.inr (Nat.le_of_ble_eq_true rfl))) (Or.inr (Nat.le_of_ble_eq_true rfl)))
                      · show m_dp t45 = (dlt 18 + (dlt 5 + (dlt 4 + sD r)))
                        have : dlt 18 = 0 := rfl; have : dlt 3 = 0 := rfl; have : dlt 4 = 0 := rfl; have : dlt 5 = 0 := rfl; omega
                      · show m_rw t45 = (rho 18 + (rho 5 + (rho 4 + sR r)))
                        have : rho 18 = 0 := rfl; have : rho 3 = 0 := rfl; have : rho 4 = 0 := rfl; have : rho 5 = 0 := rfl; omega
                      · show m_md t45 + (mu7 18 + (mu7 5 + (mu7 4 + sM r))) ≤ 3 * m_at t45 + 7 * (r.length + 1 + 1 + 1) + 10
                        have : mu7 18 = 5 := rfl; have : mu7 3 = 5 := rfl; have : mu7 4 = 7 := rfl; have : mu7 5 = 7 := rfl; omega
                      · show (wt 18 + (wt 5 + (wt 4 + sW r))) + 6 * (4096 - m_at t45) + 4 * (600 - (r.length + 1 + 1 + 1)) < (wt 3 + sW r) + 6 * (4096 - m_at t0) + 4 * (600 - (r.length + 1))
                        have : wt 18 = 0 := rfl; have : wt 3 = 3 := rfl; have : wt 4 = 5 := rfl; have : wt 5 = 5 := rfl; omega
                    · refine Ok_ife (Nat.lt_trans (lo_lt (C_t3.tk hT) _) (by decide)) (by decide) (fun q46 => ?_) (fun q46 => ?_)
                      · refine Kp_push C_t3 (by omega) (fun t47 C_t47 X_t47 a_t47 b_t47 d_t47 w_t47 u_t47 v_t47 j_t47 l_t47 => ?_)
                        have e_t47 := C_t47.2.2.2.1
                        rw [a_t3] at a_t47
                        rw [b_t3] at b_t47
                        rw [d_t3] at d_t47
                        rw [w_t3] at w_t47
                        rw [u_t3] at u_t47
                        rw [v_t3] at v_t47
                        clear d_t3 w_t3 u_t3 v_t3 e_t3 a_t3 b_t3
                        have I_n_t47 := I_n_t3.flat X_t47
                        refine Kp_push C_t47 (by omega) (fun t48 C_t48 X_t48 a_t48 b_t48 d_t48 w_t48 u_t48 v_t48 j_t48 l_t48 => ?_)
                        have e_t48 := C_t48.2.2.2.1
                        rw [a_t47] at a_t48
                        rw [b_t47] at b_t48
                        rw [d_t47] at d_t48
                        rw [w_t47] at w_t48
                        rw [u_t47] at u_t48
                        rw [v_t47] at v_t48
                        clear d_t47 w_t47 u_t47 v_t47 e_t47 a_t47 b_t47
                        have I_n_t48 := I_n_t47.flat X_t48
                        refine Ok_ret (show Ok _ _ _ from ?_)
                        refine Ok_ret (show Ok _ _ _ from ?_)
                        refine Hv_mk (Kv_c (x := (18, n, 1)) rfl (Kv_c (x := (5, n, t)) rfl (Kv_c (x := (4, n, t)) rfl hK))) (C_t48.1.2.2.2.2.2.2 hTt) C_t48 hT (by omega) (by omega) (by omega) ?_ ?_ ?_ (by omega) ?_ ?_ ?_
                        · exact ⟨(Io_n (by decide) (by decide) I_n_t48.1 I_n_t48.2.1 I_n_t48.2.2.1 (fun q => absurd q (by decide)) (fun q => absurd q (by decide)) I_n_t48.2.2.2), (Nd_0 (by decide) Mo_nil), ⟨(Io_n (by decide) (show t < 4096 from by omega) I_n_t48.1 I_n_t48.2.1 I_n_t48.2.2.1 (fun q => absurd q (by decide)) (fun q => absurd q (by decide)) I_n_t48.2.2.2), (Nd_5 (Mo_cons (fun q => show n ≤ n from by omega) Mo_nil) (Or.inl ⟨1, rfl⟩)), ⟨(Io_n (by decide) (show t < 4096 from by omega) I_n_t48.1 I_n_t48.2.1 I_n_t48.2.2.1 (fun q => absurd q (by decide)) (fun q => absurd q (by decide)) I_n_t48.2.2.2), (Nd_A (by decide) (Mo_cons (fun q => show n ≤ n from by omega) (Mo_cons (fun q => show n ≤ n from by omega) Mo_nil)) (Or.inr ⟨(18, n, 1), (List.mem_cons_of_mem _ List.mem_cons_self), rfl, Or.inr (Or.inl rfl)⟩)), Stk_step (N := n) (pop := (3, n, t)) (new := [(4, n, t), (5, n, t), (18, n, 1)]) F0 C_t48.1.to2 (fun (h : nk 3 = false) => absurd h (by decide)) (fun q _ h => h (3, n, t) rfl) (fun _ => rfl) (fun y hy hk => ⟨rfl, (Mo_cons (fun q => show n ≤ n from by omega) (Mo_cons (fun q => show n ≤ n from by omega) (Mo_cons (fun q => show n ≤ n from by omega) Mo_nil))) y hy hk⟩) (fun _ => Or.inr ⟨(18, n, 1), (List.mem_cons_of_mem _ (List.mem_cons_of_mem _ List.mem_cons_self)), rfl, Or.inr (Or.inl rfl)⟩) (fun (h : 3 = 18) => absurd h (by decide)) (fun (h : 3 = 41 ∨ 3 = 42 ∨ 3 = 43) => absurd h (by decide)) r [] (fun y hy => absurd hy List.not_mem_nil) hS⟩⟩⟩
                        · exact (Aj_up (x := (18, n, 1)) (Aj_up (x := (5, n, t)) (Aj_sub (y := (4, n, t)) hJ (Nat.le_of_ble_eq_true rfl)) (Or.inr (Nat.le_of_ble_eq_true rfl))) (Or.inr (Nat.le_of_ble_eq_true rfl)))
                        · show m_dp t48 = (dlt 18 + (dlt 5 + (dlt 4 + sD r)))
                          have : dlt 18 = 0 := rfl; have : dlt 3 = 0 := rfl; have : dlt 4 = 0 := rfl; have : dlt 5 = 0 := rfl; omega
                        · show m_rw t48 = (rho 18 + (rho 5 + (rho 4 + sR r)))
                          have : rho 18 = 0 := rfl; have : rho 3 = 0 := rfl; have : rho 4 = 0 := rfl; have : rho 5 = 0 := rfl; omega
                        · show m_md t48 + (mu7 18 + (mu7 5 + (mu7 4 + sM r))) ≤ 3 * m_at t48 + 7 * (r.length + 1 + 1 + 1) + 10
                          have : mu7 18 = 5 := rfl; have : mu7 3 = 5 := rfl; have : mu7 4 = 7 := rfl; have : mu7 5 = 7 := rfl; omega
                        · show (wt 18 + (wt 5 + (wt 4 + sW r))) + 6 * (4096 - m_at t48) + 4 * (600 - (r.length + 1 + 1 + 1)) < (wt 3 + sW r) + 6 * (4096 - m_at t0) + 4 * (600 - (r.length + 1))
                          have : wt 18 = 0 := rfl; have : wt 3 = 3 := rfl; have : wt 4 = 5 := rfl; have : wt 5 = 5 := rfl; omega
                      · refine Ok_ife (Nat.lt_trans (lo_lt (C_t3.tk hT) _) (by decide)) (by decide) (fun q49 => ?_) (fun q49 => ?_)
                        · refine Kp_push C_t3 (by omega) (fun t50 C_t50 X_t50 a_t50 b_t50 d_t50 w_t50 u_t50 v_t50 j_t50 l_t50 => ?_)
                          have e_t50 := C_t50.2.2.2.1
                          rw [a_t3] at a_t50
                          rw [b_t3] at b_t50
                          rw [d_t3] at d_t50
                          rw [w_t3] at w_t50
                          rw [u_t3] at u_t50
                          rw [v_t3] at v_t50
                          clear d_t3 w_t3 u_t3 v_t3 e_t3 a_t3 b_t3
                          have I_n_t50 := I_n_t3.flat X_t50
                          refine Kp_push C_t50 (by omega) (fun t51 C_t51 X_t51 a_t51 b_t51 d_t51 w_t51 u_t51 v_t51 j_t51 l_t51 => ?_)
                          have e_t51 := C_t51.2.2.2.1
                          rw [a_t50] at a_t51
                          rw [b_t50] at b_t51
                          rw [d_t50] at d_t51
                          rw [w_t50] at w_t51
                          rw [u_t50] at u_t51
                          rw [v_t50] at v_t51
                          clear d_t50 w_t50 u_t50 v_t50 e_t50 a_t50 b_t50
                          have I_n_t51 := I_n_t50.flat X_t51
                          refine Ok_ret (show Ok _ _ _ from ?_)
                          refine Ok_ret (show Ok _ _ _ from ?_)
                          refine Hv_mk (Kv_c (x := (18, n, 1)) rfl (Kv_c (x := (5, n, t)) rfl (Kv_c (x := (4, n, t)) rfl hK))) (C_t51.1.2.2.2.2.2.2 hTt) C_t51 hT (by omega) (by omega) (by omega) ?_ ?_ ?_ (by omega) ?_ ?_ ?_
                          · exact ⟨(Io_n (by decide) (by decide) I_n_t51.1 I_n_t51.2.1 I_n_t51.2.2.1 (fun q => absurd q (by decide)) (fun q => absurd q (by decide)) I_n_t51.2.2.2), (Nd_0 (by decide) Mo_nil), ⟨(Io_n (by decide) (show t < 4096 from by omega) I_n_t51.1 I_n_t51.2.1 I_n_t51.2.2.1 (fun q => absurd q (by decide)) (fun q => absurd q (by decide)) I_n_t51.2.2.2), (Nd_5 (Mo_cons (fun q => show n ≤ n from by omega) Mo_nil) (Or.inl ⟨1, rfl⟩)), ⟨(Io_n (by decide) (show t < 4096 from by omega) I_n_t51.1 I_n_t51.2.1 I_n_t51.2.2.1 (fun q => absurd q (by decide)) (fun q => absurd q (by decide)) I_n_t51.2.2.2), (Nd_A (by decide) (Mo_cons (fun q => show n ≤ n from by omega) (Mo_cons (fun q => show n ≤ n from by omega) Mo_nil)) (Or.inr ⟨(18, n, 1), (List.mem_cons_of_mem _ List.mem_cons_self), rfl, Or.inr (Or.inl rfl)⟩)), Stk_step (N := n) (pop := (3, n, t)) (new := [(4, n, t), (5, n, t), (18, n, 1)]) F0 C_t51.1.to2 (fun (h : nk 3 = false) => absurd h (by decide)) (fun q _ h => h (3, n, t) rfl) (fun _ => rfl) (fun y hy hk => ⟨rfl, (Mo_cons (fun q => show n ≤ n from by omega) (Mo_cons (fun q => show n ≤ n from by omega) (Mo_cons (fun q => show n ≤ n from by omega) Mo_nil))) y hy hk⟩) (fun _ => Or.inr ⟨(18, n, 1), (List.mem_cons_of_mem _ (List.mem_cons_of_mem _ List.mem_cons_self)), rfl, Or.inr (Or.inl rfl)⟩) (fun (h : 3 = 18) => absurd h (by decide)) (fun (h : 3 = 41 ∨ 3 = 42 ∨ 3 = 43) => absurd h (by decide)) r [] (fun y hy => absurd hy List.not_mem_nil) hS⟩⟩⟩
                          · exact (Aj_up (x := (18, n, 1)) (Aj_up (x := (5, n, t)) (Aj_sub (y := (4, n, t)) hJ (Nat.le_of_ble_eq_true rfl)) (Or.inr (Nat.le_of_ble_eq_true rfl))) (Or.inr (Nat.le_of_ble_eq_true rfl)))
                          · show m_dp t51 = (dlt 18 + (dlt 5 + (dlt 4 + sD r)))
                            have : dlt 18 = 0 := rfl; have : dlt 3 = 0 := rfl; have : dlt 4 = 0 := rfl; have : dlt 5 = 0 := rfl; omega
                          · show m_rw t51 = (rho 18 + (rho 5 + (rho 4 + sR r)))
                            have : rho 18 = 0 := rfl; have : rho 3 = 0 := rfl; have : rho 4 = 0 := rfl; have : rho 5 = 0 := rfl; omega
                          · show m_md t51 + (mu7 18 + (mu7 5 + (mu7 4 + sM r))) ≤ 3 * m_at t51 + 7 * (r.length + 1 + 1 + 1) + 10
                            have : mu7 18 = 5 := rfl; have : mu7 3 = 5 := rfl; have : mu7 4 = 7 := rfl; have : mu7 5 = 7 := rfl; omega
                          · show (wt 18 + (wt 5 + (wt 4 + sW r))) + 6 * (4096 - m_at t51) + 4 * (600 - (r.length + 1 + 1 + 1)) < (wt 3 + sW r) + 6 * (4096 - m_at t0) + 4 * (600 - (r.length + 1))
                            have : wt 18 = 0 := rfl; have : wt 3 = 3 := rfl; have : wt 4 = 5 := rfl; have : wt 5 = 5 := rfl; omega
                        · refine Kp_error C_t3 (by omega) (fun t52 C_t52 X_t52 a_t52 b_t52 d_t52 w_t52 u_t52 v_t52 j_t52 l_t52 => ?_)
                          have wb_t52 := w_t52.2
                          have w_t52 := Nat.pos_of_ne_zero w_t52.1
                          have e_t52 := C_t52.2.2.2.1
                          have I_n_t52 := I_n_t3.flat X_t52
                          refine Ok_ret (show Ok _ _ _ from ?_)
                          refine Ok_ret (show Ok _ _ _ from ?_)
                          exact Or.inl ⟨Nat.ne_of_gt (show 0 < m_wr t52 from by omega), by omega, by omega, C_t52.2.2.2.2.2, by omega⟩
      · refine Kp_child C_t3 I_n_t3.1 I_n_t3.2.1 I_n_t3.2.2.1 (by omega) (by omega) (by decide) (by decide) (fun t53 C_t53 X_t53 a_t53 b_t53 d_t53 w_t53 u_t53 v_t53 j_t53 l_t53 => ?_)
        have e_t53 := C_t53.2.2.2.1
        rw [a_t3] at a_t53
        rw [b_t3] at b_t53
        rw [d_t3] at d_t53
        rw [w_t3] at w_t53
        rw [u_t3] at u_t53
        rw [v_t3] at v_t53
        clear d_t3 w_t3 u_t3 v_t3 e_t3 a_t3
        have I_n_t53 := I_n_t3.chd X_t53 j_t53
        have f_n_t53 : Fz t53 n := j_t53.2.2.2.2.1
        have I_m_mdt3_t53 : Nq t53 (m_md t3) := Nq.chn j_t53 (by omega) I_n_t3 (by decide)
        have u_m_mdt3_t53 : Up t53 (m_md t3) := Or.inl j_t53.2.1
        have la_n_t53 : m_la t53 n = (m_md t3) + 1 := j_t53.2.2.2.2.2.1
        have wl_n_t53 : m_wh t53 (m_md t3) = 88 := j_t53.1
        have z_t54 : m_at t53 < m_ct t53 := lo_ne (Nat.ne_of_gt (show 0 < lo t53 (m_at t53) from by omega))
        refine Kp_at C_t53 (fun t54 C_t54 X_t54 a_t54 b_t54 d_t54 w_t54 u_t54 v_t54 j_t54 l_t54 => ?_)
        have e_t54 := C_t54.2.2.2.1
        rw [a_t53] at a_t54
        rw [b_t53] at b_t54
        rw [d_t53] at d_t54
        rw [w_t53] at w_t54
        rw [u_t53] at u_t54
        rw [v_t53] at v_t54
        rw [a_t53, e_t53] at z_t54
        clear d_t53 w_t53 u_t53 v_t53 e_t53 a_t53 b_t53
        have I_n_t54 := I_n_t53.flat X_t54
        have f_n_t54 := f_n_t53.ex I_n_t53 (X_t54 0)
        have I_m_mdt3_t54 := I_m_mdt3_t53.flat X_t54
        have u_m_mdt3_t54 := u_m_mdt3_t53.ex I_m_mdt3_t53 (X_t54 0)
        have la_n_t54 : m_la t54 n = (m_md t3) + 1 := by rw [j_t54.2.2.1]; exact la_n_t53
        have wl_n_t54 : m_wh t54 ((m_md t3)) = 88 := by rw [j_t54.1]; exact wl_n_t53
        clear la_n_t53 wl_n_t53
        refine Ok_ret (show Ok _ _ _ from ?_)
        refine Ok_ret (show Ok _ _ _ from ?_)
        refine Hv_mk (Kv_c (x := (4, n, t)) rfl hK) (C_t54.1.2.2.2.2.2.2 hTt) C_t54 hT (by omega) (by omega) (by omega) ?_ ?_ ?_ (by omega) ?_ ?_ ?_
        · exact ⟨(Io_n (by decide) (show t < 4096 from by omega) I_n_t54.1 I_n_t54.2.1 I_n_t54.2.2.1 (fun q => absurd q (by decide)) (fun q => absurd q (by decide)) I_n_t54.2.2.2), (Nd_A (by decide) Mo_nil (Or.inl f_n_t54)), Stk_step (N := n) (pop := (3, n, t)) (new := [(4, n, t)]) F0 C_t54.1.to2 (fun (h : nk 3 = false) => absurd h (by decide)) (fun q _ h => h (3, n, t) rfl) (fun _ => rfl) (fun y hy hk => ⟨rfl, (Mo_cons (fun q => show n ≤ n from by omega) Mo_nil) y hy hk⟩) (fun _ => Or.inl f_n_t54) (fun (h : 3 = 18) => absurd h (by decide)) (fun (h : 3 = 41 ∨ 3 = 42 ∨ 3 = 43) => absurd h (by decide)) r [] (fun y hy => absurd hy List.not_mem_nil) hS⟩
        · exact (Aj_sub (y := (4, n, t)) hJ (Nat.le_of_ble_eq_true rfl))
        · show m_dp t54 = (dlt 4 + sD r)
          have : dlt 3 = 0 := rfl; have : dlt 4 = 0 := rfl; omega
        · show m_rw t54 = (rho 4 + sR r)
          have : rho 3 = 0 := rfl; have : rho 4 = 0 := rfl; omega
        · show m_md t54 + (mu7 4 + sM r) ≤ 3 * m_at t54 + 7 * (r.length + 1) + 10
          have : mu7 3 = 5 := rfl; have : mu7 4 = 7 := rfl; omega
        · show (wt 4 + sW r) + 6 * (4096 - m_at t54) + 4 * (600 - (r.length + 1)) < (wt 3 + sW r) + 6 * (4096 - m_at t0) + 4 * (600 - (r.length + 1))
          have : wt 3 = 3 := rfl; have : wt 4 = 5 := rfl; omega
    · refine Ok_ife (Nat.lt_trans (lo_lt (C_t3.tk hT) _) (by decide)) (by decide) (fun q55 => ?_) (fun q55 => ?_)
      · refine Ok_bnc ?_
        try unfold b_X6_name
        refine Kp_look C_t3 hT (by omega) ?_
        refine Ok_ife (Nat.lt_trans (lo_lt (C_t3.tk hT) _) (by decide)) (by decide) (fun q => ?_) (fun q => absurd q55 q)
        refine Kp_child C_t3 I_n_t3.1 I_n_t3.2.1 I_n_t3.2.2.1 (by omega) (by omega) (by decide) (by decide) (fun t57 C_t57 X_t57 a_t57 b_t57 d_t57 w_t57 u_t57 v_t57 j_t57 l_t57 => ?_)
        have e_t57 := C_t57.2.2.2.1
        rw [a_t3] at a_t57
        rw [b_t3] at b_t57
        rw [d_t3] at d_t57
        rw [w_t3] at w_t57
        rw [u_t3] at u_t57
        rw [v_t3] at v_t57
        clear d_t3 w_t3 u_t3 v_t3 e_t3 a_t3
        have I_n_t57 := I_n_t3.chd X_t57 j_t57
        have f_n_t57 : Fz t57 n := j_t57.2.2.2.2.1
        have I_m_mdt3_t57 : Nq t57 (m_md t3) := Nq.chn j_t57 (by omega) I_n_t3 (by decide)
        have u_m_mdt3_t57 : Up t57 (m_md t3) := Or.inl j_t57.2.1
        have la_n_t57 : m_la t57 n = (m_md t3) + 1 := j_t57.2.2.2.2.2.1
        have wl_n_t57 : m_wh t57 (m_md t3) = 5 := j_t57.1
        have z_t58 : m_at t57 < m_ct t57 := lo_ne (Nat.ne_of_gt (show 0 < lo t57 (m_at t57) from by omega))
        refine Kp_at C_t57 (fun t58 C_t58 X_t58 a_t58 b_t58 d_t58 w_t58 u_t58 v_t58 j_t58 l_t58 => ?_)
        have e_t58 := C_t58.2.2.2.1
        rw [a_t57] at a_t58
        rw [b_t57] at b_t58
        rw [d_t57] at d_t58
        rw [w_t57] at w_t58
        rw [u_t57] at u_t58
        rw [v_t57] at v_t58
        rw [a_t57, e_t57] at z_t58
        clear d_t57 w_t57 u_t57 v_t57 e_t57 a_t57 b_t57
        have I_n_t58 := I_n_t57.flat X_t58
        have f_n_t58 := f_n_t57.ex I_n_t57 (X_t58 0)
        have I_m_mdt3_t58 := I_m_mdt3_t57.flat X_t58
        have u_m_mdt3_t58 := u_m_mdt3_t57.ex I_m_mdt3_t57 (X_t58 0)
        have la_n_t58 : m_la t58 n = (m_md t3) + 1 := by rw [j_t58.2.2.1]; exact la_n_t57
        have wl_n_t58 : m_wh t58 ((m_md t3)) = 5 := by rw [j_t58.1]; exact wl_n_t57
        clear la_n_t57 wl_n_t57
        refine Ok_ret (show Ok _ _ _ from ?_)
        refine Kp_push C_t58 (by omega) (fun t59 C_t59 X_t59 a_t59 b_t59 d_t59 w_t59 u_t59 v_t59 j_t59 l_t59 => ?_)
        have e_t59 := C_t59.2.2.2.1
        rw [a_t58] at a_t59
        rw [b_t58] at b_t59
        rw [d_t58] at d_t59
        rw [w_t58] at w_t59
        rw [u_t58] at u_t59
        rw [v_t58] at v_t59
        clear d_t58 w_t58 u_t58 v_t58 e_t58 a_t58 b_t58
        have I_n_t59 := I_n_t58.flat X_t59
        have f_n_t59 := f_n_t58.ex I_n_t58 (X_t59 0)
        have I_m_mdt3_t59 := I_m_mdt3_t58.flat X_t59
        have u_m_mdt3_t59 := u_m_mdt3_t58.ex I_m_mdt3_t58 (X_t59 0)
        have la_n_t59 : m_la t59 n = (m_md t3) + 1 := by rw [j_t59.2.2.1]; exact la_n_t58
        have wl_n_t59 : m_wh t59 ((m_md t3)) = 5 := by rw [j_t59.1]; exact wl_n_t58
        clear la_n_t58 wl_n_t58
        refine Ok_ret (show Ok _ _ _ from ?_)
        refine Ok_ret (show Ok _ _ _ from ?_)
        refine Hv_mk (Kv_c (x := (5, n, t)) rfl (Kv_c (x := (4, n, t)) rfl hK)) (C_t59.1.2.2.2.2.2.2 hTt) C_t59 hT (by omega) (by omega) (by omega) ?_ ?_ ?_ (by omega) ?_ ?_ ?_
        · exact ⟨(Io_n (by decide) (show t < 4096 from by omega) I_n_t59.1 I_n_t59.2.1 I_n_t59.2.2.1 (fun q => absurd q (by decide)) (fun q => absurd q (by decide)) I_n_t59.2.2.2), (Nd_5 Mo_nil (Or.inr (N5_mk f_n_t59 (Ab_none rfl) la_n_t59 wl_n_t59 (Or.inl (by decide))))), ⟨(Io_n (by decide) (show t < 4096 from by omega) I_n_t59.1 I_n_t59.2.1 I_n_t59.2.2.1 (fun q => absurd q (by decide)) (fun q => absurd q (by decide)) I_n_t59.2.2.2), (Nd_A (by decide) (Mo_cons (fun q => show n ≤ n from by omega) Mo_nil) (Or.inl f_n_t59)), Stk_step (N := n) (pop := (3, n, t)) (new := [(4, n, t), (5, n, t)]) F0 C_t59.1.to2 (fun (h : nk 3 = false) => absurd h (by decide)) (fun q _ h => h (3, n, t) rfl) (fun _ => rfl) (fun y hy hk => ⟨rfl, (Mo_cons (fun q => show n ≤ n from by omega) (Mo_cons (fun q => show n ≤ n from by omega) Mo_nil)) y hy hk⟩) (fun _ => Or.inl f_n_t59) (fun (h : 3 = 18) => absurd h (by decide)) (fun (h : 3 = 41 ∨ 3 = 42 ∨ 3 = 43) => absurd h (by decide)) r [] (fun y hy => absurd hy List.not_mem_nil) hS⟩⟩
        · exact (Aj_up (x := (5, n, t)) (Aj_sub (y := (4, n, t)) hJ (Nat.le_of_ble_eq_true rfl)) (Or.inr (Nat.le_of_ble_eq_true rfl)))
        · show m_dp t59 = (dlt 5 + (dlt 4 + sD r))
          have : dlt 3 = 0 := rfl; have : dlt 4 = 0 := rfl; have : dlt 5 = 0 := rfl; omega
        · show m_rw t59 = (rho 5 + (rho 4 + sR r))
          have : rho 3 = 0 := rfl; have : rho 4 = 0 := rfl; have : rho 5 = 0 := rfl; omega
        · show m_md t59 + (mu7 5 + (mu7 4 + sM r)) ≤ 3 * m_at t59 + 7 * (r.length + 1 + 1) + 10
          have : mu7 3 = 5 := rfl; have : mu7 4 = 7 := rfl; have : mu7 5 = 7 := rfl; omega
        · show (wt 5 + (wt 4 + sW r)) + 6 * (4096 - m_at t59) + 4 * (600 - (r.length + 1 + 1)) < (wt 3 + sW r) + 6 * (4096 - m_at t0) + 4 * (600 - (r.length + 1))
          have : wt 3 = 3 := rfl; have : wt 4 = 5 := rfl; have : wt 5 = 5 := rfl; omega
      · refine Ok_ife (Nat.lt_trans (lo_lt (C_t3.tk hT) _) (by decide)) (by decide) (fun q60 => ?_) (fun q60 => ?_)
        · refine Kp_child C_t3 I_n_t3.1 I_n_t3.2.1 I_n_t3.2.2.1 (by omega) (by omega) (by decide) (by decide) (fun t61 C_t61 X_t61 a_t61 b_t61 d_t61 w_t61 u_t61 v_t61 j_t61 l_t61 => ?_)
          have e_t61 := C_t61.2.2.2.1
          rw [a_t3] at a_t61
          rw [b_t3] at b_t61
          rw [d_t3] at d_t61
          rw [w_t3] at w_t61
          rw [u_t3] at u_t61
          rw [v_t3] at v_t61
          clear d_t3 w_t3 u_t3 v_t3 e_t3 a_t3
          have I_n_t61 := I_n_t3.chd X_t61 j_t61
          have f_n_t61 : Fz t61 n := j_t61.2.2.2.2.1
          have I_m_mdt3_t61 : Nq t61 (m_md t3) := Nq.chn j_t61 (by omega) I_n_t3 (by decide)
          have u_m_mdt3_t61 : Up t61 (m_md t3) := Or.inl j_t61.2.1
          have la_n_t61 : m_la t61 n = (m_md t3) + 1 := j_t61.2.2.2.2.2.1
          have wl_n_t61 : m_wh t61 (m_md t3) = 89 := j_t61.1
          refine Kp_more C_t61 (by omega) (by omega) (fun t62 C_t62 X_t62 a_t62 b_t62 d_t62 w_t62 u_t62 v_t62 j_t62 l_t62 => ?_)
          have e_t62 := C_t62.2.2.2.1
          rcases w_t62 with ⟨w_t62, y_t62⟩ | ⟨w_t62, wb_t62⟩
          · rw [a_t61] at a_t62
            rw [b_t61] at b_t62
            rw [d_t61] at d_t62
            rw [w_t61] at w_t62
            rw [u_t61] at u_t62
            rw [v_t61] at v_t62
            rw [d_t62] at y_t62
            clear d_t61 w_t61 u_t61 v_t61 e_t61 a_t61 b_t61
            have I_n_t62 := I_n_t61.flat X_t62
            have f_n_t62 := f_n_t61.ex I_n_t61 (X_t62 0)
            have I_m_mdt3_t62 := I_m_mdt3_t61.flat X_t62
            have u_m_mdt3_t62 := u_m_mdt3_t61.ex I_m_mdt3_t61 (X_t62 0)
            have la_n_t62 : m_la t62 n = (m_md t3) + 1 := by rw [j_t62.2.2.1]; exact la_n_t61
            have wl_n_t62 : m_wh t62 ((m_md t3)) = 89 := by rw [j_t62.1]; exact wl_n_t61
            clear la_n_t61 wl_n_t61
            have z_t63 : m_at t62 < m_ct t62 := lo_ne (Nat.ne_of_gt (show 0 < lo t62 (m_at t62) from by omega))
            refine Kp_at C_t62 (fun t63 C_t63 X_t63 a_t63 b_t63 d_t63 w_t63 u_t63 v_t63 j_t63 l_t63 => ?_)
            have e_t63 := C_t63.2.2.2.1
            rw [a_t62] at a_t63
            rw [b_t62] at b_t63
            rw [d_t62] at d_t63
            rw [w_t62] at w_t63
            rw [u_t62] at u_t63
            rw [v_t62] at v_t63
            rw [a_t62, e_t62] at z_t63
            clear d_t62 w_t62 u_t62 v_t62 e_t62 a_t62 b_t62
            have I_n_t63 := I_n_t62.flat X_t63
            have f_n_t63 := f_n_t62.ex I_n_t62 (X_t63 0)
            have I_m_mdt3_t63 := I_m_mdt3_t62.flat X_t63
            have u_m_mdt3_t63 := u_m_mdt3_t62.ex I_m_mdt3_t62 (X_t63 0)
            have la_n_t63 : m_la t63 n = (m_md t3) + 1 := by rw [j_t63.2.2.1]; exact la_n_t62
            have wl_n_t63 : m_wh t63 ((m_md t3)) = 89 := by rw [j_t63.1]; exact wl_n_t62
            clear la_n_t62 wl_n_t62
            refine Kp_push C_t63 (by omega) (fun t64 C_t64 X_t64 a_t64 b_t64 d_t64 w_t64 u_t64 v_t64 j_t64 l_t64 => ?_)
            have e_t64 := C_t64.2.2.2.1
            rw [a_t63] at a_t64
            rw [b_t63] at b_t64
            rw [d_t63] at d_t64
            rw [w_t63] at w_t64
            rw [u_t63] at u_t64
            rw [v_t63] at v_t64
            clear d_t63 w_t63 u_t63 v_t63 e_t63 a_t63 b_t63
            have I_n_t64 := I_n_t63.flat X_t64
            have f_n_t64 := f_n_t63.ex I_n_t63 (X_t64 0)
            have I_m_mdt3_t64 := I_m_mdt3_t63.flat X_t64
            have u_m_mdt3_t64 := u_m_mdt3_t63.ex I_m_mdt3_t63 (X_t64 0)
            have la_n_t64 : m_la t64 n = (m_md t3) + 1 := by rw [j_t64.2.2.1]; exact la_n_t63
            have wl_n_t64 : m_wh t64 ((m_md t3)) = 89 := by rw [j_t64.1]; exact wl_n_t63
            clear la_n_t63 wl_n_t63
            refine Ok_bnc ?_
            try unfold b_X6_expression
            refine Kp_push C_t64 (by omega) (fun t66 C_t66 X_t66 a_t66 b_t66 d_t66 w_t66 u_t66 v_t66 j_t66 l_t66 => ?_)
            have e_t66 := C_t66.2.2.2.1
            rw [a_t64] at a_t66
            rw [b_t64] at b_t66
            rw [d_t64] at d_t66
            rw [w_t64] at w_t66
            rw [u_t64] at u_t66
            rw [v_t64] at v_t66
            clear d_t64 w_t64 u_t64 v_t64 e_t64 a_t64 b_t64
            have I_n_t66 := I_n_t64.flat X_t66
            have f_n_t66 := f_n_t64.ex I_n_t64 (X_t66 0)
            have I_m_mdt3_t66 := I_m_mdt3_t64.flat X_t66
            have u_m_mdt3_t66 := u_m_mdt3_t64.ex I_m_mdt3_t64 (X_t66 0)
            have la_n_t66 : m_la t66 n = (m_md t3) + 1 := by rw [j_t66.2.2.1]; exact la_n_t64
            have wl_n_t66 : m_wh t66 ((m_md t3)) = 89 := by rw [j_t66.1]; exact wl_n_t64
            clear la_n_t64 wl_n_t64
            refine Kp_push C_t66 (by omega) (fun t67 C_t67 X_t67 a_t67 b_t67 d_t67 w_t67 u_t67 v_t67 j_t67 l_t67 => ?_)
            have e_t67 := C_t67.2.2.2.1
            rw [a_t66] at a_t67
            rw [b_t66] at b_t67
            rw [d_t66] at d_t67
            rw [w_t66] at w_t67
            rw [u_t66] at u_t67
            rw [v_t66] at v_t67
            clear d_t66 w_t66 u_t66 v_t66 e_t66 a_t66 b_t66
            have I_n_t67 := I_n_t66.flat X_t67
            have f_n_t67 := f_n_t66.ex I_n_t66 (X_t67 0)
            have I_m_mdt3_t67 := I_m_mdt3_t66.flat X_t67
            have u_m_mdt3_t67 := u_m_mdt3_t66.ex I_m_mdt3_t66 (X_t67 0)
            have la_n_t67 : m_la t67 n = (m_md t3) + 1 := by rw [j_t67.2.2.1]; exact la_n_t66
            have wl_n_t67 : m_wh t67 ((m_md t3)) = 89 := by rw [j_t67.1]; exact wl_n_t66
            clear la_n_t66 wl_n_t66
            refine Ok_ret (show Ok _ _ _ from ?_)
            refine Ok_ret (show Ok _ _ _ from ?_)
            refine Ok_ret (show Ok _ _ _ from ?_)
            refine Hv_mk (Kv_c (x := (3, m_md t3, 0)) rfl (Kv_c (x := (2, m_md t3, 0 ||| (1 * 256))) rfl (Kv_c (x := (8, 79, 0)) rfl (Kv_c (x := (4, n, t)) rfl hK)))) (C_t67.1.2.2.2.2.2.2 hTt) C_t67 hT (by omega) (by omega) (by omega) ?_ ?_ ?_ (by omega) ?_ ?_ ?_
            · exact ⟨(Io_n (by decide) (by decide) I_m_mdt3_t67.1 I_m_mdt3_t67.2.1 I_m_mdt3_t67.2.2.1 (fun q => absurd q (by decide)) (fun q => absurd q (by decide)) I_m_mdt3_t67.2.2.2), (Nd_0 (by decide) Mo_nil), ⟨(Io_2 (by have := or_256 (b := 1) (show 0 < 256 from by omega); omega) (by have := or_256 (b := 1) (show 0 < 256 from by omega); omega) (by have := or_256 (b := 1) (show 0 < 256 from by omega); omega) I_m_mdt3_t67.1 I_m_mdt3_t67.2.1 I_m_mdt3_t67.2.2.1 I_m_mdt3_t67.2.2.2), (Nd_A (by decide) (Mo_cons (fun q => show m_md t3 ≤ m_md t3 from by omega) Mo_nil) (Or.inr ⟨(3, m_md t3, 0), List.mem_cons_self, rfl, Or.inl rfl⟩)), ⟨(Io_78 (by decide) (by decide) (by decide)), (Nd_x (by decide)), ⟨(Io_n (by decide) (show t < 4096 from by omega) I_n_t67.1 I_n_t67.2.1 I_n_t67.2.2.1 (fun q => absurd q (by decide)) (fun q => absurd q (by decide)) I_n_t67.2.2.2), (Nd_A (by decide) (Mo_cons (fun q => absurd (show nk 8 = true from q) (by decide)) (Mo_cons (fun q => show n ≤ m_md t3 from by omega) (Mo_cons (fun q => show n ≤ m_md t3 from by omega) Mo_nil))) (Or.inl f_n_t67)), Stk_step (N := n) (pop := (3, n, t)) (new := [(4, n, t), (8, 79, 0), (2, m_md t3, 0 ||| (1 * 256)), (3, m_md t3, 0)]) F0 C_t67.1.to2 (fun (h : nk 3 = false) => absurd h (by decide)) (fun q _ h => h (3, n, t) rfl) (fun _ => rfl) (fun y hy hk => ⟨rfl, (Mo_cons (fun q => show n ≤ n from by omega) (Mo_cons (fun q => absurd (show nk 8 = true from q) (by decide)) (Mo_cons (fun q => show n ≤ m_md t3 from by omega) (Mo_cons (fun q => show n ≤ m_md t3 from by omega) Mo_nil)))) y hy hk⟩) (fun _ => Or.inl f_n_t67) (fun (h : 3 = 18) => absurd h (by decide)) (fun (h : 3 = 41 ∨ 3 = 42 ∨ 3 = 43) => absurd h (by decide)) r [] (fun y hy => absurd hy List.not_mem_nil) hS⟩⟩⟩⟩
            · exact (Aj_up (x := (3, m_md t3, 0)) (Aj_up (x := (2, m_md t3, 0 ||| (1 * 256))) (Aj_up (x := (8, 79, 0)) (Aj_sub (y := (4, n, t)) hJ (Nat.le_of_ble_eq_true rfl)) (Or.inr (Nat.le_of_ble_eq_true rfl))) (Or.inl (Nat.le_of_ble_eq_true rfl))) (Or.inr (show 2 < 9 - (0 ||| (1 * 256)) / 256 from by have := or_256 (b := 1) (show 0 < 256 from by omega); omega)))
            · show m_dp t67 = (dlt 3 + (dlt 2 + (dlt 8 + (dlt 4 + sD r))))
              have : dlt 2 = 0 := rfl; have : dlt 3 = 0 := rfl; have : dlt 4 = 0 := rfl; have : dlt 8 = 1 := rfl; omega
            · show m_rw t67 = (rho 3 + (rho 2 + (rho 8 + (rho 4 + sR r))))
              have : rho 2 = 0 := rfl; have : rho 3 = 0 := rfl; have : rho 4 = 0 := rfl; have : rho 8 = 0 := rfl; omega
            · show m_md t67 + (mu7 3 + (mu7 2 + (mu7 8 + (mu7 4 + sM r)))) ≤ 3 * m_at t67 + 7 * (r.length + 1 + 1 + 1 + 1) + 10
              have : mu7 2 = 7 := rfl; have : mu7 3 = 5 := rfl; have : mu7 4 = 7 := rfl; have : mu7 8 = 4 := rfl; omega
            · show (wt 3 + (wt 2 + (wt 8 + (wt 4 + sW r)))) + 6 * (4096 - m_at t67) + 4 * (600 - (r.length + 1 + 1 + 1 + 1)) < (wt 3 + sW r) + 6 * (4096 - m_at t0) + 4 * (600 - (r.length + 1))
              have : wt 2 = 5 := rfl; have : wt 3 = 3 := rfl; have : wt 4 = 5 := rfl; have : wt 8 = 0 := rfl; omega
          · have w_t62 := Nat.pos_of_ne_zero w_t62
            have I_n_t62 := I_n_t61.flat X_t62
            have f_n_t62 := f_n_t61.ex I_n_t61 (X_t62 0)
            have I_m_mdt3_t62 := I_m_mdt3_t61.flat X_t62
            have u_m_mdt3_t62 := u_m_mdt3_t61.ex I_m_mdt3_t61 (X_t62 0)
            have la_n_t62 : m_la t62 n = (m_md t3) + 1 := by rw [j_t62.2.2.1]; exact la_n_t61
            have wl_n_t62 : m_wh t62 ((m_md t3)) = 89 := by rw [j_t62.1]; exact wl_n_t61
            clear la_n_t61 wl_n_t61
            refine Kp_at C_t62 (fun t68 C_t68 X_t68 a_t68 b_t68 d_t68 w_t68 u_t68 v_t68 j_t68 l_t68 => ?_)
            have e_t68 := C_t68.2.2.2.1
            have I_n_t68 := I_n_t62.flat X_t68
            have f_n_t68 := f_n_t62.ex I_n_t62 (X_t68 0)
            have I_m_mdt3_t68 := I_m_mdt3_t62.flat X_t68
            have u_m_mdt3_t68 := u_m_mdt3_t62.ex I_m_mdt3_t62 (X_t68 0)
            have la_n_t68 : m_la t68 n = (m_md t3) + 1 := by rw [j_t68.2.2.1]; exact la_n_t62
            have wl_n_t68 : m_wh t68 ((m_md t3)) = 89 := by rw [j_t68.1]; exact wl_n_t62
            clear la_n_t62 wl_n_t62
            refine Kp_push C_t68 (by omega) (fun t69 C_t69 X_t69 a_t69 b_t69 d_t69 w_t69 u_t69 v_t69 j_t69 l_t69 => ?_)
            have e_t69 := C_t69.2.2.2.1
            have I_n_t69 := I_n_t68.flat X_t69
            have f_n_t69 := f_n_t68.ex I_n_t68 (X_t69 0)
            have I_m_mdt3_t69 := I_m_mdt3_t68.flat X_t69
            have u_m_mdt3_t69 := u_m_mdt3_t68.ex I_m_mdt3_t68 (X_t69 0)
            have la_n_t69 : m_la t69 n = (m_md t3) + 1 := by rw [j_t69.2.2.1]; exact la_n_t68
            have wl_n_t69 : m_wh t69 ((m_md t3)) = 89 := by rw [j_t69.1]; exact wl_n_t68
            clear la_n_t68 wl_n_t68
            refine Ok_bnc ?_
            try unfold b_X6_expression
            refine Kp_push C_t69 (by omega) (fun t71 C_t71 X_t71 a_t71 b_t71 d_t71 w_t71 u_t71 v_t71 j_t71 l_t71 => ?_)
            have e_t71 := C_t71.2.2.2.1
            have I_n_t71 := I_n_t69.flat X_t71
            have f_n_t71 := f_n_t69.ex I_n_t69 (X_t71 0)
            have I_m_mdt3_t71 := I_m_mdt3_t69.flat X_t71
            have u_m_mdt3_t71 := u_m_mdt3_t69.ex I_m_mdt3_t69 (X_t71 0)
            have la_n_t71 : m_la t71 n = (m_md t3) + 1 := by rw [j_t71.2.2.1]; exact la_n_t69
            have wl_n_t71 : m_wh t71 ((m_md t3)) = 89 := by rw [j_t71.1]; exact wl_n_t69
            clear la_n_t69 wl_n_t69
            refine Kp_push C_t71 (by omega) (fun t72 C_t72 X_t72 a_t72 b_t72 d_t72 w_t72 u_t72 v_t72 j_t72 l_t72 => ?_)
            have e_t72 := C_t72.2.2.2.1
            have I_n_t72 := I_n_t71.flat X_t72
            have f_n_t72 := f_n_t71.ex I_n_t71 (X_t72 0)
            have I_m_mdt3_t72 := I_m_mdt3_t71.flat X_t72
            have u_m_mdt3_t72 := u_m_mdt3_t71.ex I_m_mdt3_t71 (X_t72 0)
            have la_n_t72 : m_la t72 n = (m_md t3) + 1 := by rw [j_t72.2.2.1]; exact la_n_t71
            have wl_n_t72 : m_wh t72 ((m_md t3)) = 89 := by rw [j_t72.1]; exact wl_n_t71
            clear la_n_t71 wl_n_t71
            refine Ok_ret (show Ok _ _ _ from ?_)
            refine Ok_ret (show Ok _ _ _ from ?_)
            refine Ok_ret (show Ok _ _ _ from ?_)
            exact Or.inl ⟨Nat.ne_of_gt (show 0 < m_wr t72 from by omega), by omega, by omega, C_t72.2.2.2.2.2, by omega⟩
        · refine Ok_ife (Nat.lt_trans (lo_lt (C_t3.tk hT) _) (by decide)) (by decide) (fun q73 => ?_) (fun q73 => ?_)
          · refine Kp_child C_t3 I_n_t3.1 I_n_t3.2.1 I_n_t3.2.2.1 (by omega) (by omega) (by decide) (by decide) (fun t74 C_t74 X_t74 a_t74 b_t74 d_t74 w_t74 u_t74 v_t74 j_t74 l_t74 => ?_)
            have e_t74 := C_t74.2.2.2.1
            rw [a_t3] at a_t74
            rw [b_t3] at b_t74
            rw [d_t3] at d_t74
            rw [w_t3] at w_t74
            rw [u_t3] at u_t74
            rw [v_t3] at v_t74
            clear d_t3 w_t3 u_t3 v_t3 e_t3 a_t3
            have I_n_t74 := I_n_t3.chd X_t74 j_t74
            have f_n_t74 : Fz t74 n := j_t74.2.2.2.2.1
            have I_m_mdt3_t74 : Nq t74 (m_md t3) := Nq.chn j_t74 (by omega) I_n_t3 (by decide)
            have u_m_mdt3_t74 : Up t74 (m_md t3) := Or.inl j_t74.2.1
            have la_n_t74 : m_la t74 n = (m_md t3) + 1 := j_t74.2.2.2.2.2.1
            have wl_n_t74 : m_wh t74 (m_md t3) = 29 := j_t74.1
            refine Kp_more C_t74 (by omega) (by omega) (fun t75 C_t75 X_t75 a_t75 b_t75 d_t75 w_t75 u_t75 v_t75 j_t75 l_t75 => ?_)
            have e_t75 := C_t75.2.2.2.1
            rcases w_t75 with ⟨w_t75, y_t75⟩ | ⟨w_t75, wb_t75⟩
            · rw [a_t74] at a_t75
              rw [b_t74] at b_t75
              rw [d_t74] at d_t75
              rw [w_t74] at w_t75
              rw [u_t74] at u_t75
              rw [v_t74] at v_t75
              rw [d_t75] at y_t75
              clear d_t74 w_t74 u_t74 v_t74 e_t74 a_t74 b_t74
              have I_n_t75 := I_n_t74.flat X_t75
              have f_n_t75 := f_n_t74.ex I_n_t74 (X_t75 0)
              have I_m_mdt3_t75 := I_m_mdt3_t74.flat X_t75
              have u_m_mdt3_t75 := u_m_mdt3_t74.ex I_m_mdt3_t74 (X_t75 0)
              have la_n_t75 : m_la t75 n = (m_md t3) + 1 := by rw [j_t75.2.2.1]; exact la_n_t74
              have wl_n_t75 : m_wh t75 ((m_md t3)) = 29 := by rw [j_t75.1]; exact wl_n_t74
              clear la_n_t74 wl_n_t74
              have z_t76 : m_at t75 < m_ct t75 := lo_ne (Nat.ne_of_gt (show 0 < lo t75 (m_at t75) from by omega))
              refine Kp_at C_t75 (fun t76 C_t76 X_t76 a_t76 b_t76 d_t76 w_t76 u_t76 v_t76 j_t76 l_t76 => ?_)
              have e_t76 := C_t76.2.2.2.1
              rw [a_t75] at a_t76
              rw [b_t75] at b_t76
              rw [d_t75] at d_t76
              rw [w_t75] at w_t76
              rw [u_t75] at u_t76
              rw [v_t75] at v_t76
              rw [a_t75, e_t75] at z_t76
              clear d_t75 w_t75 u_t75 v_t75 e_t75 a_t75 b_t75
              have I_n_t76 := I_n_t75.flat X_t76
              have f_n_t76 := f_n_t75.ex I_n_t75 (X_t76 0)
              have I_m_mdt3_t76 := I_m_mdt3_t75.flat X_t76
              have u_m_mdt3_t76 := u_m_mdt3_t75.ex I_m_mdt3_t75 (X_t76 0)
              have la_n_t76 : m_la t76 n = (m_md t3) + 1 := by rw [j_t76.2.2.1]; exact la_n_t75
              have wl_n_t76 : m_wh t76 ((m_md t3)) = 29 := by rw [j_t76.1]; exact wl_n_t75
              clear la_n_t75 wl_n_t75
              refine Kp_push C_t76 (by omega) (fun t77 C_t77 X_t77 a_t77 b_t77 d_t77 w_t77 u_t77 v_t77 j_t77 l_t77 => ?_)
              have e_t77 := C_t77.2.2.2.1
              rw [a_t76] at a_t77
              rw [b_t76] at b_t77
              rw [d_t76] at d_t77
              rw [w_t76] at w_t77
              rw [u_t76] at u_t77
              rw [v_t76] at v_t77
              clear d_t76 w_t76 u_t76 v_t76 e_t76 a_t76 b_t76
              have I_n_t77 := I_n_t76.flat X_t77
              have f_n_t77 := f_n_t76.ex I_n_t76 (X_t77 0)
              have I_m_mdt3_t77 := I_m_mdt3_t76.flat X_t77
              have u_m_mdt3_t77 := u_m_mdt3_t76.ex I_m_mdt3_t76 (X_t77 0)
              have la_n_t77 : m_la t77 n = (m_md t3) + 1 := by rw [j_t77.2.2.1]; exact la_n_t76
              have wl_n_t77 : m_wh t77 ((m_md t3)) = 29 := by rw [j_t77.1]; exact wl_n_t76
              clear la_n_t76 wl_n_t76
              refine Kp_push C_t77 (by omega) (fun t78 C_t78 X_t78 a_t78 b_t78 d_t78 w_t78 u_t78 v_t78 j_t78 l_t78 => ?_)
              have e_t78 := C_t78.2.2.2.1
              rw [a_t77] at a_t78
              rw [b_t77] at b_t78
              rw [d_t77] at d_t78
              rw [w_t77] at w_t78
              rw [u_t77] at u_t78
              rw [v_t77] at v_t78
              clear d_t77 w_t77 u_t77 v_t77 e_t77 a_t77 b_t77
              have I_n_t78 := I_n_t77.flat X_t78
              have f_n_t78 := f_n_t77.ex I_n_t77 (X_t78 0)
              have I_m_mdt3_t78 := I_m_mdt3_t77.flat X_t78
              have u_m_mdt3_t78 := u_m_mdt3_t77.ex I_m_mdt3_t77 (X_t78 0)
              have la_n_t78 : m_la t78 n = (m_md t3) + 1 := by rw [j_t78.2.2.1]; exact la_n_t77
              have wl_n_t78 : m_wh t78 ((m_md t3)) = 29 := by rw [j_t78.1]; exact wl_n_t77
              clear la_n_t77 wl_n_t77
              refine Ok_ret (show Ok _ _ _ from ?_)
              refine Ok_ret (show Ok _ _ _ from ?_)
              refine Hv_mk (Kv_c (x := (21, m_md t3, 0)) rfl (Kv_c (x := (20, m_md t3, 0)) rfl (Kv_c (x := (4, n, t)) rfl hK))) (C_t78.1.2.2.2.2.2.2 hTt) C_t78 hT (by omega) (by omega) (by omega) ?_ ?_ ?_ (by omega) ?_ ?_ ?_
              · exact ⟨(Io_n (by decide) (by decide) I_m_mdt3_t78.1 I_m_mdt3_t78.2.1 I_m_mdt3_t78.2.2.1 (fun q => absurd q (by decide)) (fun q => absurd q (by decide)) I_m_mdt3_t78.2.2.2), (Nd_0 (by decide) Mo_nil), ⟨(Io_n (by decide) (by decide) I_m_mdt3_t78.1 I_m_mdt3_t78.2.1 I_m_mdt3_t78.2.2.1 (fun q => absurd q (by decide)) (fun q => absurd q (by decide)) I_m_mdt3_t78.2.2.2), (Nd_0 (by decide) (Mo_cons (fun q => show m_md t3 ≤ m_md t3 from by omega) Mo_nil)), ⟨(Io_n (by decide) (show t < 4096 from by omega) I_n_t78.1 I_n_t78.2.1 I_n_t78.2.2.1 (fun q => absurd q (by decide)) (fun q => absurd q (by decide)) I_n_t78.2.2.2), (Nd_A (by decide) (Mo_cons (fun q => show n ≤ m_md t3 from by omega) (Mo_cons (fun q => show n ≤ m_md t3 from by omega) Mo_nil)) (Or.inl f_n_t78)), Stk_step (N := n) (pop := (3, n, t)) (new := [(4, n, t), (20, m_md t3, 0), (21, m_md t3, 0)]) F0 C_t78.1.to2 (fun (h : nk 3 = false) => absurd h (by decide)) (fun q _ h => h (3, n, t) rfl) (fun _ => rfl) (fun y hy hk => ⟨rfl, (Mo_cons (fun q => show n ≤ n from by omega) (Mo_cons (fun q => show n ≤ m_md t3 from by omega) (Mo_cons (fun q => show n ≤ m_md t3 from by omega) Mo_nil))) y hy hk⟩) (fun _ => Or.inl f_n_t78) (fun (h : 3 = 18) => absurd h (by decide)) (fun (h : 3 = 41 ∨ 3 = 42 ∨ 3 = 43) => absurd h (by decide)) r [] (fun y hy => absurd hy List.not_mem_nil) hS⟩⟩⟩
              · exact (Aj_up (x := (21, m_md t3, 0)) (Aj_up (x := (20, m_md t3, 0)) (Aj_sub (y := (4, n, t)) hJ (Nat.le_of_ble_eq_true rfl)) (Or.inr (Nat.le_of_ble_eq_true rfl))) (Or.inl (Nat.le_of_ble_eq_true rfl)))
              · show m_dp t78 = (dlt 21 + (dlt 20 + (dlt 4 + sD r)))
                have : dlt 20 = 1 := rfl; have : dlt 21 = 0 := rfl; have : dlt 3 = 0 := rfl; have : dlt 4 = 0 := rfl; omega
              · show m_rw t78 = (rho 21 + (rho 20 + (rho 4 + sR r)))
                have : rho 20 = 0 := rfl; have : rho 21 = 0 := rfl; have : rho 3 = 0 := rfl; have : rho 4 = 0 := rfl; omega
              · show m_md t78 + (mu7 21 + (mu7 20 + (mu7 4 + sM r))) ≤ 3 * m_at t78 + 7 * (r.length + 1 + 1 + 1) + 10
                have : mu7 20 = 7 := rfl; have : mu7 21 = 3 := rfl; have : mu7 3 = 5 := rfl; have : mu7 4 = 7 := rfl; omega
              · show (wt 21 + (wt 20 + (wt 4 + sW r))) + 6 * (4096 - m_at t78) + 4 * (600 - (r.length + 1 + 1 + 1)) < (wt 3 + sW r) + 6 * (4096 - m_at t0) + 4 * (600 - (r.length + 1))
                have : wt 20 = 5 := rfl; have : wt 21 = 2 := rfl; have : wt 3 = 3 := rfl; have : wt 4 = 5 := rfl; omega
            · have w_t75 := Nat.pos_of_ne_zero w_t75
              have I_n_t75 := I_n_t74.flat X_t75
              have f_n_t75 := f_n_t74.ex I_n_t74 (X_t75 0)
              have I_m_mdt3_t75 := I_m_mdt3_t74.flat X_t75
              have u_m_mdt3_t75 := u_m_mdt3_t74.ex I_m_mdt3_t74 (X_t75 0)
              have la_n_t75 : m_la t75 n = (m_md t3) + 1 := by rw [j_t75.2.2.1]; exact la_n_t74
              have wl_n_t75 : m_wh t75 ((m_md t3)) = 29 := by rw [j_t75.1]; exact wl_n_t74
              clear la_n_t74 wl_n_t74
              refine Kp_at C_t75 (fun t79 C_t79 X_t79 a_t79 b_t79 d_t79 w_t79 u_t79 v_t79 j_t79 l_t79 => ?_)
              have e_t79 := C_t79.2.2.2.1
              have I_n_t79 := I_n_t75.flat X_t79
              have f_n_t79 := f_n_t75.ex I_n_t75 (X_t79 0)
              have I_m_mdt3_t79 := I_m_mdt3_t75.flat X_t79
              have u_m_mdt3_t79 := u_m_mdt3_t75.ex I_m_mdt3_t75 (X_t79 0)
              have la_n_t79 : m_la t79 n = (m_md t3) + 1 := by rw [j_t79.2.2.1]; exact la_n_t75
              have wl_n_t79 : m_wh t79 ((m_md t3)) = 29 := by rw [j_t79.1]; exact wl_n_t75
              clear la_n_t75 wl_n_t75
              refine Kp_push C_t79 (by omega) (fun t80 C_t80 X_t80 a_t80 b_t80 d_t80 w_t80 u_t80 v_t80 j_t80 l_t80 => ?_)
              have e_t80 := C_t80.2.2.2.1
              have I_n_t80 := I_n_t79.flat X_t80
              have f_n_t80 := f_n_t79.ex I_n_t79 (X_t80 0)
              have I_m_mdt3_t80 := I_m_mdt3_t79.flat X_t80
              have u_m_mdt3_t80 := u_m_mdt3_t79.ex I_m_mdt3_t79 (X_t80 0)
              have la_n_t80 : m_la t80 n = (m_md t3) + 1 := by rw [j_t80.2.2.1]; exact la_n_t79
              have wl_n_t80 : m_wh t80 ((m_md t3)) = 29 := by rw [j_t80.1]; exact wl_n_t79
              clear la_n_t79 wl_n_t79
              refine Kp_push C_t80 (by omega) (fun t81 C_t81 X_t81 a_t81 b_t81 d_t81 w_t81 u_t81 v_t81 j_t81 l_t81 => ?_)
              have e_t81 := C_t81.2.2.2.1
              have I_n_t81 := I_n_t80.flat X_t81
              have f_n_t81 := f_n_t80.ex I_n_t80 (X_t81 0)
              have I_m_mdt3_t81 := I_m_mdt3_t80.flat X_t81
              have u_m_mdt3_t81 := u_m_mdt3_t80.ex I_m_mdt3_t80 (X_t81 0)
              have la_n_t81 : m_la t81 n = (m_md t3) + 1 := by rw [j_t81.2.2.1]; exact la_n_t80
              have wl_n_t81 : m_wh t81 ((m_md t3)) = 29 := by rw [j_t81.1]; exact wl_n_t80
              clear la_n_t80 wl_n_t80
              refine Ok_ret (show Ok _ _ _ from ?_)
              refine Ok_ret (show Ok _ _ _ from ?_)
              exact Or.inl ⟨Nat.ne_of_gt (show 0 < m_wr t81 from by omega), by omega, by omega, C_t81.2.2.2.2.2, by omega⟩
          · refine Ok_ife (Nat.lt_trans (lo_lt (C_t3.tk hT) _) (by decide)) (by decide) (fun q82 => ?_) (fun q82 => ?_)
            · refine Kp_push C_t3 (by omega) (fun t83 C_t83 X_t83 a_t83 b_t83 d_t83 w_t83 u_t83 v_t83 j_t83 l_t83 => ?_)
              have e_t83 := C_t83.2.2.2.1
              rw [a_t3] at a_t83
              rw [b_t3] at b_t83
              rw [d_t3] at d_t83
              rw [w_t3] at w_t83
              rw [u_t3] at u_t83
              rw [v_t3] at v_t83
              clear d_t3 w_t3 u_t3 v_t3 e_t3 a_t3 b_t3
              have I_n_t83 := I_n_t3.flat X_t83
              refine Kp_push C_t83 (by omega) (fun t84 C_t84 X_t84 a_t84 b_t84 d_t84 w_t84 u_t84 v_t84 j_t84 l_t84 => ?_)
              have e_t84 := C_t84.2.2.2.1
              rw [a_t83] at a_t84
              rw [b_t83] at b_t84
              rw [d_t83] at d_t84
              rw [w_t83] at w_t84
              rw [u_t83] at u_t84
              rw [v_t83] at v_t84
              clear d_t83 w_t83 u_t83 v_t83 e_t83 a_t83 b_t83
              have I_n_t84 := I_n_t83.flat X_t84
              refine Ok_ret (show Ok _ _ _ from ?_)
              refine Ok_ret (show Ok _ _ _ from ?_)
              refine Hv_mk (Kv_c (x := (18, n, 1)) rfl (Kv_c (x := (5, n, t)) rfl (Kv_c (x := (4, n, t)) rfl hK))) (C_t84.1.2.2.2.2.2.2 hTt) C_t84 hT (by omega) (by omega) (by omega) ?_ ?_ ?_ (by omega) ?_ ?_ ?_
              · exact ⟨(Io_n (by decide) (by decide) I_n_t84.1 I_n_t84.2.1 I_n_t84.2.2.1 (fun q => absurd q (by decide)) (fun q => absurd q (by decide)) I_n_t84.2.2.2), (Nd_0 (by decide) Mo_nil), ⟨(Io_n (by decide) (show t < 4096 from by omega) I_n_t84.1 I_n_t84.2.1 I_n_t84.2.2.1 (fun q => absurd q (by decide)) (fun q => absurd q (by decide)) I_n_t84.2.2.2), (Nd_5 (Mo_cons (fun q => show n ≤ n from by omega) Mo_nil) (Or.inl ⟨1, rfl⟩)), ⟨(Io_n (by decide) (show t < 4096 from by omega) I_n_t84.1 I_n_t84.2.1 I_n_t84.2.2.1 (fun q => absurd q (by decide)) (fun q => absurd q (by decide)) I_n_t84.2.2.2), (Nd_A (by decide) (Mo_cons (fun q => show n ≤ n from by omega) (Mo_cons (fun q => show n ≤ n from by omega) Mo_nil)) (Or.inr ⟨(18, n, 1), (List.mem_cons_of_mem _ List.mem_cons_self), rfl, Or.inr (Or.inl rfl)⟩)), Stk_step (N := n) (pop := (3, n, t)) (new := [(4, n, t), (5, n, t), (18, n, 1)]) F0 C_t84.1.to2 (fun (h : nk 3 = false) => absurd h (by decide)) (fun q _ h => h (3, n, t) rfl) (fun _ => rfl) (fun y hy hk => ⟨rfl, (Mo_cons (fun q => show n ≤ n from by omega) (Mo_cons (fun q => show n ≤ n from by omega) (Mo_cons (fun q => show n ≤ n from by omega) Mo_nil))) y hy hk⟩) (fun _ => Or.inr ⟨(18, n, 1), (List.mem_cons_of_mem _ (List.mem_cons_of_mem _ List.mem_cons_self)), rfl, Or.inr (Or.inl rfl)⟩) (fun (h : 3 = 18) => absurd h (by decide)) (fun (h : 3 = 41 ∨ 3 = 42 ∨ 3 = 43) => absurd h (by decide)) r [] (fun y hy => absurd hy List.not_mem_nil) hS⟩⟩⟩
              · exact (Aj_up (x := (18, n, 1)) (Aj_up (x := (5, n, t)) (Aj_sub (y := (4, n, t)) hJ (Nat.le_of_ble_eq_true rfl)) (Or.inr (Nat.le_of_ble_eq_true rfl))) (Or.inr (Nat.le_of_ble_eq_true rfl)))
              · show m_dp t84 = (dlt 18 + (dlt 5 + (dlt 4 + sD r)))
                have : dlt 18 = 0 := rfl; have : dlt 3 = 0 := rfl; have : dlt 4 = 0 := rfl; have : dlt 5 = 0 := rfl; omega
              · show m_rw t84 = (rho 18 + (rho 5 + (rho 4 + sR r)))
                have : rho 18 = 0 := rfl; have : rho 3 = 0 := rfl; have : rho 4 = 0 := rfl; have : rho 5 = 0 := rfl; omega
              · show m_md t84 + (mu7 18 + (mu7 5 + (mu7 4 + sM r))) ≤ 3 * m_at t84 + 7 * (r.length + 1 + 1 + 1) + 10
                have : mu7 18 = 5 := rfl; have : mu7 3 = 5 := rfl; have : mu7 4 = 7 := rfl; have : mu7 5 = 7 := rfl; omega
              · show (wt 18 + (wt 5 + (wt 4 + sW r))) + 6 * (4096 - m_at t84) + 4 * (600 - (r.length + 1 + 1 + 1)) < (wt 3 + sW r) + 6 * (4096 - m_at t0) + 4 * (600 - (r.length + 1))
                have : wt 18 = 0 := rfl; have : wt 3 = 3 := rfl; have : wt 4 = 5 := rfl; have : wt 5 = 5 := rfl; omega
            · refine Ok_ife (Nat.lt_trans (lo_lt (C_t3.tk hT) _) (by decide)) (by decide) (fun q85 => ?_) (fun q85 => ?_)
              · refine Kp_push C_t3 (by omega) (fun t86 C_t86 X_t86 a_t86 b_t86 d_t86 w_t86 u_t86 v_t86 j_t86 l_t86 => ?_)
                have e_t86 := C_t86.2.2.2.1
                rw [a_t3] at a_t86
                rw [b_t3] at b_t86
                rw [d_t3] at d_t86
                rw [w_t3] at w_t86
                rw [u_t3] at u_t86
                rw [v_t3] at v_t86
                clear d_t3 w_t3 u_t3 v_t3 e_t3 a_t3 b_t3
                have I_n_t86 := I_n_t3.flat X_t86
                refine Kp_push C_t86 (by omega) (fun t87 C_t87 X_t87 a_t87 b_t87 d_t87 w_t87 u_t87 v_t87 j_t87 l_t87 => ?_)
                have e_t87 := C_t87.2.2.2.1
                rw [a_t86] at a_t87
                rw [b_t86] at b_t87
                rw [d_t86] at d_t87
                rw [w_t86] at w_t87
                rw [u_t86] at u_t87
                rw [v_t86] at v_t87
                clear d_t86 w_t86 u_t86 v_t86 e_t86 a_t86 b_t86
                have I_n_t87 := I_n_t86.flat X_t87
                refine Ok_ret (show Ok _ _ _ from ?_)
                refine Ok_ret (show Ok _ _ _ from ?_)
                refine Hv_mk (Kv_c (x := (18, n, 1)) rfl (Kv_c (x := (5, n, t)) rfl (Kv_c (x := (4, n, t)) rfl hK))) (C_t87.1.2.2.2.2.2.2 hTt) C_t87 hT (by omega) (by omega) (by omega) ?_ ?_ ?_ (by omega) ?_ ?_ ?_
                · exact ⟨(Io_n (by decide) (by decide) I_n_t87.1 I_n_t87.2.1 I_n_t87.2.2.1 (fun q => absurd q (by decide)) (fun q => absurd q (by decide)) I_n_t87.2.2.2), (Nd_0 (by decide) Mo_nil), ⟨(Io_n (by decide) (show t < 4096 from by omega) I_n_t87.1 I_n_t87.2.1 I_n_t87.2.2.1 (fun q => absurd q (by decide)) (fun q => absurd q (by decide)) I_n_t87.2.2.2), (Nd_5 (Mo_cons (fun q => show n ≤ n from by omega) Mo_nil) (Or.inl ⟨1, rfl⟩)), ⟨(Io_n (by decide) (show t < 4096 from by omega) I_n_t87.1 I_n_t87.2.1 I_n_t87.2.2.1 (fun q => absurd q (by decide)) (fun q => absurd q (by decide)) I_n_t87.2.2.2), (Nd_A (by decide) (Mo_cons (fun q => show n ≤ n from by omega) (Mo_cons (fun q => show n ≤ n from by omega) Mo_nil)) (Or.inr ⟨(18, n, 1), (List.mem_cons_of_mem _ List.mem_cons_self), rfl, Or.inr (Or.inl rfl)⟩)), Stk_step (N := n) (pop := (3, n, t)) (new := [(4, n, t), (5, n, t), (18, n, 1)]) F0 C_t87.1.to2 (fun (h : nk 3 = false) => absurd h (by decide)) (fun q _ h => h (3, n, t) rfl) (fun _ => rfl) (fun y hy hk => ⟨rfl, (Mo_cons (fun q => show n ≤ n from by omega) (Mo_cons (fun q => show n ≤ n from by omega) (Mo_cons (fun q => show n ≤ n from by omega) Mo_nil))) y hy hk⟩) (fun _ => Or.inr ⟨(18, n, 1), (List.mem_cons_of_mem _ (List.mem_cons_of_mem _ List.mem_cons_self)), rfl, Or.inr (Or.inl rfl)⟩) (fun (h : 3 = 18) => absurd h (by decide)) (fun (h : 3 = 41 ∨ 3 = 42 ∨ 3 = 43) => absurd h (by decide)) r [] (fun y hy => absurd hy List.not_mem_nil) hS⟩⟩⟩
                · exact (Aj_up (x := (18, n, 1)) (Aj_up (x := (5, n, t)) (Aj_sub (y := (4, n, t)) hJ (Nat.le_of_ble_eq_true rfl)) (Or.inr (Nat.le_of_ble_eq_true rfl))) (Or.inr (Nat.le_of_ble_eq_true rfl)))
                · show m_dp t87 = (dlt 18 + (dlt 5 + (dlt 4 + sD r)))
                  have : dlt 18 = 0 := rfl; have : dlt 3 = 0 := rfl; have : dlt 4 = 0 := rfl; have : dlt 5 = 0 := rfl; omega
                · show m_rw t87 = (rho 18 + (rho 5 + (rho 4 + sR r)))
                  have : rho 18 = 0 := rfl; have : rho 3 = 0 := rfl; have : rho 4 = 0 := rfl; have : rho 5 = 0 := rfl; omega
                · show m_md t87 + (mu7 18 + (mu7 5 + (mu7 4 + sM r))) ≤ 3 * m_at t87 + 7 * (r.length + 1 + 1 + 1) + 10
                  have : mu7 18 = 5 := rfl; have : mu7 3 = 5 := rfl; have : mu7 4 = 7 := rfl; have : mu7 5 = 7 := rfl; omega
                · show (wt 18 + (wt 5 + (wt 4 + sW r))) + 6 * (4096 - m_at t87) + 4 * (600 - (r.length + 1 + 1 + 1)) < (wt 3 + sW r) + 6 * (4096 - m_at t0) + 4 * (600 - (r.length + 1))
                  have : wt 18 = 0 := rfl; have : wt 3 = 3 := rfl; have : wt 4 = 5 := rfl; have : wt 5 = 5 := rfl; omega
              · refine Ok_ife (Nat.lt_trans (lo_lt (C_t3.tk hT) _) (by decide)) (by decide) (fun q88 => ?_) (fun q88 => ?_)
                · refine Kp_push C_t3 (by omega) (fun t89 C_t89 X_t89 a_t89 b_t89 d_t89 w_t89 u_t89 v_t89 j_t89 l_t89 => ?_)
                  have e_t89 := C_t89.2.2.2.1
                  rw [a_t3] at a_t89
                  rw [b_t3] at b_t89
                  rw [d_t3] at d_t89
                  rw [w_t3] at w_t89
                  rw [u_t3] at u_t89
                  rw [v_t3] at v_t89
                  clear d_t3 w_t3 u_t3 v_t3 e_t3 a_t3 b_t3
                  have I_n_t89 := I_n_t3.flat X_t89
                  refine Kp_push C_t89 (by omega) (fun t90 C_t90 X_t90 a_t90 b_t90 d_t90 w_t90 u_t90 v_t90 j_t90 l_t90 => ?_)
                  have e_t90 := C_t90.2.2.2.1
                  rw [a_t89] at a_t90
                  rw [b_t89] at b_t90
                  rw [d_t89] at d_t90
                  rw [w_t89] at w_t90
                  rw [u_t89] at u_t90
                  rw [v_t89] at v_t90
                  clear d_t89 w_t89 u_t89 v_t89 e_t89 a_t89 b_t89
                  have I_n_t90 := I_n_t89.flat X_t90
                  refine Ok_ret (show Ok _ _ _ from ?_)
                  refine Ok_ret (show Ok _ _ _ from ?_)
                  refine Hv_mk (Kv_c (x := (18, n, 1)) rfl (Kv_c (x := (5, n, t)) rfl (Kv_c (x := (4, n, t)) rfl hK))) (C_t90.1.2.2.2.2.2.2 hTt) C_t90 hT (by omega) (by omega) (by omega) ?_ ?_ ?_ (by omega) ?_ ?_ ?_
                  · exact ⟨(Io_n (by decide) (by decide) I_n_t90.1 I_n_t90.2.1 I_n_t90.2.2.1 (fun q => absurd q (by decide)) (fun q => absurd q (by decide)) I_n_t90.2.2.2), (Nd_0 (by decide) Mo_nil), ⟨(Io_n (by decide) (show t < 4096 from by omega) I_n_t90.1 I_n_t90.2.1 I_n_t90.2.2.1 (fun q => absurd q (by decide)) (fun q => absurd q (by decide)) I_n_t90.2.2.2), (Nd_5 (Mo_cons (fun q => show n ≤ n from by omega) Mo_nil) (Or.inl ⟨1, rfl⟩)), ⟨(Io_n (by decide) (show t < 4096 from by omega) I_n_t90.1 I_n_t90.2.1 I_n_t90.2.2.1 (fun q => absurd q (by decide)) (fun q => absurd q (by decide)) I_n_t90.2.2.2), (Nd_A (by decide) (Mo_cons (fun q => show n ≤ n from by omega) (Mo_cons (fun q => show n ≤ n from by omega) Mo_nil)) (Or.inr ⟨(18, n, 1), (List.mem_cons_of_mem _ List.mem_cons_self), rfl, Or.inr (Or.inl rfl)⟩)), Stk_step (N := n) (pop := (3, n, t)) (new := [(4, n, t), (5, n, t), (18, n, 1)]) F0 C_t90.1.to2 (fun (h : nk 3 = false) => absurd h (by decide)) (fun q _ h => h (3, n, t) rfl) (fun _ => rfl) (fun y hy hk => ⟨rfl, (Mo_cons (fun q => show n ≤ n from by omega) (Mo_cons (fun q => show n ≤ n from by omega) (Mo_cons (fun q => show n ≤ n from by omega) Mo_nil))) y hy hk⟩) (fun _ => Or.inr ⟨(18, n, 1), (List.mem_cons_of_mem _ (List.mem_cons_of_mem _ List.mem_cons_self)), rfl, Or.inr (Or.inl rfl)⟩) (fun (h : 3 = 18) => absurd h (by decide)) (fun (h : 3 = 41 ∨ 3 = 42 ∨ 3 = 43) => absurd h (by decide)) r [] (fun y hy => absurd hy List.not_mem_nil) hS⟩⟩⟩
                  · exact (Aj_up (x := (18, n, 1)) (Aj_up (x := (5, n, t)) (Aj_sub (y := (4, n, t)) hJ (Nat.le_of_ble_eq_true rfl)) (Or.inr (Nat.le_of_ble_eq_true rfl))) (Or.inr (Nat.le_of_ble_eq_true rfl)))
                  · show m_dp t90 = (dlt 18 + (dlt 5 + (dlt 4 + sD r)))
                    have : dlt 18 = 0 := rfl; have : dlt 3 = 0 := rfl; have : dlt 4 = 0 := rfl; have : dlt 5 = 0 := rfl; omega
                  · show m_rw t90 = (rho 18 + (rho 5 + (rho 4 + sR r)))
                    have : rho 18 = 0 := rfl; have : rho 3 = 0 := rfl; have : rho 4 = 0 := rfl; have : rho 5 = 0 := rfl; omega
                  · show m_md t90 + (mu7 18 + (mu7 5 + (mu7 4 + sM r))) ≤ 3 * m_at t90 + 7 * (r.length + 1 + 1 + 1) + 10
                    have : mu7 18 = 5 := rfl; have : mu7 3 = 5 := rfl; have : mu7 4 = 7 := rfl; have : mu7 5 = 7 := rfl; omega
                  · show (wt 18 + (wt 5 + (wt 4 + sW r))) + 6 * (4096 - m_at t90) + 4 * (600 - (r.length + 1 + 1 + 1)) < (wt 3 + sW r) + 6 * (4096 - m_at t0) + 4 * (600 - (r.length + 1))
                    have : wt 18 = 0 := rfl; have : wt 3 = 3 := rfl; have : wt 4 = 5 := rfl; have : wt 5 = 5 := rfl; omega
                · refine Ok_ife (Nat.lt_trans (lo_lt (C_t3.tk hT) _) (by decide)) (by decide) (fun q91 => ?_) (fun q91 => ?_)
                  · refine Kp_push C_t3 (by omega) (fun t92 C_t92 X_t92 a_t92 b_t92 d_t92 w_t92 u_t92 v_t92 j_t92 l_t92 => ?_)
                    have e_t92 := C_t92.2.2.2.1
                    rw [a_t3] at a_t92
                    rw [b_t3] at b_t92
                    rw [d_t3] at d_t92
                    rw [w_t3] at w_t92
                    rw [u_t3] at u_t92
                    rw [v_t3] at v_t92
                    clear d_t3 w_t3 u_t3 v_t3 e_t3 a_t3 b_t3
                    have I_n_t92 := I_n_t3.flat X_t92
                    refine Kp_push C_t92 (by omega) (fun t93 C_t93 X_t93 a_t93 b_t93 d_t93 w_t93 u_t93 v_t93 j_t93 l_t93 => ?_)
                    have e_t93 := C_t93.2.2.2.1
                    rw [a_t92] at a_t93
                    rw [b_t92] at b_t93
                    rw [d_t92] at d_t93
                    rw [w_t92] at w_t93
                    rw [u_t92] at u_t93
                    rw [v_t92] at v_t93
                    clear d_t92 w_t92 u_t92 v_t92 e_t92 a_t92 b_t92
                    have I_n_t93 := I_n_t92.flat X_t93
                    refine Ok_ret (show Ok _ _ _ from ?_)
                    refine Ok_ret (show Ok _ _ _ from ?_)
                    refine Hv_mk (Kv_c (x := (18, n, 1)) rfl (Kv_c (x := (5, n, t)) rfl (Kv_c (x := (4, n, t)) rfl hK))) (C_t93.1.2.2.2.2.2.2 hTt) C_t93 hT (by omega) (by omega) (by omega) ?_ ?_ ?_ (by omega) ?_ ?_ ?_
                    · exact ⟨(Io_n (by decide) (by decide) I_n_t93.1 I_n_t93.2.1 I_n_t93.2.2.1 (fun q => absurd q (by decide)) (fun q => absurd q (by decide)) I_n_t93.2.2.2), (Nd_0 (by decide) Mo_nil), ⟨(Io_n (by decide) (show t < 4096 from by omega) I_n_t93.1 I_n_t93.2.1 I_n_t93.2.2.1 (fun q => absurd q (by decide)) (fun q => absurd q (by decide)) I_n_t93.2.2.2), (Nd_5 (Mo_cons (fun q => show n ≤ n from by omega) Mo_nil) (Or.inl ⟨1, rfl⟩)), ⟨(Io_n (by decide) (show t < 4096 from by omega) I_n_t93.1 I_n_t93.2.1 I_n_t93.2.2.1 (fun q => absurd q (by decide)) (fun q => absurd q (by decide)) I_n_t93.2.2.2), (Nd_A (by decide) (Mo_cons (fun q => show n ≤ n from by omega) (Mo_cons (fun q => show n ≤ n from by omega) Mo_nil)) (Or.inr ⟨(18, n, 1), (List.mem_cons_of_mem _ List.mem_cons_self), rfl, Or.inr (Or.inl rfl)⟩)), Stk_step (N := n) (pop := (3, n, t)) (new := [(4, n, t), (5, n, t), (18, n, 1)]) F0 C_t93.1.to2 (fun (h : nk 3 = false) => absurd h (by decide)) (fun q _ h => h (3, n, t) rfl) (fun _ => rfl) (fun y hy hk => ⟨rfl, (Mo_cons (fun q => show n ≤ n from by omega) (Mo_cons (fun q => show n ≤ n from by omega) (Mo_cons (fun q => show n ≤ n from by omega) Mo_nil))) y hy hk⟩) (fun _ => Or.inr ⟨(18, n, 1), (List.mem_cons_of_mem _ (List.mem_cons_of_mem _ List.mem_cons_self)), rfl, Or.inr (Or.inl rfl)⟩) (fun (h : 3 = 18) => absurd h (by decide)) (fun (h : 3 = 41 ∨ 3 = 42 ∨ 3 = 43) => absurd h (by decide)) r [] (fun y hy => absurd hy List.not_mem_nil) hS⟩⟩⟩
                    · exact (Aj_up (x := (18, n, 1)) (Aj_up (x := (5, n, t)) (Aj_sub (y := (4, n, t)) hJ (Nat.le_of_ble_eq_true rfl)) (Or.inr (Nat.le_of_ble_eq_true rfl))) (Or.inr (Nat.le_of_ble_eq_true rfl)))
                    · show m_dp t93 = (dlt 18 + (dlt 5 + (dlt 4 + sD r)))
                      have : dlt 18 = 0 := rfl; have : dlt 3 = 0 := rfl; have : dlt 4 = 0 := rfl; have : dlt 5 = 0 := rfl; omega
                    · show m_rw t93 = (rho 18 + (rho 5 + (rho 4 + sR r)))
                      have : rho 18 = 0 := rfl; have : rho 3 = 0 := rfl; have : rho 4 = 0 := rfl; have : rho 5 = 0 := rfl; omega
                    · show m_md t93 + (mu7 18 + (mu7 5 + (mu7 4 + sM r))) ≤ 3 * m_at t93 + 7 * (r.length + 1 + 1 + 1) + 10
                      have : mu7 18 = 5 := rfl; have : mu7 3 = 5 := rfl; have : mu7 4 = 7 := rfl; have : mu7 5 = 7 := rfl; omega
                    · show (wt 18 + (wt 5 + (wt 4 + sW r))) + 6 * (4096 - m_at t93) + 4 * (600 - (r.length + 1 + 1 + 1)) < (wt 3 + sW r) + 6 * (4096 - m_at t0) + 4 * (600 - (r.length + 1))
                      have : wt 18 = 0 := rfl; have : wt 3 = 3 := rfl; have : wt 4 = 5 := rfl; have : wt 5 = 5 := rfl; omega
                  · refine Ok_ife (Nat.lt_trans (lo_lt (C_t3.tk hT) _) (by decide)) (by decide) (fun q94 => ?_) (fun q94 => ?_)
                    · refine Kp_push C_t3 (by omega) (fun t95 C_t95 X_t95 a_t95 b_t95 d_t95 w_t95 u_t95 v_t95 j_t95 l_t95 => ?_)
                      have e_t95 := C_t95.2.2.2.1
                      rw [a_t3] at a_t95
                      rw [b_t3] at b_t95
                      rw [d_t3] at d_t95
                      rw [w_t3] at w_t95
                      rw [u_t3] at u_t95
                      rw [v_t3] at v_t95
                      clear d_t3 w_t3 u_t3 v_t3 e_t3 a_t3 b_t3
                      have I_n_t95 := I_n_t3.flat X_t95
                      refine Kp_push C_t95 (by omega) (fun t96 C_t96 X_t96 a_t96 b_t96 d_t96 w_t96 u_t96 v_t96 j_t96 l_t96 => ?_)
                      have e_t96 := C_t96.2.2.2.1
                      rw [a_t95] at a_t96
                      rw [b_t95] at b_t96
                      rw [d_t95] at d_t96
                      rw [w_t95] at w_t96
                      rw [u_t95] at u_t96
                      rw [v_t95] at v_t96
                      clear d_t95 w_t95 u_t95 v_t95 e_t95 a_t95 b_t95
                      have I_n_t96 := I_n_t95.flat X_t96
                      refine Ok_ret (show Ok _ _ _ from ?_)
                      refine Ok_ret (show Ok _ _ _ from ?_)
                      refine Hv_mk (Kv_c (x := (18, n, 1)) rfl (Kv_c (x := (5, n, t)) rfl (Kv_c (x := (4, n, t)) rfl hK))) (C_t96.1.2.2.2.2.2.2 hTt) C_t96 hT (by omega) (by omega) (by omega) ?_ ?_ ?_ (by omega) ?_ ?_ ?_
                      · exact ⟨(Io_n (by decide) (by decide) I_n_t96.1 I_n_t96.2.1 I_n_t96.2.2.1 (fun q => absurd q (by decide)) (fun q => absurd q (by decide)) I_n_t96.2.2.2), (Nd_0 (by decide) Mo_nil), ⟨(Io_n (by decide) (show t < 4096 from by omega) I_n_t96.1 I_n_t96.2.1 I_n_t96.2.2.1 (fun q => absurd q (by decide)) (fun q => absurd q (by decide)) I_n_t96.2.2.2), (Nd_5 (Mo_cons (fun q => show n ≤ n from by omega) Mo_nil) (Or.inl ⟨1, rfl⟩)), ⟨(Io_n (by decide) (show t < 4096 from by omega) I_n_t96.1 I_n_t96.2.1 I_n_t96.2.2.1 (fun q => absurd q (by decide)) (fun q => absurd q (by decide)) I_n_t96.2.2.2), (Nd_A (by decide) (Mo_cons (fun q => show n ≤ n from by omega) (Mo_cons (fun q => show n ≤ n from by omega) Mo_nil)) (Or.inr ⟨(18, n, 1), (List.mem_cons_of_mem _ List.mem_cons_self), rfl, Or.inr (Or.inl rfl)⟩)), Stk_step (N := n) (pop := (3, n, t)) (new := [(4, n, t), (5, n, t), (18, n, 1)]) F0 C_t96.1.to2 (fun (h : nk 3 = false) => absurd h (by decide)) (fun q _ h => h (3, n, t) rfl) (fun _ => rfl) (fun y hy hk => ⟨rfl, (Mo_cons (fun q => show n ≤ n from by omega) (Mo_cons (fun q => show n ≤ n from by omega) (Mo_cons (fun q => show n ≤ n from by omega) Mo_nil))) y hy hk⟩) (fun _ => Or.inr ⟨(18, n, 1), (List.mem_cons_of_mem _ (List.mem_cons_of_mem _ List.mem_cons_self)), rfl, Or.inr (Or.inl rfl)⟩) (fun (h : 3 = 18) => absurd h (by decide)) (fun (h : 3 = 41 ∨ 3 = 42 ∨ 3 = 43) => absurd h (by decide)) r [] (fun y hy => absurd hy List.not_mem_nil) hS⟩⟩⟩
                      · exact (Aj_up (x := (18, n, 1)) (Aj_up (x := (5, n, t)) (Aj_sub (y := (4, n, t)) hJ (Nat.le_of_ble_eq_true rfl)) (Or.inr (Nat.le_of_ble_eq_true rfl))) (Or.inr (Nat.le_of_ble_eq_true rfl)))
                      · show m_dp t96 = (dlt 18 + (dlt 5 + (dlt 4 + sD r)))
                        have : dlt 18 = 0 := rfl; have : dlt 3 = 0 := rfl; have : dlt 4 = 0 := rfl; have : dlt 5 = 0 := rfl; omega
                      · show m_rw t96 = (rho 18 + (rho 5 + (rho 4 + sR r)))
                        have : rho 18 = 0 := rfl; have : rho 3 = 0 := rfl; have : rho 4 = 0 := rfl; have : rho 5 = 0 := rfl; omega
                      · show m_md t96 + (mu7 18 + (mu7 5 + (mu7 4 + sM r))) ≤ 3 * m_at t96 + 7 * (r.length + 1 + 1 + 1) + 10
                        have : mu7 18 = 5 := rfl; have : mu7 3 = 5 := rfl; have : mu7 4 = 7 := rfl; have : mu7 5 = 7 := rfl; omega
                      · show (wt 18 + (wt 5 + (wt 4 + sW r))) + 6 * (4096 - m_at t96) + 4 * (600 - (r.length + 1 + 1 + 1)) < (wt 3 + sW r) + 6 * (4096 - m_at t0) + 4 * (600 - (r.length + 1))
                        have : wt 18 = 0 := rfl; have : wt 3 = 3 := rfl; have : wt 4 = 5 := rfl; have : wt 5 = 5 := rfl; omega
                    · refine Ok_ife (Nat.lt_trans (lo_lt (C_t3.tk hT) _) (by decide)) (by decide) (fun q97 => ?_) (fun q97 => ?_)
                      · refine Kp_push C_t3 (by omega) (fun t98 C_t98 X_t98 a_t98 b_t98 d_t98 w_t98 u_t98 v_t98 j_t98 l_t98 => ?_)
                        have e_t98 := C_t98.2.2.2.1
                        rw [a_t3] at a_t98
                        rw [b_t3] at b_t98
                        rw [d_t3] at d_t98
                        rw [w_t3] at w_t98
                        rw [u_t3] at u_t98
                        rw [v_t3] at v_t98
                        clear d_t3 w_t3 u_t3 v_t3 e_t3 a_t3 b_t3
                        have I_n_t98 := I_n_t3.flat X_t98
                        refine Kp_push C_t98 (by omega) (fun t99 C_t99 X_t99 a_t99 b_t99 d_t99 w_t99 u_t99 v_t99 j_t99 l_t99 => ?_)
                        have e_t99 := C_t99.2.2.2.1
                        rw [a_t98] at a_t99
                        rw [b_t98] at b_t99
                        rw [d_t98] at d_t99
                        rw [w_t98] at w_t99
                        rw [u_t98] at u_t99
                        rw [v_t98] at v_t99
                        clear d_t98 w_t98 u_t98 v_t98 e_t98 a_t98 b_t98
                        have I_n_t99 := I_n_t98.flat X_t99
                        refine Ok_ret (show Ok _ _ _ from ?_)
                        refine Ok_ret (show Ok _ _ _ from ?_)
                        refine Hv_mk (Kv_c (x := (18, n, 1)) rfl (Kv_c (x := (5, n, t)) rfl (Kv_c (x := (4, n, t)) rfl hK))) (C_t99.1.2.2.2.2.2.2 hTt) C_t99 hT (by omega) (by omega) (by omega) ?_ ?_ ?_ (by omega) ?_ ?_ ?_
                        · exact ⟨(Io_n (by decide) (by decide) I_n_t99.1 I_n_t99.2.1 I_n_t99.2.2.1 (fun q => absurd q (by decide)) (fun q => absurd q (by decide)) I_n_t99.2.2.2), (Nd_0 (by decide) Mo_nil), ⟨(Io_n (by decide) (show t < 4096 from by omega) I_n_t99.1 I_n_t99.2.1 I_n_t99.2.2.1 (fun q => absurd q (by decide)) (fun q => absurd q (by decide)) I_n_t99.2.2.2), (Nd_5 (Mo_cons (fun q => show n ≤ n from by omega) Mo_nil) (Or.inl ⟨1, rfl⟩)), ⟨(Io_n (by decide) (show t < 4096 from by omega) I_n_t99.1 I_n_t99.2.1 I_n_t99.2.2.1 (fun q => absurd q (by decide)) (fun q => absurd q (by decide)) I_n_t99.2.2.2), (Nd_A (by decide) (Mo_cons (fun q => show n ≤ n from by omega) (Mo_cons (fun q => show n ≤ n from by omega) Mo_nil)) (Or.inr ⟨(18, n, 1), (List.mem_cons_of_mem _ List.mem_cons_self), rfl, Or.inr (Or.inl rfl)⟩)), Stk_step (N := n) (pop := (3, n, t)) (new := [(4, n, t), (5, n, t), (18, n, 1)]) F0 C_t99.1.to2 (fun (h : nk 3 = false) => absurd h (by decide)) (fun q _ h => h (3, n, t) rfl) (fun _ => rfl) (fun y hy hk => ⟨rfl, (Mo_cons (fun q => show n ≤ n from by omega) (Mo_cons (fun q => show n ≤ n from by omega) (Mo_cons (fun q => show n ≤ n from by omega) Mo_nil))) y hy hk⟩) (fun _ => Or.inr ⟨(18, n, 1), (List.mem_cons_of_mem _ (List.mem_cons_of_mem _ List.mem_cons_self)), rfl, Or.inr (Or.inl rfl)⟩) (fun (h : 3 = 18) => absurd h (by decide)) (fun (h : 3 = 41 ∨ 3 = 42 ∨ 3 = 43) => absurd h (by decide)) r [] (fun y hy => absurd hy List.not_mem_nil) hS⟩⟩⟩
                        · exact (Aj_up (x := (18, n, 1)) (Aj_up (x := (5, n, t)) (Aj_sub (y := (4, n, t)) hJ (Nat.le_of_ble_eq_true rfl)) (Or.inr (Nat.le_of_ble_eq_true rfl))) (Or.inr (Nat.le_of_ble_eq_true rfl)))
                        · show m_dp t99 = (dlt 18 + (dlt 5 + (dlt 4 + sD r)))
                          have : dlt 18 = 0 := rfl; have : dlt 3 = 0 := rfl; have : dlt 4 = 0 := rfl; have : dlt 5 = 0 := rfl; omega
                        · show m_rw t99 = (rho 18 + (rho 5 + (rho 4 + sR r)))
                          have : rho 18 = 0 := rfl; have : rho 3 = 0 := rfl; have : rho 4 = 0 := rfl; have : rho 5 = 0 := rfl; omega
                        · show m_md t99 + (mu7 18 + (mu7 5 + (mu7 4 + sM r))) ≤ 3 * m_at t99 + 7 * (r.length + 1 + 1 + 1) + 10
                          have : mu7 18 = 5 := rfl; have : mu7 3 = 5 := rfl; have : mu7 4 = 7 := rfl; have : mu7 5 = 7 := rfl; omega
                        · show (wt 18 + (wt 5 + (wt 4 + sW r))) + 6 * (4096 - m_at t99) + 4 * (600 - (r.length + 1 + 1 + 1)) < (wt 3 + sW r) + 6 * (4096 - m_at t0) + 4 * (600 - (r.length + 1))
                          have : wt 18 = 0 := rfl; have : wt 3 = 3 := rfl; have : wt 4 = 5 := rfl; have : wt 5 = 5 := rfl; omega
                      · refine Kp_error C_t3 (by omega) (fun t100 C_t100 X_t100 a_t100 b_t100 d_t100 w_t100 u_t100 v_t100 j_t100 l_t100 => ?_)
                        have wb_t100 := w_t100.2
                        have w_t100 := Nat.pos_of_ne_zero w_t100.1
                        have e_t100 := C_t100.2.2.2.1
                        have I_n_t100 := I_n_t3.flat X_t100
                        refine Ok_ret (show Ok _ _ _ from ?_)
                        refine Ok_ret (show Ok _ _ _ from ?_)
                        exact Or.inl ⟨Nat.ne_of_gt (show 0 < m_wr t100 from by omega), by omega, by omega, C_t100.2.2.2.2.2, by omega⟩
  · have q2n := Nat.pos_of_ne_zero (n6_isUnary q2)
    refine Ok_ife (Nat.lt_trans (lo_lt (C_t0.tk hT) _) (by decide)) (by decide) (fun q101 => ?_) (fun q101 => ?_)
    · refine Kp_ahead C_t0 hT (by omega) ?_
      refine Ok_ife (Nat.lt_trans (lo_lt (C_t0.tk hT) _) (by decide)) (by decide) (fun q102 => ?_) (fun q102 => ?_)
      · refine Kp_push C_t0 (by omega) (fun t103 C_t103 X_t103 a_t103 b_t103 d_t103 w_t103 u_t103 v_t103 j_t103 l_t103 => ?_)
        have e_t103 := C_t103.2.2.2.1
        have I_n_t103 := I_n_t0.flat X_t103
        refine Ok_bnc ?_
        try unfold b_X6_operand
        refine Kp_look C_t103 hT (by omega) ?_
        refine Ok_ifl (by decide) (Nat.lt_trans (lo_lt (C_t103.tk hT) _) (by decide)) (fun q105 => ?_) (fun q105 => ?_)
        · refine Ok_ifl (by decide) (Nat.lt_trans (lo_lt (C_t103.tk hT) _) (by decide)) (fun q106 => ?_) (fun q106 => ?_)
          · refine Ok_ife (Nat.lt_trans (lo_lt (C_t103.tk hT) _) (by decide)) (by decide) (fun q107 => ?_) (fun q107 => ?_)
            · refine Ok_bnc ?_
              try unfold b_X6_name
              refine Kp_look C_t103 hT (by omega) ?_
              refine Ok_ife (Nat.lt_trans (lo_lt (C_t103.tk hT) _) (by decide)) (by decide) (fun q => ?_) (fun q => absurd q107 q)
              refine Kp_child C_t103 I_n_t103.1 I_n_t103.2.1 I_n_t103.2.2.1 (by omega) (by omega) (by decide) (by decide) (fun t109 C_t109 X_t109 a_t109 b_t109 d_t109 w_t109 u_t109 v_t109 j_t109 l_t109 => ?_)
              have e_t109 := C_t109.2.2.2.1
              rw [a_t103] at a_t109
              rw [b_t103] at b_t109
              rw [d_t103] at d_t109
              rw [w_t103] at w_t109
              rw [u_t103] at u_t109
              rw [v_t103] at v_t109
              clear d_t103 w_t103 u_t103 v_t103 e_t103 a_t103
              have I_n_t109 := I_n_t103.chd X_t109 j_t109
              have f_n_t109 : Fz t109 n := j_t109.2.2.2.2.1
              have I_m_mdt103_t109 : Nq t109 (m_md t103) := Nq.chn j_t109 (by omega) I_n_t103 (by decide)
              have u_m_mdt103_t109 : Up t109 (m_md t103) := Or.inl j_t109.2.1
              have la_n_t109 : m_la t109 n = (m_md t103) + 1 := j_t109.2.2.2.2.2.1
              have wl_n_t109 : m_wh t109 (m_md t103) = 5 := j_t109.1
              have y9_t110 : m_at t109 = m_at t0 + 1 → lo t109 (m_at t109) = lo t0 (m_at t0 + 1) := fun h => lo_2 C_t109 C_t0 h
              have z_t110 : m_at t109 < m_ct t109 := lo_ne (Nat.ne_of_gt (show 0 < lo t109 (m_at t109) from by omega))
              refine Kp_at C_t109 (fun t110 C_t110 X_t110 a_t110 b_t110 d_t110 w_t110 u_t110 v_t110 j_t110 l_t110 => ?_)
              have e_t110 := C_t110.2.2.2.1
              rw [a_t109] at a_t110
              rw [b_t109] at b_t110
              rw [d_t109] at d_t110
              rw [w_t109] at w_t110
              rw [u_t109] at u_t110
              rw [v_t109] at v_t110
              rw [a_t109, e_t109] at z_t110
              clear d_t109 w_t109 u_t109 v_t109 e_t109 a_t109 b_t109
              have I_n_t110 := I_n_t109.flat X_t110
              have f_n_t110 := f_n_t109.ex I_n_t109 (X_t110 0)
              have I_m_mdt103_t110 := I_m_mdt103_t109.flat X_t110
              have u_m_mdt103_t110 := u_m_mdt103_t109.ex I_m_mdt103_t109 (X_t110 0)
              have la_n_t110 : m_la t110 n = (m_md t103) + 1 := by rw [j_t110.2.2.1]; exact la_n_t109
              have wl_n_t110 : m_wh t110 ((m_md t103)) = 5 := by rw [j_t110.1]; exact wl_n_t109
              clear la_n_t109 wl_n_t109
              refine Ok_ret (show Ok _ _ _ from ?_)
              refine Kp_push C_t110 (by omega) (fun t111 C_t111 X_t111 a_t111 b_t111 d_t111 w_t111 u_t111 v_t111 j_t111 l_t111 => ?_)
              have e_t111 := C_t111.2.2.2.1
              rw [a_t110] at a_t111
              rw [b_t110] at b_t111
              rw [d_t110] at d_t111
              rw [w_t110] at w_t111
              rw [u_t110] at u_t111
              rw [v_t110] at v_t111
              clear d_t110 w_t110 u_t110 v_t110 e_t110 a_t110 b_t110
              have I_n_t111 := I_n_t110.flat X_t111
              have f_n_t111 := f_n_t110.ex I_n_t110 (X_t111 0)
              have I_m_mdt103_t111 := I_m_mdt103_t110.flat X_t111
              have u_m_mdt103_t111 := u_m_mdt103_t110.ex I_m_mdt103_t110 (X_t111 0)
              have la_n_t111 : m_la t111 n = (m_md t103) + 1 := by rw [j_t111.2.2.1]; exact la_n_t110
              have wl_n_t111 : m_wh t111 ((m_md t103)) = 5 := by rw [j_t111.1]; exact wl_n_t110
              clear la_n_t110 wl_n_t110
              refine Ok_ret (show Ok _ _ _ from ?_)
              refine Ok_ret (show Ok _ _ _ from ?_)
              refine Hv_mk (Kv_c (x := (5, n, t)) rfl (Kv_c (x := (4, n, t)) rfl hK)) (C_t111.1.2.2.2.2.2.2 hTt) C_t111 hT (by omega) (by omega) (by omega) ?_ ?_ ?_ (by omega) ?_ ?_ ?_
              · exact ⟨(Io_n (by decide) (show t < 4096 from by omega) I_n_t111.1 I_n_t111.2.1 I_n_t111.2.2.1 (fun q => absurd q (by decide)) (fun q => absurd q (by decide)) I_n_t111.2.2.2), (Nd_5 Mo_nil (Or.inr (N5_mk f_n_t111 (Ab_none rfl) la_n_t111 wl_n_t111 (Or.inl (by decide))))), ⟨(Io_n (by decide) (show t < 4096 from by omega) I_n_t111.1 I_n_t111.2.1 I_n_t111.2.2.1 (fun q => absurd q (by decide)) (fun q => absurd q (by decide)) I_n_t111.2.2.2), (Nd_A (by decide) (Mo_cons (fun q => show n ≤ n from by omega) Mo_nil) (Or.inl f_n_t111)), Stk_step (N := n) (pop := (3, n, t)) (new := [(4, n, t), (5, n, t)]) F0 C_t111.1.to2 (fun (h : nk 3 = false) => absurd h (by decide)) (fun q _ h => h (3, n, t) rfl) (fun _ => rfl) (fun y hy hk => ⟨rfl, (Mo_cons (fun q => show n ≤ n from by omega) (Mo_cons (fun q => show n ≤ n from by omega) Mo_nil)) y hy hk⟩) (fun _ => Or.inl f_n_t111) (fun (h : 3 = 18) => absurd h (by decide)) (fun (h : 3 = 41 ∨ 3 = 42 ∨ 3 = 43) => absurd h (by decide)) r [] (fun y hy => absurd hy List.not_mem_nil) hS⟩⟩
              · exact (Aj_up (x := (5, n, t)) (Aj_sub (y := (4, n, t)) hJ (Nat.le_of_ble_eq_true rfl)) (Or.inr (Nat.le_of_ble_eq_true rfl)))
              · show m_dp t111 = (dlt 5 + (dlt 4 + sD r))
                have : dlt 3 = 0 := rfl; have : dlt 4 = 0 := rfl; have : dlt 5 = 0 := rfl; omega
              · show m_rw t111 = (rho 5 + (rho 4 + sR r))
                have : rho 3 = 0 := rfl; have : rho 4 = 0 := rfl; have : rho 5 = 0 := rfl; omega
              · show m_md t111 + (mu7 5 + (mu7 4 + sM r)) ≤ 3 * m_at t111 + 7 * (r.length + 1 + 1) + 10
                have : mu7 3 = 5 := rfl; have : mu7 4 = 7 := rfl; have : mu7 5 = 7 := rfl; omega
              · show (wt 5 + (wt 4 + sW r)) + 6 * (4096 - m_at t111) + 4 * (600 - (r.length + 1 + 1)) < (wt 3 + sW r) + 6 * (4096 - m_at t0) + 4 * (600 - (r.length + 1))
                have : wt 3 = 3 := rfl; have : wt 4 = 5 := rfl; have : wt 5 = 5 := rfl; omega
            · refine Ok_ife (Nat.lt_trans (lo_lt (C_t103.tk hT) _) (by decide)) (by decide) (fun q112 => ?_) (fun q112 => ?_)
              · refine Kp_child C_t103 I_n_t103.1 I_n_t103.2.1 I_n_t103.2.2.1 (by omega) (by omega) (by decide) (by decide) (fun t113 C_t113 X_t113 a_t113 b_t113 d_t113 w_t113 u_t113 v_t113 j_t113 l_t113 => ?_)
                have e_t113 := C_t113.2.2.2.1
                rw [a_t103] at a_t113
                rw [b_t103] at b_t113
                rw [d_t103] at d_t113
                rw [w_t103] at w_t113
                rw [u_t103] at u_t113
                rw [v_t103] at v_t113
                clear d_t103 w_t103 u_t103 v_t103 e_t103 a_t103
                have I_n_t113 := I_n_t103.chd X_t113 j_t113
                have f_n_t113 : Fz t113 n := j_t113.2.2.2.2.1
                have I_m_mdt103_t113 : Nq t113 (m_md t103) := Nq.chn j_t113 (by omega) I_n_t103 (by decide)
                have u_m_mdt103_t113 : Up t113 (m_md t103) := Or.inl j_t113.2.1
                have la_n_t113 : m_la t113 n = (m_md t103) + 1 := j_t113.2.2.2.2.2.1
                have wl_n_t113 : m_wh t113 (m_md t103) = 89 := j_t113.1
                refine Kp_more C_t113 (by omega) (by omega) (fun t114 C_t114 X_t114 a_t114 b_t114 d_t114 w_t114 u_t114 v_t114 j_t114 l_t114 => ?_)
                have e_t114 := C_t114.2.2.2.1
                rcases w_t114 with ⟨w_t114, y_t114⟩ | ⟨w_t114, wb_t114⟩
                · rw [a_t113] at a_t114
                  rw [b_t113] at b_t114
                  rw [d_t113] at d_t114
                  rw [w_t113] at w_t114
                  rw [u_t113] at u_t114
                  rw [v_t113] at v_t114
                  rw [d_t114] at y_t114
                  clear d_t113 w_t113 u_t113 v_t113 e_t113 a_t113 b_t113
                  have I_n_t114 := I_n_t113.flat X_t114
                  have f_n_t114 := f_n_t113.ex I_n_t113 (X_t114 0)
                  have I_m_mdt103_t114 := I_m_mdt103_t113.flat X_t114
                  have u_m_mdt103_t114 := u_m_mdt103_t113.ex I_m_mdt103_t113 (X_t114 0)
                  have la_n_t114 : m_la t114 n = (m_md t103) + 1 := by rw [j_t114.2.2.1]; exact la_n_t113
                  have wl_n_t114 : m_wh t114 ((m_md t103)) = 89 := by rw [j_t114.1]; exact wl_n_t113
                  clear la_n_t113 wl_n_t113
                  have y9_t115 : m_at t114 = m_at t0 + 1 → lo t114 (m_at t114) = lo t0 (m_at t0 + 1) := fun h => lo_2 C_t114 C_t0 h
                  have z_t115 : m_at t114 < m_ct t114 := lo_ne (Nat.ne_of_gt (show 0 < lo t114 (m_at t114) from by omega))
                  refine Kp_at C_t114 (fun t115 C_t115 X_t115 a_t115 b_t115 d_t115 w_t115 u_t115 v_t115 j_t115 l_t115 => ?_)
                  have e_t115 := C_t115.2.2.2.1
                  rw [a_t114] at a_t115
                  rw [b_t114] at b_t115
                  rw [d_t114] at d_t115
                  rw [w_t114] at w_t115
                  rw [u_t114] at u_t115
                  rw [v_t114] at v_t115
                  rw [a_t114, e_t114] at z_t115
                  clear d_t114 w_t114 u_t114 v_t114 e_t114 a_t114 b_t114
                  have I_n_t115 := I_n_t114.flat X_t115
                  have f_n_t115 := f_n_t114.ex I_n_t114 (X_t115 0)
                  have I_m_mdt103_t115 := I_m_mdt103_t114.flat X_t115
                  have u_m_mdt103_t115 := u_m_mdt103_t114.ex I_m_mdt103_t114 (X_t115 0)
                  have la_n_t115 : m_la t115 n = (m_md t103) + 1 := by rw [j_t115.2.2.1]; exact la_n_t114
                  have wl_n_t115 : m_wh t115 ((m_md t103)) = 89 := by rw [j_t115.1]; exact wl_n_t114
                  clear la_n_t114 wl_n_t114
                  refine Kp_push C_t115 (by omega) (fun t116 C_t116 X_t116 a_t116 b_t116 d_t116 w_t116 u_t116 v_t116 j_t116 l_t116 => ?_)
                  have e_t116 := C_t116.2.2.2.1
                  rw [a_t115] at a_t116
                  rw [b_t115] at b_t116
                  rw [d_t115] at d_t116
                  rw [w_t115] at w_t116
                  rw [u_t115] at u_t116
                  rw [v_t115] at v_t116
                  clear d_t115 w_t115 u_t115 v_t115 e_t115 a_t115 b_t115
                  have I_n_t116 := I_n_t115.flat X_t116
                  have f_n_t116 := f_n_t115.ex I_n_t115 (X_t116 0)
                  have I_m_mdt103_t116 := I_m_mdt103_t115.flat X_t116
                  have u_m_mdt103_t116 := u_m_mdt103_t115.ex I_m_mdt103_t115 (X_t116 0)
                  have la_n_t116 : m_la t116 n = (m_md t103) + 1 := by rw [j_t116.2.2.1]; exact la_n_t115
                  have wl_n_t116 : m_wh t116 ((m_md t103)) = 89 := by rw [j_t116.1]; exact wl_n_t115
                  clear la_n_t115 wl_n_t115
                  refine Ok_bnc ?_
                  try unfold b_X6_expression
                  refine Kp_push C_t116 (by omega) (fun t118 C_t118 X_t118 a_t118 b_t118 d_t118 w_t118 u_t118 v_t118 j_t118 l_t118 => ?_)
                  have e_t118 := C_t118.2.2.2.1
                  rw [a_t116] at a_t118
                  rw [b_t116] at b_t118
                  rw [d_t116] at d_t118
                  rw [w_t116] at w_t118
                  rw [u_t116] at u_t118
                  rw [v_t116] at v_t118
                  clear d_t116 w_t116 u_t116 v_t116 e_t116 a_t116 b_t116
                  have I_n_t118 := I_n_t116.flat X_t118
                  have f_n_t118 := f_n_t116.ex I_n_t116 (X_t118 0)
                  have I_m_mdt103_t118 := I_m_mdt103_t116.flat X_t118
                  have u_m_mdt103_t118 := u_m_mdt103_t116.ex I_m_mdt103_t116 (X_t118 0)
                  have la_n_t118 : m_la t118 n = (m_md t103) + 1 := by rw [j_t118.2.2.1]; exact la_n_t116
                  have wl_n_t118 : m_wh t118 ((m_md t103)) = 89 := by rw [j_t118.1]; exact wl_n_t116
                  clear la_n_t116 wl_n_t116
                  refine Kp_push C_t118 (by omega) (fun t119 C_t119 X_t119 a_t119 b_t119 d_t119 w_t119 u_t119 v_t119 j_t119 l_t119 => ?_)
                  have e_t119 := C_t119.2.2.2.1
                  rw [a_t118] at a_t119
                  rw [b_t118] at b_t119
                  rw [d_t118] at d_t119
                  rw [w_t118] at w_t119
                  rw [u_t118] at u_t119
                  rw [v_t118] at v_t119
                  clear d_t118 w_t118 u_t118 v_t118 e_t118 a_t118 b_t118
                  have I_n_t119 := I_n_t118.flat X_t119
                  have f_n_t119 := f_n_t118.ex I_n_t118 (X_t119 0)
                  have I_m_mdt103_t119 := I_m_mdt103_t118.flat X_t119
                  have u_m_mdt103_t119 := u_m_mdt103_t118.ex I_m_mdt103_t118 (X_t119 0)
                  have la_n_t119 : m_la t119 n = (m_md t103) + 1 := by rw [j_t119.2.2.1]; exact la_n_t118
                  have wl_n_t119 : m_wh t119 ((m_md t103)) = 89 := by rw [j_t119.1]; exact wl_n_t118
                  clear la_n_t118 wl_n_t118
                  refine Ok_ret (show Ok _ _ _ from ?_)
                  refine Ok_ret (show Ok _ _ _ from ?_)
                  refine Ok_ret (show Ok _ _ _ from ?_)
                  refine Hv_mk (Kv_c (x := (3, m_md t103, 0)) rfl (Kv_c (x := (2, m_md t103, 0 ||| (1 * 256))) rfl (Kv_c (x := (8, 79, 0)) rfl (Kv_c (x := (4, n, t)) rfl hK)))) (C_t119.1.2.2.2.2.2.2 hTt) C_t119 hT (by omega) (by omega) (by omega) ?_ ?_ ?_ (by omega) ?_ ?_ ?_
                  · exact ⟨(Io_n (by decide) (by decide) I_m_mdt103_t119.1 I_m_mdt103_t119.2.1 I_m_mdt103_t119.2.2.1 (fun q => absurd q (by decide)) (fun q => absurd q (by decide)) I_m_mdt103_t119.2.2.2), (Nd_0 (by decide) Mo_nil), ⟨(Io_2 (by have := or_256 (b := 1) (show 0 < 256 from by omega); omega) (by have := or_256 (b := 1) (show 0 < 256 from by omega); omega) (by have := or_256 (b := 1) (show 0 < 256 from by omega); omega) I_m_mdt103_t119.1 I_m_mdt103_t119.2.1 I_m_mdt103_t119.2.2.1 I_m_mdt103_t119.2.2.2), (Nd_A (by decide) (Mo_cons (fun q => show m_md t103 ≤ m_md t103 from by omega) Mo_nil) (Or.inr ⟨(3, m_md t103, 0), List.mem_cons_self, rfl, Or.inl rfl⟩)), ⟨(Io_78 (by decide) (by decide) (by decide)), (Nd_x (by decide)), ⟨(Io_n (by decide) (show t < 4096 from by omega) I_n_t119.1 I_n_t119.2.1 I_n_t119.2.2.1 (fun q => absurd q (by decide)) (fun q => absurd q (by decide)) I_n_t119.2.2.2), (Nd_A (by decide) (Mo_cons (fun q => absurd (show nk 8 = true from q) (by decide)) (Mo_cons (fun q => show n ≤ m_md t103 from by omega) (Mo_cons (fun q => show n ≤ m_md t103 from by omega) Mo_nil))) (Or.inl f_n_t119)), Stk_step (N := n) (pop := (3, n, t)) (new := [(4, n, t), (8, 79, 0), (2, m_md t103, 0 ||| (1 * 256)), (3, m_md t103, 0)]) F0 C_t119.1.to2 (fun (h : nk 3 = false) => absurd h (by decide)) (fun q _ h => h (3, n, t) rfl) (fun _ => rfl) (fun y hy hk => ⟨rfl, (Mo_cons (fun q => show n ≤ n from by omega) (Mo_cons (fun q => absurd (show nk 8 = true from q) (by decide)) (Mo_cons (fun q => show n ≤ m_md t103 from by omega) (Mo_cons (fun q => show n ≤ m_md t103 from by omega) Mo_nil)))) y hy hk⟩) (fun _ => Or.inl f_n_t119) (fun (h : 3 = 18) => absurd h (by decide)) (fun (h : 3 = 41 ∨ 3 = 42 ∨ 3 = 43) => absurd h (by decide)) r [] (fun y hy => absurd hy List.not_mem_nil) hS⟩⟩⟩⟩
                  · exact (Aj_up (x := (3, m_md t103, 0)) (Aj_up (x := (2, m_md t103, 0 ||| (1 * 256))) (Aj_up (x := (8, 79, 0)) (Aj_sub (y := (4, n, t)) hJ (Nat.le_of_ble_eq_true rfl)) (Or.inr (Nat.le_of_ble_eq_true rfl))) (Or.inl (Nat.le_of_ble_eq_true rfl))) (Or.inr (show 2 < 9 - (0 ||| (1 * 256)) / 256 from by have := or_256 (b := 1) (show 0 < 256 from by omega); omega)))
                  · show m_dp t119 = (dlt 3 + (dlt 2 + (dlt 8 + (dlt 4 + sD r))))
                    have : dlt 2 = 0 := rfl; have : dlt 3 = 0 := rfl; have : dlt 4 = 0 := rfl; have : dlt 8 = 1 := rfl; omega
                  · show m_rw t119 = (rho 3 + (rho 2 + (rho 8 + (rho 4 + sR r))))
                    have : rho 2 = 0 := rfl; have : rho 3 = 0 := rfl; have : rho 4 = 0 := rfl; have : rho 8 = 0 := rfl; omega
                  · show m_md t119 + (mu7 3 + (mu7 2 + (mu7 8 + (mu7 4 + sM r)))) ≤ 3 * m_at t119 + 7 * (r.length + 1 + 1 + 1 + 1) + 10
                    have : mu7 2 = 7 := rfl; have : mu7 3 = 5 := rfl; have : mu7 4 = 7 := rfl; have : mu7 8 = 4 := rfl; omega
                  · show (wt 3 + (wt 2 + (wt 8 + (wt 4 + sW r)))) + 6 * (4096 - m_at t119) + 4 * (600 - (r.length + 1 + 1 + 1 + 1)) < (wt 3 + sW r) + 6 * (4096 - m_at t0) + 4 * (600 - (r.length + 1))
                    have : wt 2 = 5 := rfl; have : wt 3 = 3 := rfl; have : wt 4 = 5 := rfl; have : wt 8 = 0 := rfl; omega
                · have w_t114 := Nat.pos_of_ne_zero w_t114
                  have I_n_t114 := I_n_t113.flat X_t114
                  have f_n_t114 := f_n_t113.ex I_n_t113 (X_t114 0)
                  have I_m_mdt103_t114 := I_m_mdt103_t113.flat X_t114
                  have u_m_mdt103_t114 := u_m_mdt103_t113.ex I_m_mdt103_t113 (X_t114 0)
                  have la_n_t114 : m_la t114 n = (m_md t103) + 1 := by rw [j_t114.2.2.1]; exact la_n_t113
                  have wl_n_t114 : m_wh t114 ((m_md t103)) = 89 := by rw [j_t114.1]; exact wl_n_t113
                  clear la_n_t113 wl_n_t113
                  refine Kp_at C_t114 (fun t120 C_t120 X_t120 a_t120 b_t120 d_t120 w_t120 u_t120 v_t120 j_t120 l_t120 => ?_)
                  have e_t120 := C_t120.2.2.2.1
                  have I_n_t120 := I_n_t114.flat X_t120
                  have f_n_t120 := f_n_t114.ex I_n_t114 (X_t120 0)
                  have I_m_mdt103_t120 := I_m_mdt103_t114.flat X_t120
                  have u_m_mdt103_t120 := u_m_mdt103_t114.ex I_m_mdt103_t114 (X_t120 0)
                  have la_n_t120 : m_la t120 n = (m_md t103) + 1 := by rw [j_t120.2.2.1]; exact la_n_t114
                  have wl_n_t120 : m_wh t120 ((m_md t103)) = 89 := by rw [j_t120.1]; exact wl_n_t114
                  clear la_n_t114 wl_n_t114
                  refine Kp_push C_t120 (by omega) (fun t121 C_t121 X_t121 a_t121 b_t121 d_t121 w_t121 u_t121 v_t121 j_t121 l_t121 => ?_)
                  have e_t121 := C_t121.2.2.2.1
                  have I_n_t121 := I_n_t120.flat X_t121
                  have f_n_t121 := f_n_t120.ex I_n_t120 (X_t121 0)
                  have I_m_mdt103_t121 := I_m_mdt103_t120.flat X_t121
                  have u_m_mdt103_t121 := u_m_mdt103_t120.ex I_m_mdt103_t120 (X_t121 0)
                  have la_n_t121 : m_la t121 n = (m_md t103) + 1 := by rw [j_t121.2.2.1]; exact la_n_t120
                  have wl_n_t121 : m_wh t121 ((m_md t103)) = 89 := by rw [j_t121.1]; exact wl_n_t120
                  clear la_n_t120 wl_n_t120
                  refine Ok_bnc ?_
                  try unfold b_X6_expression
                  refine Kp_push C_t121 (by omega) (fun t123 C_t123 X_t123 a_t123 b_t123 d_t123 w_t123 u_t123 v_t123 j_t123 l_t123 => ?_)
                  have e_t123 := C_t123.2.2.2.1
                  have I_n_t123 := I_n_t121.flat X_t123
                  have f_n_t123 := f_n_t121.ex I_n_t121 (X_t123 0)
                  have I_m_mdt103_t123 := I_m_mdt103_t121.flat X_t123
                  have u_m_mdt103_t123 := u_m_mdt103_t121.ex I_m_mdt103_t121 (X_t123 0)
                  have la_n_t123 : m_la t123 n = (m_md t103) + 1 := by rw [j_t123.2.2.1]; exact la_n_t121
                  have wl_n_t123 : m_wh t123 ((m_md t103)) = 89 := by rw [j_t123.1]; exact wl_n_t121
                  clear la_n_t121 wl_n_t121
                  refine Kp_push C_t123 (by omega) (fun t124 C_t124 X_t124 a_t124 b_t124 d_t124 w_t124 u_t124 v_t124 j_t124 l_t124 => ?_)
                  have e_t124 := C_t124.2.2.2.1
                  have I_n_t124 := I_n_t123.flat X_t124
                  have f_n_t124 := f_n_t123.ex I_n_t123 (X_t124 0)
                  have I_m_mdt103_t124 := I_m_mdt103_t123.flat X_t124
                  have u_m_mdt103_t124 := u_m_mdt103_t123.ex I_m_mdt103_t123 (X_t124 0)
                  have la_n_t124 : m_la t124 n = (m_md t103) + 1 := by rw [j_t124.2.2.1]; exact la_n_t123
                  have wl_n_t124 : m_wh t124 ((m_md t103)) = 89 := by rw [j_t124.1]; exact wl_n_t123
                  clear la_n_t123 wl_n_t123
                  refine Ok_ret (show Ok _ _ _ from ?_)
                  refine Ok_ret (show Ok _ _ _ from ?_)
                  refine Ok_ret (show Ok _ _ _ from ?_)
                  exact Or.inl ⟨Nat.ne_of_gt (show 0 < m_wr t124 from by omega), by omega, by omega, C_t124.2.2.2.2.2, by omega⟩
              · refine Ok_ife (Nat.lt_trans (lo_lt (C_t103.tk hT) _) (by decide)) (by decide) (fun q125 => ?_) (fun q125 => ?_)
                · refine Kp_child C_t103 I_n_t103.1 I_n_t103.2.1 I_n_t103.2.2.1 (by omega) (by omega) (by decide) (by decide) (fun t126 C_t126 X_t126 a_t126 b_t126 d_t126 w_t126 u_t126 v_t126 j_t126 l_t126 => ?_)
                  have e_t126 := C_t126.2.2.2.1
                  rw [a_t103] at a_t126
                  rw [b_t103] at b_t126
                  rw [d_t103] at d_t126
                  rw [w_t103] at w_t126
                  rw [u_t103] at u_t126
                  rw [v_t103] at v_t126
                  clear d_t103 w_t103 u_t103 v_t103 e_t103 a_t103
                  have I_n_t126 := I_n_t103.chd X_t126 j_t126
                  have f_n_t126 : Fz t126 n := j_t126.2.2.2.2.1
                  have I_m_mdt103_t126 : Nq t126 (m_md t103) := Nq.chn j_t126 (by omega) I_n_t103 (by decide)
                  have u_m_mdt103_t126 : Up t126 (m_md t103) := Or.inl j_t126.2.1
                  have la_n_t126 : m_la t126 n = (m_md t103) + 1 := j_t126.2.2.2.2.2.1
                  have wl_n_t126 : m_wh t126 (m_md t103) = 29 := j_t126.1
                  refine Kp_more C_t126 (by omega) (by omega) (fun t127 C_t127 X_t127 a_t127 b_t127 d_t127 w_t127 u_t127 v_t127 j_t127 l_t127 => ?_)
                  have e_t127 := C_t127.2.2.2.1
                  rcases w_t127 with ⟨w_t127, y_t127⟩ | ⟨w_t127, wb_t127⟩
                  · rw [a_t126] at a_t127
                    rw [b_t126] at b_t127
                    rw [d_t126] at d_t127
                    rw [w_t126] at w_t127
                    rw [u_t126] at u_t127
                    rw [v_t126] at v_t127
                    rw [d_t127] at y_t127
                    clear d_t126 w_t126 u_t126 v_t126 e_t126 a_t126 b_t126
                    have I_n_t127 := I_n_t126.flat X_t127
                    have f_n_t127 := f_n_t126.ex I_n_t126 (X_t127 0)
                    have I_m_mdt103_t127 := I_m_mdt103_t126.flat X_t127
                    have u_m_mdt103_t127 := u_m_mdt103_t126.ex I_m_mdt103_t126 (X_t127 0)
                    have la_n_t127 : m_la t127 n = (m_md t103) + 1 := by rw [j_t127.2.2.1]; exact la_n_t126
                    have wl_n_t127 : m_wh t127 ((m_md t103)) = 29 := by rw [j_t127.1]; exact wl_n_t126
                    clear la_n_t126 wl_n_t126
                    have y9_t128 : m_at t127 = m_at t0 + 1 → lo t127 (m_at t127) = lo t0 (m_at t0 + 1) := fun h => lo_2 C_t127 C_t0 h
                    have z_t128 : m_at t127 < m_ct t127 := lo_ne (Nat.ne_of_gt (show 0 < lo t127 (m_at t127) from by omega))
                    refine Kp_at C_t127 (fun t128 C_t128 X_t128 a_t128 b_t128 d_t128 w_t128 u_t128 v_t128 j_t128 l_t128 => ?_)
                    have e_t128 := C_t128.2.2.2.1
                    rw [a_t127] at a_t128
                    rw [b_t127] at b_t128
                    rw [d_t127] at d_t128
                    rw [w_t127] at w_t128
                    rw [u_t127] at u_t128
                    rw [v_t127] at v_t128
                    rw [a_t127, e_t127] at z_t128
                    clear d_t127 w_t127 u_t127 v_t127 e_t127 a_t127 b_t127
                    have I_n_t128 := I_n_t127.flat X_t128
                    have f_n_t128 := f_n_t127.ex I_n_t127 (X_t128 0)
                    have I_m_mdt103_t128 := I_m_mdt103_t127.flat X_t128
                    have u_m_mdt103_t128 := u_m_mdt103_t127.ex I_m_mdt103_t127 (X_t128 0)
                    have la_n_t128 : m_la t128 n = (m_md t103) + 1 := by rw [j_t128.2.2.1]; exact la_n_t127
                    have wl_n_t128 : m_wh t128 ((m_md t103)) = 29 := by rw [j_t128.1]; exact wl_n_t127
                    clear la_n_t127 wl_n_t127
                    refine Kp_push C_t128 (by omega) (fun t129 C_t129 X_t129 a_t129 b_t129 d_t129 w_t129 u_t129 v_t129 j_t129 l_t129 => ?_)
                    have e_t129 := C_t129.2.2.2.1
                    rw [a_t128] at a_t129
                    rw [b_t128] at b_t129
                    rw [d_t128] at d_t129
                    rw [w_t128] at w_t129
                    rw [u_t128] at u_t129
                    rw [v_t128] at v_t129
                    clear d_t128 w_t128 u_t128 v_t128 e_t128 a_t128 b_t128
                    have I_n_t129 := I_n_t128.flat X_t129
                    have f_n_t129 := f_n_t128.ex I_n_t128 (X_t129 0)
                    have I_m_mdt103_t129 := I_m_mdt103_t128.flat X_t129
                    have u_m_mdt103_t129 := u_m_mdt103_t128.ex I_m_mdt103_t128 (X_t129 0)
                    have la_n_t129 : m_la t129 n = (m_md t103) + 1 := by rw [j_t129.2.2.1]; exact la_n_t128
                    have wl_n_t129 : m_wh t129 ((m_md t103)) = 29 := by rw [j_t129.1]; exact wl_n_t128
                    clear la_n_t128 wl_n_t128
                    refine Kp_push C_t129 (by omega) (fun t130 C_t130 X_t130 a_t130 b_t130 d_t130 w_t130 u_t130 v_t130 j_t130 l_t130 => ?_)
                    have e_t130 := C_t130.2.2.2.1
                    rw [a_t129] at a_t130
                    rw [b_t129] at b_t130
                    rw [d_t129] at d_t130
                    rw [w_t129] at w_t130
                    rw [u_t129] at u_t130
                    rw [v_t129] at v_t130
                    clear d_t129 w_t129 u_t129 v_t129 e_t129 a_t129 b_t129
                    have I_n_t130 := I_n_t129.flat X_t130
                    have f_n_t130 := f_n_t129.ex I_n_t129 (X_t130 0)
                    have I_m_mdt103_t130 := I_m_mdt103_t129.flat X_t130
                    have u_m_mdt103_t130 := u_m_mdt103_t129.ex I_m_mdt103_t129 (X_t130 0)
                    have la_n_t130 : m_la t130 n = (m_md t103) + 1 := by rw [j_t130.2.2.1]; exact la_n_t129
                    have wl_n_t130 : m_wh t130 ((m_md t103)) = 29 := by rw [j_t130.1]; exact wl_n_t129
                    clear la_n_t129 wl_n_t129
                    refine Ok_ret (show Ok _ _ _ from ?_)
                    refine Ok_ret (show Ok _ _ _ from ?_)
                    refine Hv_mk (Kv_c (x := (21, m_md t103, 0)) rfl (Kv_c (x := (20, m_md t103, 0)) rfl (Kv_c (x := (4, n, t)) rfl hK))) (C_t130.1.2.2.2.2.2.2 hTt) C_t130 hT (by omega) (by omega) (by omega) ?_ ?_ ?_ (by omega) ?_ ?_ ?_
                    · exact ⟨(Io_n (by decide) (by decide) I_m_mdt103_t130.1 I_m_mdt103_t130.2.1 I_m_mdt103_t130.2.2.1 (fun q => absurd q (by decide)) (fun q => absurd q (by decide)) I_m_mdt103_t130.2.2.2), (Nd_0 (by decide) Mo_nil), ⟨(Io_n (by decide) (by decide) I_m_mdt103_t130.1 I_m_mdt103_t130.2.1 I_m_mdt103_t130.2.2.1 (fun q => absurd q (by decide)) (fun q => absurd q (by decide)) I_m_mdt103_t130.2.2.2), (Nd_0 (by decide) (Mo_cons (fun q => show m_md t103 ≤ m_md t103 from by omega) Mo_nil)), ⟨(Io_n (by decide) (show t < 4096 from by omega) I_n_t130.1 I_n_t130.2.1 I_n_t130.2.2.1 (fun q => absurd q (by decide)) (fun q => absurd q (by decide)) I_n_t130.2.2.2), (Nd_A (by decide) (Mo_cons (fun q => show n ≤ m_md t103 from by omega) (Mo_cons (fun q => show n ≤ m_md t103 from by omega) Mo_nil)) (Or.inl f_n_t130)), Stk_step (N := n) (pop := (3, n, t)) (new := [(4, n, t), (20, m_md t103, 0), (21, m_md t103, 0)]) F0 C_t130.1.to2 (fun (h : nk 3 = false) => absurd h (by decide)) (fun q _ h => h (3, n, t) rfl) (fun _ => rfl) (fun y hy hk => ⟨rfl, (Mo_cons (fun q => show n ≤ n from by omega) (Mo_cons (fun q => show n ≤ m_md t103 from by omega) (Mo_cons (fun q => show n ≤ m_md t103 from by omega) Mo_nil))) y hy hk⟩) (fun _ => Or.inl f_n_t130) (fun (h : 3 = 18) => absurd h (by decide)) (fun (h : 3 = 41 ∨ 3 = 42 ∨ 3 = 43) => absurd h (by decide)) r [] (fun y hy => absurd hy List.not_mem_nil) hS⟩⟩⟩
                    · exact (Aj_up (x := (21, m_md t103, 0)) (Aj_up (x := (20, m_md t103, 0)) (Aj_sub (y := (4, n, t)) hJ (Nat.le_of_ble_eq_true rfl)) (Or.inr (Nat.le_of_ble_eq_true rfl))) (Or.inl (Nat.le_of_ble_eq_true rfl)))
                    · show m_dp t130 = (dlt 21 + (dlt 20 + (dlt 4 + sD r)))
                      have : dlt 20 = 1 := rfl; have : dlt 21 = 0 := rfl; have : dlt 3 = 0 := rfl; have : dlt 4 = 0 := rfl; omega
                    · show m_rw t130 = (rho 21 + (rho 20 + (rho 4 + sR r)))
                      have : rho 20 = 0 := rfl; have : rho 21 = 0 := rfl; have : rho 3 = 0 := rfl; have : rho 4 = 0 := rfl; omega
                    · show m_md t130 + (mu7 21 + (mu7 20 + (mu7 4 + sM r))) ≤ 3 * m_at t130 + 7 * (r.length + 1 + 1 + 1) + 10
                      have : mu7 20 = 7 := rfl; have : mu7 21 = 3 := rfl; have : mu7 3 = 5 := rfl; have : mu7 4 = 7 := rfl; omega
                    · show (wt 21 + (wt 20 + (wt 4 + sW r))) + 6 * (4096 - m_at t130) + 4 * (600 - (r.length + 1 + 1 + 1)) < (wt 3 + sW r) + 6 * (4096 - m_at t0) + 4 * (600 - (r.length + 1))
                      have : wt 20 = 5 := rfl; have : wt 21 = 2 := rfl; have : wt 3 = 3 := rfl; have : wt 4 = 5 := rfl; omega
                  · have w_t127 := Nat.pos_of_ne_zero w_t127
                    have I_n_t127 := I_n_t126.flat X_t127
                    have f_n_t127 := f_n_t126.ex I_n_t126 (X_t127 0)
                    have I_m_mdt103_t127 := I_m_mdt103_t126.flat X_t127
                    have u_m_mdt103_t127 := u_m_mdt103_t126.ex I_m_mdt103_t126 (X_t127 0)
                    have la_n_t127 : m_la t127 n = (m_md t103) + 1 := by rw [j_t127.2.2.1]; exact la_n_t126
                    have wl_n_t127 : m_wh t127 ((m_md t103)) = 29 := by rw [j_t127.1]; exact wl_n_t126
                    clear la_n_t126 wl_n_t126
                    refine Kp_at C_t127 (fun t131 C_t131 X_t131 a_t131 b_t131 d_t131 w_t131 u_t131 v_t131 j_t131 l_t131 => ?_)
                    have e_t131 := C_t131.2.2.2.1
                    have I_n_t131 := I_n_t127.flat X_t131
                    have f_n_t131 := f_n_t127.ex I_n_t127 (X_t131 0)
                    have I_m_mdt103_t131 := I_m_mdt103_t127.flat X_t131
                    have u_m_mdt103_t131 := u_m_mdt103_t127.ex I_m_mdt103_t127 (X_t131 0)
                    have la_n_t131 : m_la t131 n = (m_md t103) + 1 := by rw [j_t131.2.2.1]; exact la_n_t127
                    have wl_n_t131 : m_wh t131 ((m_md t103)) = 29 := by rw [j_t131.1]; exact wl_n_t127
                    clear la_n_t127 wl_n_t127
                    refine Kp_push C_t131 (by omega) (fun t132 C_t132 X_t132 a_t132 b_t132 d_t132 w_t132 u_t132 v_t132 j_t132 l_t132 => ?_)
                    have e_t132 := C_t132.2.2.2.1
                    have I_n_t132 := I_n_t131.flat X_t132
                    have f_n_t132 := f_n_t131.ex I_n_t131 (X_t132 0)
                    have I_m_mdt103_t132 := I_m_mdt103_t131.flat X_t132
                    have u_m_mdt103_t132 := u_m_mdt103_t131.ex I_m_mdt103_t131 (X_t132 0)
                    have la_n_t132 : m_la t132 n = (m_md t103) + 1 := by rw [j_t132.2.2.1]; exact la_n_t131
                    have wl_n_t132 : m_wh t132 ((m_md t103)) = 29 := by rw [j_t132.1]; exact wl_n_t131
                    clear la_n_t131 wl_n_t131
                    refine Kp_push C_t132 (by omega) (fun t133 C_t133 X_t133 a_t133 b_t133 d_t133 w_t133 u_t133 v_t133 j_t133 l_t133 => ?_)
                    have e_t133 := C_t133.2.2.2.1
                    have I_n_t133 := I_n_t132.flat X_t133
                    have f_n_t133 := f_n_t132.ex I_n_t132 (X_t133 0)
                    have I_m_mdt103_t133 := I_m_mdt103_t132.flat X_t133
                    have u_m_mdt103_t133 := u_m_mdt103_t132.ex I_m_mdt103_t132 (X_t133 0)
                    have la_n_t133 : m_la t133 n = (m_md t103) + 1 := by rw [j_t133.2.2.1]; exact la_n_t132
                    have wl_n_t133 : m_wh t133 ((m_md t103)) = 29 := by rw [j_t133.1]; exact wl_n_t132
                    clear la_n_t132 wl_n_t132
                    refine Ok_ret (show Ok _ _ _ from ?_)
                    refine Ok_ret (show Ok _ _ _ from ?_)
                    exact Or.inl ⟨Nat.ne_of_gt (show 0 < m_wr t133 from by omega), by omega, by omega, C_t133.2.2.2.2.2, by omega⟩
                · refine Ok_ife (Nat.lt_trans (lo_lt (C_t103.tk hT) _) (by decide)) (by decide) (fun q134 => ?_) (fun q134 => ?_)
                  · refine Kp_push C_t103 (by omega) (fun t135 C_t135 X_t135 a_t135 b_t135 d_t135 w_t135 u_t135 v_t135 j_t135 l_t135 => ?_)
                    have e_t135 := C_t135.2.2.2.1
                    rw [a_t103] at a_t135
                    rw [b_t103] at b_t135
                    rw [d_t103] at d_t135
                    rw [w_t103] at w_t135
                    rw [u_t103] at u_t135
                    rw [v_t103] at v_t135
                    clear d_t103 w_t103 u_t103 v_t103 e_t103 a_t103 b_t103
                    have I_n_t135 := I_n_t103.flat X_t135
                    refine Kp_push C_t135 (by omega) (fun t136 C_t136 X_t136 a_t136 b_t136 d_t136 w_t136 u_t136 v_t136 j_t136 l_t136 => ?_)
                    have e_t136 := C_t136.2.2.2.1
                    rw [a_t135] at a_t136
                    rw [b_t135] at b_t136
                    rw [d_t135] at d_t136
                    rw [w_t135] at w_t136
                    rw [u_t135] at u_t136
                    rw [v_t135] at v_t136
                    clear d_t135 w_t135 u_t135 v_t135 e_t135 a_t135 b_t135
                    have I_n_t136 := I_n_t135.flat X_t136
                    refine Ok_ret (show Ok _ _ _ from ?_)
                    refine Ok_ret (show Ok _ _ _ from ?_)
                    refine Hv_mk (Kv_c (x := (18, n, 1)) rfl (Kv_c (x := (5, n, t)) rfl (Kv_c (x := (4, n, t)) rfl hK))) (C_t136.1.2.2.2.2.2.2 hTt) C_t136 hT (by omega) (by omega) (by omega) ?_ ?_ ?_ (by omega) ?_ ?_ ?_
                    · exact ⟨(Io_n (by decide) (by decide) I_n_t136.1 I_n_t136.2.1 I_n_t136.2.2.1 (fun q => absurd q (by decide)) (fun q => absurd q (by decide)) I_n_t136.2.2.2), (Nd_0 (by decide) Mo_nil), ⟨(Io_n (by decide) (show t < 4096 from by omega) I_n_t136.1 I_n_t136.2.1 I_n_t136.2.2.1 (fun q => absurd q (by decide)) (fun q => absurd q (by decide)) I_n_t136.2.2.2), (Nd_5 (Mo_cons (fun q => show n ≤ n from by omega) Mo_nil) (Or.inl ⟨1, rfl⟩)), ⟨(Io_n (by decide) (show t < 4096 from by omega) I_n_t136.1 I_n_t136.2.1 I_n_t136.2.2.1 (fun q => absurd q (by decide)) (fun q => absurd q (by decide)) I_n_t136.2.2.2), (Nd_A (by decide) (Mo_cons (fun q => show n ≤ n from by omega) (Mo_cons (fun q => show n ≤ n from by omega) Mo_nil)) (Or.inr ⟨(18, n, 1), (List.mem_cons_of_mem _ List.mem_cons_self), rfl, Or.inr (Or.inl rfl)⟩)), Stk_step (N := n) (pop := (3, n, t)) (new := [(4, n, t), (5, n, t), (18, n, 1)]) F0 C_t136.1.to2 (fun (h : nk 3 = false) => absurd h (by decide)) (fun q _ h => h (3, n, t) rfl) (fun _ => rfl) (fun y hy hk => ⟨rfl, (Mo_cons (fun q => show n ≤ n from by omega) (Mo_cons (fun q => show n ≤ n from by omega) (Mo_cons (fun q => show n ≤ n from by omega) Mo_nil))) y hy hk⟩) (fun _ => Or.inr ⟨(18, n, 1), (List.mem_cons_of_mem _ (List.mem_cons_of_mem _ List.mem_cons_self)), rfl, Or.inr (Or.inl rfl)⟩) (fun (h : 3 = 18) => absurd h (by decide)) (fun (h : 3 = 41 ∨ 3 = 42 ∨ 3 = 43) => absurd h (by decide)) r [] (fun y hy => absurd hy List.not_mem_nil) hS⟩⟩⟩
                    · exact (Aj_up (x := (18, n, 1)) (Aj_up (x := (5, n, t)) (Aj_sub (y := (4, n, t)) hJ (Nat.le_of_ble_eq_true rfl)) (Or.inr (Nat.le_of_ble_eq_true rfl))) (Or.inr (Nat.le_of_ble_eq_true rfl)))
                    · show m_dp t136 = (dlt 18 + (dlt 5 + (dlt 4 + sD r)))
                      have : dlt 18 = 0 := rfl; have : dlt 3 = 0 := rfl; have : dlt 4 = 0 := rfl; have : dlt 5 = 0 := rfl; omega
                    · show m_rw t136 = (rho 18 + (rho 5 + (rho 4 + sR r)))
                      have : rho 18 = 0 := rfl; have : rho 3 = 0 := rfl; have : rho 4 = 0 := rfl; have : rho 5 = 0 := rfl; omega
                    · show m_md t136 + (mu7 18 + (mu7 5 + (mu7 4 + sM r))) ≤ 3 * m_at t136 + 7 * (r.length + 1 + 1 + 1) + 10
                      have : mu7 18 = 5 := rfl; have : mu7 3 = 5 := rfl; have : mu7 4 = 7 := rfl; have : mu7 5 = 7 := rfl; omega
                    · show (wt 18 + (wt 5 + (wt 4 + sW r))) + 6 * (4096 - m_at t136) + 4 * (600 - (r.length + 1 + 1 + 1)) < (wt 3 + sW r) + 6 * (4096 - m_at t0) + 4 * (600 - (r.length + 1))
                      have : wt 18 = 0 := rfl; have : wt 3 = 3 := rfl; have : wt 4 = 5 := rfl; have : wt 5 = 5 := rfl; omega
                  · refine Ok_ife (Nat.lt_trans (lo_lt (C_t103.tk hT) _) (by decide)) (by decide) (fun q137 => ?_) (fun q137 => ?_)
                    · refine Kp_push C_t103 (by omega) (fun t138 C_t138 X_t138 a_t138 b_t138 d_t138 w_t138 u_t138 v_t138 j_t138 l_t138 => ?_)
                      have e_t138 := C_t138.2.2.2.1
                      rw [a_t103] at a_t138
                      rw [b_t103] at b_t138
                      rw [d_t103] at d_t138
                      rw [w_t103] at w_t138
                      rw [u_t103] at u_t138
                      rw [v_t103] at v_t138
                      clear d_t103 w_t103 u_t103 v_t103 e_t103 a_t103 b_t103
                      have I_n_t138 := I_n_t103.flat X_t138
                      refine Kp_push C_t138 (by omega) (fun t139 C_t139 X_t139 a_t139 b_t139 d_t139 w_t139 u_t139 v_t139 j_t139 l_t139 => ?_)
                      have e_t139 := C_t139.2.2.2.1
                      rw [a_t138] at a_t139
                      rw [b_t138] at b_t139
                      rw [d_t138] at d_t139
                      rw [w_t138] at w_t139
                      rw [u_t138] at u_t139
                      rw [v_t138] at v_t139
                      clear d_t138 w_t138 u_t138 v_t138 e_t138 a_t138 b_t138
                      have I_n_t139 := I_n_t138.flat X_t139
                      refine Ok_ret (show Ok _ _ _ from ?_)
                      refine Ok_ret (show Ok _ _ _ from ?_)
                      refine Hv_mk (Kv_c (x := (18, n, 1)) rfl (Kv_c (x := (5, n, t)) rfl (Kv_c (x := (4, n, t)) rfl hK))) (C_t139.1.2.2.2.2.2.2 hTt) C_t139 hT (by omega) (by omega) (by omega) ?_ ?_ ?_ (by omega) ?_ ?_ ?_
                      · exact ⟨(Io_n (by decide) (by decide) I_n_t139.1 I_n_t139.2.1 I_n_t139.2.2.1 (fun q => absurd q (by decide)) (fun q => absurd q (by decide)) I_n_t139.2.2.2), (Nd_0 (by decide) Mo_nil), ⟨(Io_n (by decide) (show t < 4096 from by omega) I_n_t139.1 I_n_t139.2.1 I_n_t139.2.2.1 (fun q => absurd q (by decide)) (fun q => absurd q (by decide)) I_n_t139.2.2.2), (Nd_5 (Mo_cons (fun q => show n ≤ n from by omega) Mo_nil) (Or.inl ⟨1, rfl⟩)), ⟨(Io_n (by decide) (show t < 4096 from by omega) I_n_t139.1 I_n_t139.2.1 I_n_t139.2.2.1 (fun q => absurd q (by decide)) (fun q => absurd q (by decide)) I_n_t139.2.2.2), (Nd_A (by decide) (Mo_cons (fun q => show n ≤ n from by omega) (Mo_cons (fun q => show n ≤ n from by omega) Mo_nil)) (Or.inr ⟨(18, n, 1), (List.mem_cons_of_mem _ List.mem_cons_self), rfl, Or.inr (Or.inl rfl)⟩)), Stk_step (N := n) (pop := (3, n, t)) (new := [(4, n, t), (5, n, t), (18, n, 1)]) F0 C_t139.1.to2 (fun (h : nk 3 = false) => absurd h (by decide)) (fun q _ h => h (3, n, t) rfl) (fun _ => rfl) (fun y hy hk => ⟨rfl, (Mo_cons (fun q => show n ≤ n from by omega) (Mo_cons (fun q => show n ≤ n from by omega) (Mo_cons (fun q => show n ≤ n from by omega) Mo_nil))) y hy hk⟩) (fun _ => Or.inr ⟨(18, n, 1), (List.mem_cons_of_mem _ (List.mem_cons_of_mem _ List.mem_cons_self)), rfl, Or.inr (Or.inl rfl)⟩) (fun (h : 3 = 18) => absurd h (by decide)) (fun (h : 3 = 41 ∨ 3 = 42 ∨ 3 = 43) => absurd h (by decide)) r [] (fun y hy => absurd hy List.not_mem_nil) hS⟩⟩⟩
                      · exact (Aj_up (x := (18, n, 1)) (Aj_up (x := (5, n, t)) (Aj_sub (y := (4, n, t)) hJ (Nat.le_of_ble_eq_true rfl)) (Or.inr (Nat.le_of_ble_eq_true rfl))) (Or.inr (Nat.le_of_ble_eq_true rfl)))
                      · show m_dp t139 = (dlt 18 + (dlt 5 + (dlt 4 + sD r)))
                        have : dlt 18 = 0 := rfl; have : dlt 3 = 0 := rfl; have : dlt 4 = 0 := rfl; have : dlt 5 = 0 := rfl; omega
                      · show m_rw t139 = (rho 18 + (rho 5 + (rho 4 + sR r)))
                        have : rho 18 = 0 := rfl; have : rho 3 = 0 := rfl; have : rho 4 = 0 := rfl; have : rho 5 = 0 := rfl; omega
                      · show m_md t139 + (mu7 18 + (mu7 5 + (mu7 4 + sM r))) ≤ 3 * m_at t139 + 7 * (r.length + 1 + 1 + 1) + 10
                        have : mu7 18 = 5 := rfl; have : mu7 3 = 5 := rfl; have : mu7 4 = 7 := rfl; have : mu7 5 = 7 := rfl; omega
                      · show (wt 18 + (wt 5 + (wt 4 + sW r))) + 6 * (4096 - m_at t139) + 4 * (600 - (r.length + 1 + 1 + 1)) < (wt 3 + sW r) + 6 * (4096 - m_at t0) + 4 * (600 - (r.length + 1))
                        have : wt 18 = 0 := rfl; have : wt 3 = 3 := rfl; have : wt 4 = 5 := rfl; have : wt 5 = 5 := rfl; omega
                    · refine Ok_ife (Nat.lt_trans (lo_lt (C_t103.tk hT) _) (by decide)) (by decide) (fun q140 => ?_) (fun q140 => ?_)
                      · refine Kp_push C_t103 (by omega) (fun t141 C_t141 X_t141 a_t141 b_t141 d_t141 w_t141 u_t141 v_t141 j_t141 l_t141 => ?_)
                        have e_t141 := C_t141.2.2.2.1
                        rw [a_t103] at a_t141
                        rw [b_t103] at b_t141
                        rw [d_t103] at d_t141
                        rw [w_t103] at w_t141
                        rw [u_t103] at u_t141
                        rw [v_t103] at v_t141
                        clear d_t103 w_t103 u_t103 v_t103 e_t103 a_t103 b_t103
                        have I_n_t141 := I_n_t103.flat X_t141
                        refine Kp_push C_t141 (by omega) (fun t142 C_t142 X_t142 a_t142 b_t142 d_t142 w_t142 u_t142 v_t142 j_t142 l_t142 => ?_)
                        have e_t142 := C_t142.2.2.2.1
                        rw [a_t141] at a_t142
                        rw [b_t141] at b_t142
                        rw [d_t141] at d_t142
                        rw [w_t141] at w_t142
                        rw [u_t141] at u_t142
                        rw [v_t141] at v_t142
                        clear d_t141 w_t141 u_t141 v_t141 e_t141 a_t141 b_t141
                        have I_n_t142 := I_n_t141.flat X_t142
                        refine Ok_ret (show Ok _ _ _ from ?_)
                        refine Ok_ret (show Ok _ _ _ from ?_)
                        refine Hv_mk (Kv_c (x := (18, n, 1)) rfl (Kv_c (x := (5, n, t)) rfl (Kv_c (x := (4, n, t)) rfl hK))) (C_t142.1.2.2.2.2.2.2 hTt) C_t142 hT (by omega) (by omega) (by omega) ?_ ?_ ?_ (by omega) ?_ ?_ ?_
                        · exact ⟨(Io_n (by decide) (by decide) I_n_t142.1 I_n_t142.2.1 I_n_t142.2.2.1 (fun q => absurd q (by decide)) (fun q => absurd q (by decide)) I_n_t142.2.2.2), (Nd_0 (by decide) Mo_nil), ⟨(Io_n (by decide) (show t < 4096 from by omega) I_n_t142.1 I_n_t142.2.1 I_n_t142.2.2.1 (fun q => absurd q (by decide)) (fun q => absurd q (by decide)) I_n_t142.2.2.2), (Nd_5 (Mo_cons (fun q => show n ≤ n from by omega) Mo_nil) (Or.inl ⟨1, rfl⟩)), ⟨(Io_n (by decide) (show t < 4096 from by omega) I_n_t142.1 I_n_t142.2.1 I_n_t142.2.2.1 (fun q => absurd q (by decide)) (fun q => absurd q (by decide)) I_n_t142.2.2.2), (Nd_A (by decide) (Mo_cons (fun q => show n ≤ n from by omega) (Mo_cons (fun q => show n ≤ n from by omega) Mo_nil)) (Or.inr ⟨(18, n, 1), (List.mem_cons_of_mem _ List.mem_cons_self), rfl, Or.inr (Or.inl rfl)⟩)), Stk_step (N := n) (pop := (3, n, t)) (new := [(4, n, t), (5, n, t), (18, n, 1)]) F0 C_t142.1.to2 (fun (h : nk 3 = false) => absurd h (by decide)) (fun q _ h => h (3, n, t) rfl) (fun _ => rfl) (fun y hy hk => ⟨rfl, (Mo_cons (fun q => show n ≤ n from by omega) (Mo_cons (fun q => show n ≤ n from by omega) (Mo_cons (fun q => show n ≤ n from by omega) Mo_nil))) y hy hk⟩) (fun _ => Or.inr ⟨(18, n, 1), (List.mem_cons_of_mem _ (List.mem_cons_of_mem _ List.mem_cons_self)), rfl, Or.inr (Or.inl rfl)⟩) (fun (h : 3 = 18) => absurd h (by decide)) (fun (h : 3 = 41 ∨ 3 = 42 ∨ 3 = 43) => absurd h (by decide)) r [] (fun y hy => absurd hy List.not_mem_nil) hS⟩⟩⟩
                        · exact (Aj_up (x := (18, n, 1)) (Aj_up (x := (5, n, t)) (Aj_sub (y := (4, n, t)) hJ (Nat.le_of_ble_eq_true rfl)) (Or.inr (Nat.le_of_ble_eq_true rfl))) (Or.inr (Nat.le_of_ble_eq_true rfl)))
                        · show m_dp t142 = (dlt 18 + (dlt 5 + (dlt 4 + sD r)))
                          have : dlt 18 = 0 := rfl; have : dlt 3 = 0 := rfl; have : dlt 4 = 0 := rfl; have : dlt 5 = 0 := rfl; omega
                        · show m_rw t142 = (rho 18 + (rho 5 + (rho 4 + sR r)))
                          have : rho 18 = 0 := rfl; have : rho 3 = 0 := rfl; have : rho 4 = 0 := rfl; have : rho 5 = 0 := rfl; omega
                        · show m_md t142 + (mu7 18 + (mu7 5 + (mu7 4 + sM r))) ≤ 3 * m_at t142 + 7 * (r.length + 1 + 1 + 1) + 10
                          have : mu7 18 = 5 := rfl; have : mu7 3 = 5 := rfl; have : mu7 4 = 7 := rfl; have : mu7 5 = 7 := rfl; omega
                        · show (wt 18 + (wt 5 + (wt 4 + sW r))) + 6 * (4096 - m_at t142) + 4 * (600 - (r.length + 1 + 1 + 1)) < (wt 3 + sW r) + 6 * (4096 - m_at t0) + 4 * (600 - (r.length + 1))
                          have : wt 18 = 0 := rfl; have : wt 3 = 3 := rfl; have : wt 4 = 5 := rfl; have : wt 5 = 5 := rfl; omega
                      · refine Ok_ife (Nat.lt_trans (lo_lt (C_t103.tk hT) _) (by decide)) (by decide) (fun q143 => ?_) (fun q143 => ?_)
                        · refine Kp_push C_t103 (by omega) (fun t144 C_t144 X_t144 a_t144 b_t144 d_t144 w_t144 u_t144 v_t144 j_t144 l_t144 => ?_)
                          have e_t144 := C_t144.2.2.2.1
                          rw [a_t103] at a_t144
                          rw [b_t103] at b_t144
                          rw [d_t103] at d_t144
                          rw [w_t103] at w_t144
                          rw [u_t103] at u_t144
                          rw [v_t103] at v_t144
                          clear d_t103 w_t103 u_t103 v_t103 e_t103 a_t103 b_t103
                          have I_n_t144 := I_n_t103.flat X_t144
                          refine Kp_push C_t144 (by omega) (fun t145 C_t145 X_t145 a_t145 b_t145 d_t145 w_t145 u_t145 v_t145 j_t145 l_t145 => ?_)
                          have e_t145 := C_t145.2.2.2.1
                          rw [a_t144] at a_t145
                          rw [b_t144] at b_t145
                          rw [d_t144] at d_t145
                          rw [w_t144] at w_t145
                          rw [u_t144] at u_t145
                          rw [v_t144] at v_t145
                          clear d_t144 w_t144 u_t144 v_t144 e_t144 a_t144 b_t144
                          have I_n_t145 := I_n_t144.flat X_t145
                          refine Ok_ret (show Ok _ _ _ from ?_)
                          refine Ok_ret (show Ok _ _ _ from ?_)
                          refine Hv_mk (Kv_c (x := (18, n, 1)) rfl (Kv_c (x := (5, n, t)) rfl (Kv_c (x := (4, n, t)) rfl hK))) (C_t145.1.2.2.2.2.2.2 hTt) C_t145 hT (by omega) (by omega) (by omega) ?_ ?_ ?_ (by omega) ?_ ?_ ?_
                          · exact ⟨(Io_n (by decide) (by decide) I_n_t145.1 I_n_t145.2.1 I_n_t145.2.2.1 (fun q => absurd q (by decide)) (fun q => absurd q (by decide)) I_n_t145.2.2.2), (Nd_0 (by decide) Mo_nil), ⟨(Io_n (by decide) (show t < 4096 from by omega) I_n_t145.1 I_n_t145.2.1 I_n_t145.2.2.1 (fun q => absurd q (by decide)) (fun q => absurd q (by decide)) I_n_t145.2.2.2), (Nd_5 (Mo_cons (fun q => show n ≤ n from by omega) Mo_nil) (Or.inl ⟨1, rfl⟩)), ⟨(Io_n (by decide) (show t < 4096 from by omega) I_n_t145.1 I_n_t145.2.1 I_n_t145.2.2.1 (fun q => absurd q (by decide)) (fun q => absurd q (by decide)) I_n_t145.2.2.2), (Nd_A (by decide) (Mo_cons (fun q => show n ≤ n from by omega) (Mo_cons (fun q => show n ≤ n from by omega) Mo_nil)) (Or.inr ⟨(18, n, 1), (List.mem_cons_of_mem _ List.mem_cons_self), rfl, Or.inr (Or.inl rfl)⟩)), Stk_step (N := n) (pop := (3, n, t)) (new := [(4, n, t), (5, n, t), (18, n, 1)]) F0 C_t145.1.to2 (fun (h : nk 3 = false) => absurd h (by decide)) (fun q _ h => h (3, n, t) rfl) (fun _ => rfl) (fun y hy hk => ⟨rfl, (Mo_cons (fun q => show n ≤ n from by omega) (Mo_cons (fun q => show n ≤ n from by omega) (Mo_cons (fun q => show n ≤ n from by omega) Mo_nil))) y hy hk⟩) (fun _ => Or.inr ⟨(18, n, 1), (List.mem_cons_of_mem _ (List.mem_cons_of_mem _ List.mem_cons_self)), rfl, Or.inr (Or.inl rfl)⟩) (fun (h : 3 = 18) => absurd h (by decide)) (fun (h : 3 = 41 ∨ 3 = 42 ∨ 3 = 43) => absurd h (by decide)) r [] (fun y hy => absurd hy List.not_mem_nil) hS⟩⟩⟩
                          · exact (Aj_up (x := (18, n, 1)) (Aj_up (x := (5, n, t)) (Aj_sub (y := (4, n, t)) hJ (Nat.le_of_ble_eq_true rfl)) (Or.inr (Nat.le_of_ble_eq_true rfl))) (Or.inr (Nat.le_of_ble_eq_true rfl)))
                          · show m_dp t145 = (dlt 18 + (dlt 5 + (dlt 4 + sD r)))
                            have : dlt 18 = 0 := rfl; have : dlt 3 = 0 := rfl; have : dlt 4 = 0 := rfl; have : dlt 5 = 0 := rfl; omega
                          · show m_rw t145 = (rho 18 + (rho 5 + (rho 4 + sR r)))
                            have : rho 18 = 0 := rfl; have : rho 3 = 0 := rfl; have : rho 4 = 0 := rfl; have : rho 5 = 0 := rfl; omega
                          · show m_md t145 + (mu7 18 + (mu7 5 + (mu7 4 + sM r))) ≤ 3 * m_at t145 + 7 * (r.length + 1 + 1 + 1) + 10
                            have : mu7 18 = 5 := rfl; have : mu7 3 = 5 := rfl; have : mu7 4 = 7 := rfl; have : mu7 5 = 7 := rfl; omega
                          · show (wt 18 + (wt 5 + (wt 4 + sW r))) + 6 * (4096 - m_at t145) + 4 * (600 - (r.length + 1 + 1 + 1)) < (wt 3 + sW r) + 6 * (4096 - m_at t0) + 4 * (600 - (r.length + 1))
                            have : wt 18 = 0 := rfl; have : wt 3 = 3 := rfl; have : wt 4 = 5 := rfl; have : wt 5 = 5 := rfl; omega
                        · refine Ok_ife (Nat.lt_trans (lo_lt (C_t103.tk hT) _) (by decide)) (by decide) (fun q146 => ?_) (fun q146 => ?_)
                          · refine Kp_push C_t103 (by omega) (fun t147 C_t147 X_t147 a_t147 b_t147 d_t147 w_t147 u_t147 v_t147 j_t147 l_t147 => ?_)
                            have e_t147 := C_t147.2.2.2.1
                            rw [a_t103] at a_t147
                            rw [b_t103] at b_t147
                            rw [d_t103] at d_t147
                            rw [w_t103] at w_t147
                            rw [u_t103] at u_t147
                            rw [v_t103] at v_t147
                            clear d_t103 w_t103 u_t103 v_t103 e_t103 a_t103 b_t103
                            have I_n_t147 := I_n_t103.flat X_t147
                            refine Kp_push C_t147 (by omega) (fun t148 C_t148 X_t148 a_t148 b_t148 d_t148 w_t148 u_t148 v_t148 j_t148 l_t148 => ?_)
                            have e_t148 := C_t148.2.2.2.1
                            rw [a_t147] at a_t148
                            rw [b_t147] at b_t148
                            rw [d_t147] at d_t148
                            rw [w_t147] at w_t148
                            rw [u_t147] at u_t148
                            rw [v_t147] at v_t148
                            clear d_t147 w_t147 u_t147 v_t147 e_t147 a_t147 b_t147
                            have I_n_t148 := I_n_t147.flat X_t148
                            refine Ok_ret (show Ok _ _ _ from ?_)
                            refine Ok_ret (show Ok _ _ _ from ?_)
                            refine Hv_mk (Kv_c (x := (18, n, 1)) rfl (Kv_c (x := (5, n, t)) rfl (Kv_c (x := (4, n, t)) rfl hK))) (C_t148.1.2.2.2.2.2.2 hTt) C_t148 hT (by omega) (by omega) (by omega) ?_ ?_ ?_ (by omega) ?_ ?_ ?_
                            · exact ⟨(Io_n (by decide) (by decide) I_n_t148.1 I_n_t148.2.1 I_n_t148.2.2.1 (fun q => absurd q (by decide)) (fun q => absurd q (by decide)) I_n_t148.2.2.2), (Nd_0 (by decide) Mo_nil), ⟨(Io_n (by decide) (show t < 4096 from by omega) I_n_t148.1 I_n_t148.2.1 I_n_t148.2.2.1 (fun q => absurd q (by decide)) (fun q => absurd q (by decide)) I_n_t148.2.2.2), (Nd_5 (Mo_cons (fun q => show n ≤ n from by omega) Mo_nil) (Or.inl ⟨1, rfl⟩)), ⟨(Io_n (by decide) (show t < 4096 from by omega) I_n_t148.1 I_n_t148.2.1 I_n_t148.2.2.1 (fun q => absurd q (by decide)) (fun q => absurd q (by decide)) I_n_t148.2.2.2), (Nd_A (by decide) (Mo_cons (fun q => show n ≤ n from by omega) (Mo_cons (fun q => show n ≤ n from by omega) Mo_nil)) (Or.inr ⟨(18, n, 1), (List.mem_cons_of_mem _ List.mem_cons_self), rfl, Or.inr (Or.inl rfl)⟩)), Stk_step (N := n) (pop := (3, n, t)) (new := [(4, n, t), (5, n, t), (18, n, 1)]) F0 C_t148.1.to2 (fun (h : nk 3 = false) => absurd h (by decide)) (fun q _ h => h (3, n, t) rfl) (fun _ => rfl) (fun y hy hk => ⟨rfl, (Mo_cons (fun q => show n ≤ n from by omega) (Mo_cons (fun q => show n ≤ n from by omega) (Mo_cons (fun q => show n ≤ n from by omega) Mo_nil))) y hy hk⟩) (fun _ => Or.inr ⟨(18, n, 1), (List.mem_cons_of_mem _ (List.mem_cons_of_mem _ List.mem_cons_self)), rfl, Or.inr (Or.inl rfl)⟩) (fun (h : 3 = 18) => absurd h (by decide)) (fun (h : 3 = 41 ∨ 3 = 42 ∨ 3 = 43) => absurd h (by decide)) r [] (fun y hy => absurd hy List.not_mem_nil) hS⟩⟩⟩
                            · exact (Aj_up (x := (18, n, 1)) (Aj_up (x := (5, n, t)) (Aj_sub (y := (4, n, t)) hJ (Nat.le_of_ble_eq_true rfl)) (Or.inr (Nat.le_of_ble_eq_true rfl))) (Or.inr (Nat.le_of_ble_eq_true rfl)))
                            · show m_dp t148 = (dlt 18 + (dlt 5 + (dlt 4 + sD r)))
                              have : dlt 18 = 0 := rfl; have : dlt 3 = 0 := rfl; have : dlt 4 = 0 := rfl; have : dlt 5 = 0 := rfl; omega
                            · show m_rw t148 = (rho 18 + (rho 5 + (rho 4 + sR r)))
                              have : rho 18 = 0 := rfl; have : rho 3 = 0 := rfl; have : rho 4 = 0 := rfl; have : rho 5 = 0 := rfl; omega
                            · show m_md t148 + (mu7 18 + (mu7 5 + (mu7 4 + sM r))) ≤ 3 * m_at t148 + 7 * (r.length + 1 + 1 + 1) + 10
                              have : mu7 18 = 5 := rfl; have : mu7 3 = 5 := rfl; have : mu7 4 = 7 := rfl; have : mu7 5 = 7 := rfl; omega
                            · show (wt 18 + (wt 5 + (wt 4 + sW r))) + 6 * (4096 - m_at t148) + 4 * (600 - (r.length + 1 + 1 + 1)) < (wt 3 + sW r) + 6 * (4096 - m_at t0) + 4 * (600 - (r.length + 1))
                              have : wt 18 = 0 := rfl; have : wt 3 = 3 := rfl; have : wt 4 = 5 := rfl; have : wt 5 = 5 := rfl; omega
                          · refine Ok_ife (Nat.lt_trans (lo_lt (C_t103.tk hT) _) (by decide)) (by decide) (fun q149 => ?_) (fun q149 => ?_)
                            · refine Kp_push C_t103 (by omega) (fun t150 C_t150 X_t150 a_t150 b_t150 d_t150 w_t150 u_t150 v_t150 j_t150 l_t150 => ?_)
                              have e_t150 := C_t150.2.2.2.1
                              rw [a_t103] at a_t150
                              rw [b_t103] at b_t150
                              rw [d_t103] at d_t150
                              rw [w_t103] at w_t150
                              rw [u_t103] at u_t150
                              rw [v_t103] at v_t150
                              clear d_t103 w_t103 u_t103 v_t103 e_t103 a_t103 b_t103
                              have I_n_t150 := I_n_t103.flat X_t150
                              refine Kp_push C_t150 (by omega) (fun t151 C_t151 X_t151 a_t151 b_t151 d_t151 w_t151 u_t151 v_t151 j_t151 l_t151 => ?_)
                              have e_t151 := C_t151.2.2.2.1
                              rw [a_t150] at a_t151
                              rw [b_t150] at b_t151
                              rw [d_t150] at d_t151
                              rw [w_t150] at w_t151
                              rw [u_t150] at u_t151
                              rw [v_t150] at v_t151
                              clear d_t150 w_t150 u_t150 v_t150 e_t150 a_t150 b_t150
                              have I_n_t151 := I_n_t150.flat X_t151
                              refine Ok_ret (show Ok _ _ _ from ?_)
                              refine Ok_ret (show Ok _ _ _ from ?_)
                              refine Hv_mk (Kv_c (x := (18, n, 1)) rfl (Kv_c (x := (5, n, t)) rfl (Kv_c (x := (4, n, t)) rfl hK))) (C_t151.1.2.2.2.2.2.2 hTt) C_t151 hT (by omega) (by omega) (by omega) ?_ ?_ ?_ (by omega) ?_ ?_ ?_
                              · exact ⟨(Io_n (by decide) (by decide) I_n_t151.1 I_n_t151.2.1 I_n_t151.2.2.1 (fun q => absurd q (by decide)) (fun q => absurd q (by decide)) I_n_t151.2.2.2), (Nd_0 (by decide) Mo_nil), ⟨(Io_n (by decide) (show t < 4096 from by omega) I_n_t151.1 I_n_t151.2.1 I_n_t151.2.2.1 (fun q => absurd q (by decide)) (fun q => absurd q (by decide)) I_n_t151.2.2.2), (Nd_5 (Mo_cons (fun q => show n ≤ n from by omega) Mo_nil) (Or.inl ⟨1, rfl⟩)), ⟨(Io_n (by decide) (show t < 4096 from by omega) I_n_t151.1 I_n_t151.2.1 I_n_t151.2.2.1 (fun q => absurd q (by decide)) (fun q => absurd q (by decide)) I_n_t151.2.2.2), (Nd_A (by decide) (Mo_cons (fun q => show n ≤ n from by omega) (Mo_cons (fun q => show n ≤ n from by omega) Mo_nil)) (Or.inr ⟨(18, n, 1), (List.mem_cons_of_mem _ List.mem_cons_self), rfl, Or.inr (Or.inl rfl)⟩)), Stk_step (N := n) (pop := (3, n, t)) (new := [(4, n, t), (5, n, t), (18, n, 1)]) F0 C_t151.1.to2 (fun (h : nk 3 = false) => absurd h (by decide)) (fun q _ h => h (3, n, t) rfl) (fun _ => rfl) (fun y hy hk => ⟨rfl, (Mo_cons (fun q => show n ≤ n from by omega) (Mo_cons (fun q => show n ≤ n from by omega) (Mo_cons (fun q => show n ≤ n from by omega) Mo_nil))) y hy hk⟩) (fun _ => Or.inr ⟨(18, n, 1), (List.mem_cons_of_mem _ (List.mem_cons_of_mem _ List.mem_cons_self)), rfl, Or.inr (Or.inl rfl)⟩) (fun (h : 3 = 18) => absurd h (by decide)) (fun (h : 3 = 41 ∨ 3 = 42 ∨ 3 = 43) => absurd h (by decide)) r [] (fun y hy => absurd hy List.not_mem_nil) hS⟩⟩⟩
                              · exact (Aj_up (x := (18, n, 1)) (Aj_up (x := (5, n, t)) (Aj_sub (y := (4, n, t)) hJ (Nat.le_of_ble_eq_true rfl)) (Or.inr (Nat.le_of_ble_eq_true rfl))) (Or.inr (Nat.le_of_ble_eq_true rfl)))
                              · show m_dp t151 = (dlt 18 + (dlt 5 + (dlt 4 + sD r)))
                                have : dlt 18 = 0 := rfl; have : dlt 3 = 0 := rfl; have : dlt 4 = 0 := rfl; have : dlt 5 = 0 := rfl; omega
                              · show m_rw t151 = (rho 18 + (rho 5 + (rho 4 + sR r)))
                                have : rho 18 = 0 := rfl; have : rho 3 = 0 := rfl; have : rho 4 = 0 := rfl; have : rho 5 = 0 := rfl; omega
                              · show m_md t151 + (mu7 18 + (mu7 5 + (mu7 4 + sM r))) ≤ 3 * m_at t151 + 7 * (r.length + 1 + 1 + 1) + 10
                                have : mu7 18 = 5 := rfl; have : mu7 3 = 5 := rfl; have : mu7 4 = 7 := rfl; have : mu7 5 = 7 := rfl; omega
                              · show (wt 18 + (wt 5 + (wt 4 + sW r))) + 6 * (4096 - m_at t151) + 4 * (600 - (r.length + 1 + 1 + 1)) < (wt 3 + sW r) + 6 * (4096 - m_at t0) + 4 * (600 - (r.length + 1))
                                have : wt 18 = 0 := rfl; have : wt 3 = 3 := rfl; have : wt 4 = 5 := rfl; have : wt 5 = 5 := rfl; omega
                            · refine Kp_error C_t103 (by omega) (fun t152 C_t152 X_t152 a_t152 b_t152 d_t152 w_t152 u_t152 v_t152 j_t152 l_t152 => ?_)
                              have wb_t152 := w_t152.2
                              have w_t152 := Nat.pos_of_ne_zero w_t152.1
                              have e_t152 := C_t152.2.2.2.1
                              have I_n_t152 := I_n_t103.flat X_t152
                              refine Ok_ret (show Ok _ _ _ from ?_)
                              refine Ok_ret (show Ok _ _ _ from ?_)
                              exact Or.inl ⟨Nat.ne_of_gt (show 0 < m_wr t152 from by omega), by omega, by omega, C_t152.2.2.2.2.2, by omega⟩
          · refine Kp_child C_t103 I_n_t103.1 I_n_t103.2.1 I_n_t103.2.2.1 (by omega) (by omega) (by decide) (by decide) (fun t153 C_t153 X_t153 a_t153 b_t153 d_t153 w_t153 u_t153 v_t153 j_t153 l_t153 => ?_)
            have e_t153 := C_t153.2.2.2.1
            rw [a_t103] at a_t153
            rw [b_t103] at b_t153
            rw [d_t103] at d_t153
            rw [w_t103] at w_t153
            rw [u_t103] at u_t153
            rw [v_t103] at v_t153
            clear d_t103 w_t103 u_t103 v_t103 e_t103 a_t103
            have I_n_t153 := I_n_t103.chd X_t153 j_t153
            have f_n_t153 : Fz t153 n := j_t153.2.2.2.2.1
            have I_m_mdt103_t153 : Nq t153 (m_md t103) := Nq.chn j_t153 (by omega) I_n_t103 (by decide)
            have u_m_mdt103_t153 : Up t153 (m_md t103) := Or.inl j_t153.2.1
            have la_n_t153 : m_la t153 n = (m_md t103) + 1 := j_t153.2.2.2.2.2.1
            have wl_n_t153 : m_wh t153 (m_md t103) = 88 := j_t153.1
            have y9_t154 : m_at t153 = m_at t0 + 1 → lo t153 (m_at t153) = lo t0 (m_at t0 + 1) := fun h => lo_2 C_t153 C_t0 h
            have z_t154 : m_at t153 < m_ct t153 := lo_ne (Nat.ne_of_gt (show 0 < lo t153 (m_at t153) from by omega))
            refine Kp_at C_t153 (fun t154 C_t154 X_t154 a_t154 b_t154 d_t154 w_t154 u_t154 v_t154 j_t154 l_t154 => ?_)
            have e_t154 := C_t154.2.2.2.1
            rw [a_t153] at a_t154
            rw [b_t153] at b_t154
            rw [d_t153] at d_t154
            rw [w_t153] at w_t154
            rw [u_t153] at u_t154
            rw [v_t153] at v_t154
            rw [a_t153, e_t153] at z_t154
            clear d_t153 w_t153 u_t153 v_t153 e_t153 a_t153 b_t153
            have I_n_t154 := I_n_t153.flat X_t154
            have f_n_t154 := f_n_t153.ex I_n_t153 (X_t154 0)
            have I_m_mdt103_t154 := I_m_mdt103_t153.flat X_t154
            have u_m_mdt103_t154 := u_m_mdt103_t153.ex I_m_mdt103_t153 (X_t154 0)
            have la_n_t154 : m_la t154 n = (m_md t103) + 1 := by rw [j_t154.2.2.1]; exact la_n_t153
            have wl_n_t154 : m_wh t154 ((m_md t103)) = 88 := by rw [j_t154.1]; exact wl_n_t153
            clear la_n_t153 wl_n_t153
            refine Ok_ret (show Ok _ _ _ from ?_)
            refine Ok_ret (show Ok _ _ _ from ?_)
            refine Hv_mk (Kv_c (x := (4, n, t)) rfl hK) (C_t154.1.2.2.2.2.2.2 hTt) C_t154 hT (by omega) (by omega) (by omega) ?_ ?_ ?_ (by omega) ?_ ?_ ?_
            · exact ⟨(Io_n (by decide) (show t < 4096 from by omega) I_n_t154.1 I_n_t154.2.1 I_n_t154.2.2.1 (fun q => absurd q (by decide)) (fun q => absurd q (by decide)) I_n_t154.2.2.2), (Nd_A (by decide) Mo_nil (Or.inl f_n_t154)), Stk_step (N := n) (pop := (3, n, t)) (new := [(4, n, t)]) F0 C_t154.1.to2 (fun (h : nk 3 = false) => absurd h (by decide)) (fun q _ h => h (3, n, t) rfl) (fun _ => rfl) (fun y hy hk => ⟨rfl, (Mo_cons (fun q => show n ≤ n from by omega) Mo_nil) y hy hk⟩) (fun _ => Or.inl f_n_t154) (fun (h : 3 = 18) => absurd h (by decide)) (fun (h : 3 = 41 ∨ 3 = 42 ∨ 3 = 43) => absurd h (by decide)) r [] (fun y hy => absurd hy List.not_mem_nil) hS⟩
            · exact (Aj_sub (y := (4, n, t)) hJ (Nat.le_of_ble_eq_true rfl))
            · show m_dp t154 = (dlt 4 + sD r)
              have : dlt 3 = 0 := rfl; have : dlt 4 = 0 := rfl; omega
            · show m_rw t154 = (rho 4 + sR r)
              have : rho 3 = 0 := rfl; have : rho 4 = 0 := rfl; omega
            · show m_md t154 + (mu7 4 + sM r) ≤ 3 * m_at t154 + 7 * (r.length + 1) + 10
              have : mu7 3 = 5 := rfl; have : mu7 4 = 7 := rfl; omega
            · show (wt 4 + sW r) + 6 * (4096 - m_at t154) + 4 * (600 - (r.length + 1)) < (wt 3 + sW r) + 6 * (4096 - m_at t0) + 4 * (600 - (r.length + 1))
              have : wt 3 = 3 := rfl; have : wt 4 = 5 := rfl; omega
        · refine Ok_ife (Nat.lt_trans (lo_lt (C_t103.tk hT) _) (by decide)) (by decide) (fun q155 => ?_) (fun q155 => ?_)
          · refine Ok_bnc ?_
            try unfold b_X6_name
            refine Kp_look C_t103 hT (by omega) ?_
            refine Ok_ife (Nat.lt_trans (lo_lt (C_t103.tk hT) _) (by decide)) (by decide) (fun q => ?_) (fun q => absurd q155 q)
            refine Kp_child C_t103 I_n_t103.1 I_n_t103.2.1 I_n_t103.2.2.1 (by omega) (by omega) (by decide) (by decide) (fun t157 C_t157 X_t157 a_t157 b_t157 d_t157 w_t157 u_t157 v_t157 j_t157 l_t157 => ?_)
            have e_t157 := C_t157.2.2.2.1
            rw [a_t103] at a_t157
            rw [b_t103] at b_t157
            rw [d_t103] at d_t157
            rw [w_t103] at w_t157
            rw [u_t103] at u_t157
            rw [v_t103] at v_t157
            clear d_t103 w_t103 u_t103 v_t103 e_t103 a_t103
            have I_n_t157 := I_n_t103.chd X_t157 j_t157
            have f_n_t157 : Fz t157 n := j_t157.2.2.2.2.1
            have I_m_mdt103_t157 : Nq t157 (m_md t103) := Nq.chn j_t157 (by omega) I_n_t103 (by decide)
            have u_m_mdt103_t157 : Up t157 (m_md t103) := Or.inl j_t157.2.1
            have la_n_t157 : m_la t157 n = (m_md t103) + 1 := j_t157.2.2.2.2.2.1
            have wl_n_t157 : m_wh t157 (m_md t103) = 5 := j_t157.1
            have y9_t158 : m_at t157 = m_at t0 + 1 → lo t157 (m_at t157) = lo t0 (m_at t0 + 1) := fun h => lo_2 C_t157 C_t0 h
            have z_t158 : m_at t157 < m_ct t157 := lo_ne (Nat.ne_of_gt (show 0 < lo t157 (m_at t157) from by omega))
            refine Kp_at C_t157 (fun t158 C_t158 X_t158 a_t158 b_t158 d_t158 w_t158 u_t158 v_t158 j_t158 l_t158 => ?_)
            have e_t158 := C_t158.2.2.2.1
            rw [a_t157] at a_t158
            rw [b_t157] at b_t158
            rw [d_t157] at d_t158
            rw [w_t157] at w_t158
            rw [u_t157] at u_t158
            rw [v_t157] at v_t158
            rw [a_t157, e_t157] at z_t158
            clear d_t157 w_t157 u_t157 v_t157 e_t157 a_t157 b_t157
            have I_n_t158 := I_n_t157.flat X_t158
            have f_n_t158 := f_n_t157.ex I_n_t157 (X_t158 0)
            have I_m_mdt103_t158 := I_m_mdt103_t157.flat X_t158
            have u_m_mdt103_t158 := u_m_mdt103_t157.ex I_m_mdt103_t157 (X_t158 0)
            have la_n_t158 : m_la t158 n = (m_md t103) + 1 := by rw [j_t158.2.2.1]; exact la_n_t157
            have wl_n_t158 : m_wh t158 ((m_md t103)) = 5 := by rw [j_t158.1]; exact wl_n_t157
            clear la_n_t157 wl_n_t157
            refine Ok_ret (show Ok _ _ _ from ?_)
            refine Kp_push C_t158 (by omega) (fun t159 C_t159 X_t159 a_t159 b_t159 d_t159 w_t159 u_t159 v_t159 j_t159 l_t159 => ?_)
            have e_t159 := C_t159.2.2.2.1
            rw [a_t158] at a_t159
            rw [b_t158] at b_t159
            rw [d_t158] at d_t159
            rw [w_t158] at w_t159
            rw [u_t158] at u_t159
            rw [v_t158] at v_t159
            clear d_t158 w_t158 u_t158 v_t158 e_t158 a_t158 b_t158
            have I_n_t159 := I_n_t158.flat X_t159
            have f_n_t159 := f_n_t158.ex I_n_t158 (X_t159 0)
            have I_m_mdt103_t159 := I_m_mdt103_t158.flat X_t159
            have u_m_mdt103_t159 := u_m_mdt103_t158.ex I_m_mdt103_t158 (X_t159 0)
            have la_n_t159 : m_la t159 n = (m_md t103) + 1 := by rw [j_t159.2.2.1]; exact la_n_t158
            have wl_n_t159 : m_wh t159 ((m_md t103)) = 5 := by rw [j_t159.1]; exact wl_n_t158
            clear la_n_t158 wl_n_t158
            refine Ok_ret (show Ok _ _ _ from ?_)
            refine Ok_ret (show Ok _ _ _ from ?_)
            refine Hv_mk (Kv_c (x := (5, n, t)) rfl (Kv_c (x := (4, n, t)) rfl hK)) (C_t159.1.2.2.2.2.2.2 hTt) C_t159 hT (by omega) (by omega) (by omega) ?_ ?_ ?_ (by omega) ?_ ?_ ?_
            · exact ⟨(Io_n (by decide) (show t < 4096 from by omega) I_n_t159.1 I_n_t159.2.1 I_n_t159.2.2.1 (fun q => absurd q (by decide)) (fun q => absurd q (by decide)) I_n_t159.2.2.2), (Nd_5 Mo_nil (Or.inr (N5_mk f_n_t159 (Ab_none rfl) la_n_t159 wl_n_t159 (Or.inl (by decide))))), ⟨(Io_n (by decide) (show t < 4096 from by omega) I_n_t159.1 I_n_t159.2.1 I_n_t159.2.2.1 (fun q => absurd q (by decide)) (fun q => absurd q (by decide)) I_n_t159.2.2.2), (Nd_A (by decide) (Mo_cons (fun q => show n ≤ n from by omega) Mo_nil) (Or.inl f_n_t159)), Stk_step (N := n) (pop := (3, n, t)) (new := [(4, n, t), (5, n, t)]) F0 C_t159.1.to2 (fun (h : nk 3 = false) => absurd h (by decide)) (fun q _ h => h (3, n, t) rfl) (fun _ => rfl) (fun y hy hk => ⟨rfl, (Mo_cons (fun q => show n ≤ n from by omega) (Mo_cons (fun q => show n ≤ n from by omega) Mo_nil)) y hy hk⟩) (fun _ => Or.inl f_n_t159) (fun (h : 3 = 18) => absurd h (by decide)) (fun (h : 3 = 41 ∨ 3 = 42 ∨ 3 = 43) => absurd h (by decide)) r [] (fun y hy => absurd hy List.not_mem_nil) hS⟩⟩
            · exact (Aj_up (x := (5, n, t)) (Aj_sub (y := (4, n, t)) hJ (Nat.le_of_ble_eq_true rfl)) (Or.inr (Nat.le_of_ble_eq_true rfl)))
            · show m_dp t159 = (dlt 5 + (dlt 4 + sD r))
              have : dlt 3 = 0 := rfl; have : dlt 4 = 0 := rfl; have : dlt 5 = 0 := rfl; omega
            · show m_rw t159 = (rho 5 + (rho 4 + sR r))
              have : rho 3 = 0 := rfl; have : rho 4 = 0 := rfl; have : rho 5 = 0 := rfl; omega
            · show m_md t159 + (mu7 5 + (mu7 4 + sM r)) ≤ 3 * m_at t159 + 7 * (r.length + 1 + 1) + 10
              have : mu7 3 = 5 := rfl; have : mu7 4 = 7 := rfl; have : mu7 5 = 7 := rfl; omega
            · show (wt 5 + (wt 4 + sW r)) + 6 * (4096 - m_at t159) + 4 * (600 - (r.length + 1 + 1)) < (wt 3 + sW r) + 6 * (4096 - m_at t0) + 4 * (600 - (r.length + 1))
              have : wt 3 = 3 := rfl; have : wt 4 = 5 := rfl; have : wt 5 = 5 := rfl; omega
          · refine Ok_ife (Nat.lt_trans (lo_lt (C_t103.tk hT) _) (by decide)) (by decide) (fun q160 => ?_) (fun q160 => ?_)
            · refine Kp_child C_t103 I_n_t103.1 I_n_t103.2.1 I_n_t103.2.2.1 (by omega) (by omega) (by decide) (by decide) (fun t161 C_t161 X_t161 a_t161 b_t161 d_t161 w_t161 u_t161 v_t161 j_t161 l_t161 => ?_)
              have e_t161 := C_t161.2.2.2.1
              rw [a_t103] at a_t161
              rw [b_t103] at b_t161
              rw [d_t103] at d_t161
              rw [w_t103] at w_t161
              rw [u_t103] at u_t161
              rw [v_t103] at v_t161
              clear d_t103 w_t103 u_t103 v_t103 e_t103 a_t103
              have I_n_t161 := I_n_t103.chd X_t161 j_t161
              have f_n_t161 : Fz t161 n := j_t161.2.2.2.2.1
              have I_m_mdt103_t161 : Nq t161 (m_md t103) := Nq.chn j_t161 (by omega) I_n_t103 (by decide)
              have u_m_mdt103_t161 : Up t161 (m_md t103) := Or.inl j_t161.2.1
              have la_n_t161 : m_la t161 n = (m_md t103) + 1 := j_t161.2.2.2.2.2.1
              have wl_n_t161 : m_wh t161 (m_md t103) = 89 := j_t161.1
              refine Kp_more C_t161 (by omega) (by omega) (fun t162 C_t162 X_t162 a_t162 b_t162 d_t162 w_t162 u_t162 v_t162 j_t162 l_t162 => ?_)
              have e_t162 := C_t162.2.2.2.1
              rcases w_t162 with ⟨w_t162, y_t162⟩ | ⟨w_t162, wb_t162⟩
              · rw [a_t161] at a_t162
                rw [b_t161] at b_t162
                rw [d_t161] at d_t162
                rw [w_t161] at w_t162
                rw [u_t161] at u_t162
                rw [v_t161] at v_t162
                rw [d_t162] at y_t162
                clear d_t161 w_t161 u_t161 v_t161 e_t161 a_t161 b_t161
                have I_n_t162 := I_n_t161.flat X_t162
                have f_n_t162 := f_n_t161.ex I_n_t161 (X_t162 0)
                have I_m_mdt103_t162 := I_m_mdt103_t161.flat X_t162
                have u_m_mdt103_t162 := u_m_mdt103_t161.ex I_m_mdt103_t161 (X_t162 0)
                have la_n_t162 : m_la t162 n = (m_md t103) + 1 := by rw [j_t162.2.2.1]; exact la_n_t161
                have wl_n_t162 : m_wh t162 ((m_md t103)) = 89 := by rw [j_t162.1]; exact wl_n_t161
                clear la_n_t161 wl_n_t161
                have y9_t163 : m_at t162 = m_at t0 + 1 → lo t162 (m_at t162) = lo t0 (m_at t0 + 1) := fun h => lo_2 C_t162 C_t0 h
                have z_t163 : m_at t162 < m_ct t162 := lo_ne (Nat.ne_of_gt (show 0 < lo t162 (m_at t162) from by omega))
                refine Kp_at C_t162 (fun t163 C_t163 X_t163 a_t163 b_t163 d_t163 w_t163 u_t163 v_t163 j_t163 l_t163 => ?_)
                have e_t163 := C_t163.2.2.2.1
                rw [a_t162] at a_t163
                rw [b_t162] at b_t163
                rw [d_t162] at d_t163
                rw [w_t162] at w_t163
                rw [u_t162] at u_t163
                rw [v_t162] at v_t163
                rw [a_t162, e_t162] at z_t163
                clear d_t162 w_t162 u_t162 v_t162 e_t162 a_t162 b_t162
                have I_n_t163 := I_n_t162.flat X_t163
                have f_n_t163 := f_n_t162.ex I_n_t162 (X_t163 0)
                have I_m_mdt103_t163 := I_m_mdt103_t162.flat X_t163
                have u_m_mdt103_t163 := u_m_mdt103_t162.ex I_m_mdt103_t162 (X_t163 0)
                have la_n_t163 : m_la t163 n = (m_md t103) + 1 := by rw [j_t163.2.2.1]; exact la_n_t162
                have wl_n_t163 : m_wh t163 ((m_md t103)) = 89 := by rw [j_t163.1]; exact wl_n_t162
                clear la_n_t162 wl_n_t162
                refine Kp_push C_t163 (by omega) (fun t164 C_t164 X_t164 a_t164 b_t164 d_t164 w_t164 u_t164 v_t164 j_t164 l_t164 => ?_)
                have e_t164 := C_t164.2.2.2.1
                rw [a_t163] at a_t164
                rw [b_t163] at b_t164
                rw [d_t163] at d_t164
                rw [w_t163] at w_t164
                rw [u_t163] at u_t164
                rw [v_t163] at v_t164
                clear d_t163 w_t163 u_t163 v_t163 e_t163 a_t163 b_t163
                have I_n_t164 := I_n_t163.flat X_t164
                have f_n_t164 := f_n_t163.ex I_n_t163 (X_t164 0)
                have I_m_mdt103_t164 := I_m_mdt103_t163.flat X_t164
                have u_m_mdt103_t164 := u_m_mdt103_t163.ex I_m_mdt103_t163 (X_t164 0)
                have la_n_t164 : m_la t164 n = (m_md t103) + 1 := by rw [j_t164.2.2.1]; exact la_n_t163
                have wl_n_t164 : m_wh t164 ((m_md t103)) = 89 := by rw [j_t164.1]; exact wl_n_t163
                clear la_n_t163 wl_n_t163
                refine Ok_bnc ?_
                try unfold b_X6_expression
                refine Kp_push C_t164 (by omega) (fun t166 C_t166 X_t166 a_t166 b_t166 d_t166 w_t166 u_t166 v_t166 j_t166 l_t166 => ?_)
                have e_t166 := C_t166.2.2.2.1
                rw [a_t164] at a_t166
                rw [b_t164] at b_t166
                rw [d_t164] at d_t166
                rw [w_t164] at w_t166
                rw [u_t164] at u_t166
                rw [v_t164] at v_t166
                clear d_t164 w_t164 u_t164 v_t164 e_t164 a_t164 b_t164
                have I_n_t166 := I_n_t164.flat X_t166
                have f_n_t166 := f_n_t164.ex I_n_t164 (X_t166 0)
                have I_m_mdt103_t166 := I_m_mdt103_t164.flat X_t166
                have u_m_mdt103_t166 := u_m_mdt103_t164.ex I_m_mdt103_t164 (X_t166 0)
                have la_n_t166 : m_la t166 n = (m_md t103) + 1 := by rw [j_t166.2.2.1]; exact la_n_t164
                have wl_n_t166 : m_wh t166 ((m_md t103)) = 89 := by rw [j_t166.1]; exact wl_n_t164
                clear la_n_t164 wl_n_t164
                refine Kp_push C_t166 (by omega) (fun t167 C_t167 X_t167 a_t167 b_t167 d_t167 w_t167 u_t167 v_t167 j_t167 l_t167 => ?_)
                have e_t167 := C_t167.2.2.2.1
                rw [a_t166] at a_t167
                rw [b_t166] at b_t167
                rw [d_t166] at d_t167
                rw [w_t166] at w_t167
                rw [u_t166] at u_t167
                rw [v_t166] at v_t167
                clear d_t166 w_t166 u_t166 v_t166 e_t166 a_t166 b_t166
                have I_n_t167 := I_n_t166.flat X_t167
                have f_n_t167 := f_n_t166.ex I_n_t166 (X_t167 0)
                have I_m_mdt103_t167 := I_m_mdt103_t166.flat X_t167
                have u_m_mdt103_t167 := u_m_mdt103_t166.ex I_m_mdt103_t166 (X_t167 0)
                have la_n_t167 : m_la t167 n = (m_md t103) + 1 := by rw [j_t167.2.2.1]; exact la_n_t166
                have wl_n_t167 : m_wh t167 ((m_md t103)) = 89 := by rw [j_t167.1]; exact wl_n_t166
                clear la_n_t166 wl_n_t166
                refine Ok_ret (show Ok _ _ _ from ?_)
                refine Ok_ret (show Ok _ _ _ from ?_)
                refine Ok_ret (show Ok _ _ _ from ?_)
                refine Hv_mk (Kv_c (x := (3, m_md t103, 0)) rfl (Kv_c (x := (2, m_md t103, 0 ||| (1 * 256))) rfl (Kv_c (x := (8, 79, 0)) rfl (Kv_c (x := (4, n, t)) rfl hK)))) (C_t167.1.2.2.2.2.2.2 hTt) C_t167 hT (by omega) (by omega) (by omega) ?_ ?_ ?_ (by omega) ?_ ?_ ?_
                · exact ⟨(Io_n (by decide) (by decide) I_m_mdt103_t167.1 I_m_mdt103_t167.2.1 I_m_mdt103_t167.2.2.1 (fun q => absurd q (by decide)) (fun q => absurd q (by decide)) I_m_mdt103_t167.2.2.2), (Nd_0 (by decide) Mo_nil), ⟨(Io_2 (by have := or_256 (b := 1) (show 0 < 256 from by omega); omega) (by have := or_256 (b := 1) (show 0 < 256 from by omega); omega) (by have := or_256 (b := 1) (show 0 < 256 from by omega); omega) I_m_mdt103_t167.1 I_m_mdt103_t167.2.1 I_m_mdt103_t167.2.2.1 I_m_mdt103_t167.2.2.2), (Nd_A (by decide) (Mo_cons (fun q => show m_md t103 ≤ m_md t103 from by omega) Mo_nil) (Or.inr ⟨(3, m_md t103, 0), List.mem_cons_self, rfl, Or.inl rfl⟩)), ⟨(Io_78 (by decide) (by decide) (by decide)), (Nd_x (by decide)), ⟨(Io_n (by decide) (show t < 4096 from by omega) I_n_t167.1 I_n_t167.2.1 I_n_t167.2.2.1 (fun q => absurd q (by decide)) (fun q => absurd q (by decide)) I_n_t167.2.2.2), (Nd_A (by decide) (Mo_cons (fun q => absurd (show nk 8 = true from q) (by decide)) (Mo_cons (fun q => show n ≤ m_md t103 from by omega) (Mo_cons (fun q => show n ≤ m_md t103 from by omega) Mo_nil))) (Or.inl f_n_t167)), Stk_step (N := n) (pop := (3, n, t)) (new := [(4, n, t), (8, 79, 0), (2, m_md t103, 0 ||| (1 * 256)), (3, m_md t103, 0)]) F0 C_t167.1.to2 (fun (h : nk 3 = false) => absurd h (by decide)) (fun q _ h => h (3, n, t) rfl) (fun _ => rfl) (fun y hy hk => ⟨rfl, (Mo_cons (fun q => show n ≤ n from by omega) (Mo_cons (fun q => absurd (show nk 8 = true from q) (by decide)) (Mo_cons (fun q => show n ≤ m_md t103 from by omega) (Mo_cons (fun q => show n ≤ m_md t103 from by omega) Mo_nil)))) y hy hk⟩) (fun _ => Or.inl f_n_t167) (fun (h : 3 = 18) => absurd h (by decide)) (fun (h : 3 = 41 ∨ 3 = 42 ∨ 3 = 43) => absurd h (by decide)) r [] (fun y hy => absurd hy List.not_mem_nil) hS⟩⟩⟩⟩
                · exact (Aj_up (x := (3, m_md t103, 0)) (Aj_up (x := (2, m_md t103, 0 ||| (1 * 256))) (Aj_up (x := (8, 79, 0)) (Aj_sub (y := (4, n, t)) hJ (Nat.le_of_ble_eq_true rfl)) (Or.inr (Nat.le_of_ble_eq_true rfl))) (Or.inl (Nat.le_of_ble_eq_true rfl))) (Or.inr (show 2 < 9 - (0 ||| (1 * 256)) / 256 from by have := or_256 (b := 1) (show 0 < 256 from by omega); omega)))
                · show m_dp t167 = (dlt 3 + (dlt 2 + (dlt 8 + (dlt 4 + sD r))))
                  have : dlt 2 = 0 := rfl; have : dlt 3 = 0 := rfl; have : dlt 4 = 0 := rfl; have : dlt 8 = 1 := rfl; omega
                · show m_rw t167 = (rho 3 + (rho 2 + (rho 8 + (rho 4 + sR r))))
                  have : rho 2 = 0 := rfl; have : rho 3 = 0 := rfl; have : rho 4 = 0 := rfl; have : rho 8 = 0 := rfl; omega
                · show m_md t167 + (mu7 3 + (mu7 2 + (mu7 8 + (mu7 4 + sM r)))) ≤ 3 * m_at t167 + 7 * (r.length + 1 + 1 + 1 + 1) + 10
                  have : mu7 2 = 7 := rfl; have : mu7 3 = 5 := rfl; have : mu7 4 = 7 := rfl; have : mu7 8 = 4 := rfl; omega
                · show (wt 3 + (wt 2 + (wt 8 + (wt 4 + sW r)))) + 6 * (4096 - m_at t167) + 4 * (600 - (r.length + 1 + 1 + 1 + 1)) < (wt 3 + sW r) + 6 * (4096 - m_at t0) + 4 * (600 - (r.length + 1))
                  have : wt 2 = 5 := rfl; have : wt 3 = 3 := rfl; have : wt 4 = 5 := rfl; have : wt 8 = 0 := rfl; omega
              · have w_t162 := Nat.pos_of_ne_zero w_t162
                have I_n_t162 := I_n_t161.flat X_t162
                have f_n_t162 := f_n_t161.ex I_n_t161 (X_t162 0)
                have I_m_mdt103_t162 := I_m_mdt103_t161.flat X_t162
                have u_m_mdt103_t162 := u_m_mdt103_t161.ex I_m_mdt103_t161 (X_t162 0)
                have la_n_t162 : m_la t162 n = (m_md t103) + 1 := by rw [j_t162.2.2.1]; exact la_n_t161
                have wl_n_t162 : m_wh t162 ((m_md t103)) = 89 := by rw [j_t162.1]; exact wl_n_t161
                clear la_n_t161 wl_n_t161
                refine Kp_at C_t162 (fun t168 C_t168 X_t168 a_t168 b_t168 d_t168 w_t168 u_t168 v_t168 j_t168 l_t168 => ?_)
                have e_t168 := C_t168.2.2.2.1
                have I_n_t168 := I_n_t162.flat X_t168
                have f_n_t168 := f_n_t162.ex I_n_t162 (X_t168 0)
                have I_m_mdt103_t168 := I_m_mdt103_t162.flat X_t168
                have u_m_mdt103_t168 := u_m_mdt103_t162.ex I_m_mdt103_t162 (X_t168 0)
                have la_n_t168 : m_la t168 n = (m_md t103) + 1 := by rw [j_t168.2.2.1]; exact la_n_t162
                have wl_n_t168 : m_wh t168 ((m_md t103)) = 89 := by rw [j_t168.1]; exact wl_n_t162
                clear la_n_t162 wl_n_t162
                refine Kp_push C_t168 (by omega) (fun t169 C_t169 X_t169 a_t169 b_t169 d_t169 w_t169 u_t169 v_t169 j_t169 l_t169 => ?_)
                have e_t169 := C_t169.2.2.2.1
                have I_n_t169 := I_n_t168.flat X_t169
                have f_n_t169 := f_n_t168.ex I_n_t168 (X_t169 0)
                have I_m_mdt103_t169 := I_m_mdt103_t168.flat X_t169
                have u_m_mdt103_t169 := u_m_mdt103_t168.ex I_m_mdt103_t168 (X_t169 0)
                have la_n_t169 : m_la t169 n = (m_md t103) + 1 := by rw [j_t169.2.2.1]; exact la_n_t168
                have wl_n_t169 : m_wh t169 ((m_md t103)) = 89 := by rw [j_t169.1]; exact wl_n_t168
                clear la_n_t168 wl_n_t168
                refine Ok_bnc ?_
                try unfold b_X6_expression
                refine Kp_push C_t169 (by omega) (fun t171 C_t171 X_t171 a_t171 b_t171 d_t171 w_t171 u_t171 v_t171 j_t171 l_t171 => ?_)
                have e_t171 := C_t171.2.2.2.1
                have I_n_t171 := I_n_t169.flat X_t171
                have f_n_t171 := f_n_t169.ex I_n_t169 (X_t171 0)
                have I_m_mdt103_t171 := I_m_mdt103_t169.flat X_t171
                have u_m_mdt103_t171 := u_m_mdt103_t169.ex I_m_mdt103_t169 (X_t171 0)
                have la_n_t171 : m_la t171 n = (m_md t103) + 1 := by rw [j_t171.2.2.1]; exact la_n_t169
                have wl_n_t171 : m_wh t171 ((m_md t103)) = 89 := by rw [j_t171.1]; exact wl_n_t169
                clear la_n_t169 wl_n_t169
                refine Kp_push C_t171 (by omega) (fun t172 C_t172 X_t172 a_t172 b_t172 d_t172 w_t172 u_t172 v_t172 j_t172 l_t172 => ?_)
                have e_t172 := C_t172.2.2.2.1
                have I_n_t172 := I_n_t171.flat X_t172
                have f_n_t172 := f_n_t171.ex I_n_t171 (X_t172 0)
                have I_m_mdt103_t172 := I_m_mdt103_t171.flat X_t172
                have u_m_mdt103_t172 := u_m_mdt103_t171.ex I_m_mdt103_t171 (X_t172 0)
                have la_n_t172 : m_la t172 n = (m_md t103) + 1 := by rw [j_t172.2.2.1]; exact la_n_t171
                have wl_n_t172 : m_wh t172 ((m_md t103)) = 89 := by rw [j_t172.1]; exact wl_n_t171
                clear la_n_t171 wl_n_t171
                refine Ok_ret (show Ok _ _ _ from ?_)
                refine Ok_ret (show Ok _ _ _ from ?_)
                refine Ok_ret (show Ok _ _ _ from ?_)
                exact Or.inl ⟨Nat.ne_of_gt (show 0 < m_wr t172 from by omega), by omega, by omega, C_t172.2.2.2.2.2, by omega⟩
            · refine Ok_ife (Nat.lt_trans (lo_lt (C_t103.tk hT) _) (by decide)) (by decide) (fun q173 => ?_) (fun q173 => ?_)
              · refine Kp_child C_t103 I_n_t103.1 I_n_t103.2.1 I_n_t103.2.2.1 (by omega) (by omega) (by decide) (by decide) (fun t174 C_t174 X_t174 a_t174 b_t174 d_t174 w_t174 u_t174 v_t174 j_t174 l_t174 => ?_)
                have e_t174 := C_t174.2.2.2.1
                rw [a_t103] at a_t174
                rw [b_t103] at b_t174
                rw [d_t103] at d_t174
                rw [w_t103] at w_t174
                rw [u_t103] at u_t174
                rw [v_t103] at v_t174
                clear d_t103 w_t103 u_t103 v_t103 e_t103 a_t103
                have I_n_t174 := I_n_t103.chd X_t174 j_t174
                have f_n_t174 : Fz t174 n := j_t174.2.2.2.2.1
                have I_m_mdt103_t174 : Nq t174 (m_md t103) := Nq.chn j_t174 (by omega) I_n_t103 (by decide)
                have u_m_mdt103_t174 : Up t174 (m_md t103) := Or.inl j_t174.2.1
                have la_n_t174 : m_la t174 n = (m_md t103) + 1 := j_t174.2.2.2.2.2.1
                have wl_n_t174 : m_wh t174 (m_md t103) = 29 := j_t174.1
                refine Kp_more C_t174 (by omega) (by omega) (fun t175 C_t175 X_t175 a_t175 b_t175 d_t175 w_t175 u_t175 v_t175 j_t175 l_t175 => ?_)
                have e_t175 := C_t175.2.2.2.1
                rcases w_t175 with ⟨w_t175, y_t175⟩ | ⟨w_t175, wb_t175⟩
                · rw [a_t174] at a_t175
                  rw [b_t174] at b_t175
                  rw [d_t174] at d_t175
                  rw [w_t174] at w_t175
                  rw [u_t174] at u_t175
                  rw [v_t174] at v_t175
                  rw [d_t175] at y_t175
                  clear d_t174 w_t174 u_t174 v_t174 e_t174 a_t174 b_t174
                  have I_n_t175 := I_n_t174.flat X_t175
                  have f_n_t175 := f_n_t174.ex I_n_t174 (X_t175 0)
                  have I_m_mdt103_t175 := I_m_mdt103_t174.flat X_t175
                  have u_m_mdt103_t175 := u_m_mdt103_t174.ex I_m_mdt103_t174 (X_t175 0)
                  have la_n_t175 : m_la t175 n = (m_md t103) + 1 := by rw [j_t175.2.2.1]; exact la_n_t174
                  have wl_n_t175 : m_wh t175 ((m_md t103)) = 29 := by rw [j_t175.1]; exact wl_n_t174
                  clear la_n_t174 wl_n_t174
                  have y9_t176 : m_at t175 = m_at t0 + 1 → lo t175 (m_at t175) = lo t0 (m_at t0 + 1) := fun h => lo_2 C_t175 C_t0 h
                  have z_t176 : m_at t175 < m_ct t175 := lo_ne (Nat.ne_of_gt (show 0 < lo t175 (m_at t175) from by omega))
                  refine Kp_at C_t175 (fun t176 C_t176 X_t176 a_t176 b_t176 d_t176 w_t176 u_t176 v_t176 j_t176 l_t176 => ?_)
                  have e_t176 := C_t176.2.2.2.1
                  rw [a_t175] at a_t176
                  rw [b_t175] at b_t176
                  rw [d_t175] at d_t176
                  rw [w_t175] at w_t176
                  rw [u_t175] at u_t176
                  rw [v_t175] at v_t176
                  rw [a_t175, e_t175] at z_t176
                  clear d_t175 w_t175 u_t175 v_t175 e_t175 a_t175 b_t175
                  have I_n_t176 := I_n_t175.flat X_t176
                  have f_n_t176 := f_n_t175.ex I_n_t175 (X_t176 0)
                  have I_m_mdt103_t176 := I_m_mdt103_t175.flat X_t176
                  have u_m_mdt103_t176 := u_m_mdt103_t175.ex I_m_mdt103_t175 (X_t176 0)
                  have la_n_t176 : m_la t176 n = (m_md t103) + 1 := by rw [j_t176.2.2.1]; exact la_n_t175
                  have wl_n_t176 : m_wh t176 ((m_md t103)) = 29 := by rw [j_t176.1]; exact wl_n_t175
                  clear la_n_t175 wl_n_t175
                  refine Kp_push C_t176 (by omega) (fun t177 C_t177 X_t177 a_t177 b_t177 d_t177 w_t177 u_t177 v_t177 j_t177 l_t177 => ?_)
                  have e_t177 := C_t177.2.2.2.1
                  rw [a_t176] at a_t177
                  rw [b_t176] at b_t177
                  rw [d_t176] at d_t177
                  rw [w_t176] at w_t177
                  rw [u_t176] at u_t177
                  rw [v_t176] at v_t177
                  clear d_t176 w_t176 u_t176 v_t176 e_t176 a_t176 b_t176
                  have I_n_t177 := I_n_t176.flat X_t177
                  have f_n_t177 := f_n_t176.ex I_n_t176 (X_t177 0)
                  have I_m_mdt103_t177 := I_m_mdt103_t176.flat X_t177
                  have u_m_mdt103_t177 := u_m_mdt103_t176.ex I_m_mdt103_t176 (X_t177 0)
                  have la_n_t177 : m_la t177 n = (m_md t103) + 1 := by rw [j_t177.2.2.1]; exact la_n_t176
                  have wl_n_t177 : m_wh t177 ((m_md t103)) = 29 := by rw [j_t177.1]; exact wl_n_t176
                  clear la_n_t176 wl_n_t176
                  refine Kp_push C_t177 (by omega) (fun t178 C_t178 X_t178 a_t178 b_t178 d_t178 w_t178 u_t178 v_t178 j_t178 l_t178 => ?_)
                  have e_t178 := C_t178.2.2.2.1
                  rw [a_t177] at a_t178
                  rw [b_t177] at b_t178
                  rw [d_t177] at d_t178
                  rw [w_t177] at w_t178
                  rw [u_t177] at u_t178
                  rw [v_t177] at v_t178
                  clear d_t177 w_t177 u_t177 v_t177 e_t177 a_t177 b_t177
                  have I_n_t178 := I_n_t177.flat X_t178
                  have f_n_t178 := f_n_t177.ex I_n_t177 (X_t178 0)
                  have I_m_mdt103_t178 := I_m_mdt103_t177.flat X_t178
                  have u_m_mdt103_t178 := u_m_mdt103_t177.ex I_m_mdt103_t177 (X_t178 0)
                  have la_n_t178 : m_la t178 n = (m_md t103) + 1 := by rw [j_t178.2.2.1]; exact la_n_t177
                  have wl_n_t178 : m_wh t178 ((m_md t103)) = 29 := by rw [j_t178.1]; exact wl_n_t177
                  clear la_n_t177 wl_n_t177
                  refine Ok_ret (show Ok _ _ _ from ?_)
                  refine Ok_ret (show Ok _ _ _ from ?_)
                  refine Hv_mk (Kv_c (x := (21, m_md t103, 0)) rfl (Kv_c (x := (20, m_md t103, 0)) rfl (Kv_c (x := (4, n, t)) rfl hK))) (C_t178.1.2.2.2.2.2.2 hTt) C_t178 hT (by omega) (by omega) (by omega) ?_ ?_ ?_ (by omega) ?_ ?_ ?_
                  · exact ⟨(Io_n (by decide) (by decide) I_m_mdt103_t178.1 I_m_mdt103_t178.2.1 I_m_mdt103_t178.2.2.1 (fun q => absurd q (by decide)) (fun q => absurd q (by decide)) I_m_mdt103_t178.2.2.2), (Nd_0 (by decide) Mo_nil), ⟨(Io_n (by decide) (by decide) I_m_mdt103_t178.1 I_m_mdt103_t178.2.1 I_m_mdt103_t178.2.2.1 (fun q => absurd q (by decide)) (fun q => absurd q (by decide)) I_m_mdt103_t178.2.2.2), (Nd_0 (by decide) (Mo_cons (fun q => show m_md t103 ≤ m_md t103 from by omega) Mo_nil)), ⟨(Io_n (by decide) (show t < 4096 from by omega) I_n_t178.1 I_n_t178.2.1 I_n_t178.2.2.1 (fun q => absurd q (by decide)) (fun q => absurd q (by decide)) I_n_t178.2.2.2), (Nd_A (by decide) (Mo_cons (fun q => show n ≤ m_md t103 from by omega) (Mo_cons (fun q => show n ≤ m_md t103 from by omega) Mo_nil)) (Or.inl f_n_t178)), Stk_step (N := n) (pop := (3, n, t)) (new := [(4, n, t), (20, m_md t103, 0), (21, m_md t103, 0)]) F0 C_t178.1.to2 (fun (h : nk 3 = false) => absurd h (by decide)) (fun q _ h => h (3, n, t) rfl) (fun _ => rfl) (fun y hy hk => ⟨rfl, (Mo_cons (fun q => show n ≤ n from by omega) (Mo_cons (fun q => show n ≤ m_md t103 from by omega) (Mo_cons (fun q => show n ≤ m_md t103 from by omega) Mo_nil))) y hy hk⟩) (fun _ => Or.inl f_n_t178) (fun (h : 3 = 18) => absurd h (by decide)) (fun (h : 3 = 41 ∨ 3 = 42 ∨ 3 = 43) => absurd h (by decide)) r [] (fun y hy => absurd hy List.not_mem_nil) hS⟩⟩⟩
                  · exact (Aj_up (x := (21, m_md t103, 0)) (Aj_up (x := (20, m_md t103, 0)) (Aj_sub (y := (4, n, t)) hJ (Nat.le_of_ble_eq_true rfl)) (Or.inr (Nat.le_of_ble_eq_true rfl))) (Or.inl (Nat.le_of_ble_eq_true rfl)))
                  · show m_dp t178 = (dlt 21 + (dlt 20 + (dlt 4 + sD r)))
                    have : dlt 20 = 1 := rfl; have : dlt 21 = 0 := rfl; have : dlt 3 = 0 := rfl; have : dlt 4 = 0 := rfl; omega
                  · show m_rw t178 = (rho 21 + (rho 20 + (rho 4 + sR r)))
                    have : rho 20 = 0 := rfl; have : rho 21 = 0 := rfl; have : rho 3 = 0 := rfl; have : rho 4 = 0 := rfl; omega
                  · show m_md t178 + (mu7 21 + (mu7 20 + (mu7 4 + sM r))) ≤ 3 * m_at t178 + 7 * (r.length + 1 + 1 + 1) + 10
                    have : mu7 20 = 7 := rfl; have : mu7 21 = 3 := rfl; have : mu7 3 = 5 := rfl; have : mu7 4 = 7 := rfl; omega
                  · show (wt 21 + (wt 20 + (wt 4 + sW r))) + 6 * (4096 - m_at t178) + 4 * (600 - (r.length + 1 + 1 + 1)) < (wt 3 + sW r) + 6 * (4096 - m_at t0) + 4 * (600 - (r.length + 1))
                    have : wt 20 = 5 := rfl; have : wt 21 = 2 := rfl; have : wt 3 = 3 := rfl; have : wt 4 = 5 := rfl; omega
                · have w_t175 := Nat.pos_of_ne_zero w_t175
                  have I_n_t175 := I_n_t174.flat X_t175
                  have f_n_t175 := f_n_t174.ex I_n_t174 (X_t175 0)
                  have I_m_mdt103_t175 := I_m_mdt103_t174.flat X_t175
                  have u_m_mdt103_t175 := u_m_mdt103_t174.ex I_m_mdt103_t174 (X_t175 0)
                  have la_n_t175 : m_la t175 n = (m_md t103) + 1 := by rw [j_t175.2.2.1]; exact la_n_t174
                  have wl_n_t175 : m_wh t175 ((m_md t103)) = 29 := by rw [j_t175.1]; exact wl_n_t174
                  clear la_n_t174 wl_n_t174
                  refine Kp_at C_t175 (fun t179 C_t179 X_t179 a_t179 b_t179 d_t179 w_t179 u_t179 v_t179 j_t179 l_t179 => ?_)
                  have e_t179 := C_t179.2.2.2.1
                  have I_n_t179 := I_n_t175.flat X_t179
                  have f_n_t179 := f_n_t175.ex I_n_t175 (X_t179 0)
                  have I_m_mdt103_t179 := I_m_mdt103_t175.flat X_t179
                  have u_m_mdt103_t179 := u_m_mdt103_t175.ex I_m_mdt103_t175 (X_t179 0)
                  have la_n_t179 : m_la t179 n = (m_md t103) + 1 := by rw [j_t179.2.2.1]; exact la_n_t175
                  have wl_n_t179 : m_wh t179 ((m_md t103)) = 29 := by rw [j_t179.1]; exact wl_n_t175
                  clear la_n_t175 wl_n_t175
                  refine Kp_push C_t179 (by omega) (fun t180 C_t180 X_t180 a_t180 b_t180 d_t180 w_t180 u_t180 v_t180 j_t180 l_t180 => ?_)
                  have e_t180 := C_t180.2.2.2.1
                  have I_n_t180 := I_n_t179.flat X_t180
                  have f_n_t180 := f_n_t179.ex I_n_t179 (X_t180 0)
                  have I_m_mdt103_t180 := I_m_mdt103_t179.flat X_t180
                  have u_m_mdt103_t180 := u_m_mdt103_t179.ex I_m_mdt103_t179 (X_t180 0)
                  have la_n_t180 : m_la t180 n = (m_md t103) + 1 := by rw [j_t180.2.2.1]; exact la_n_t179
                  have wl_n_t180 : m_wh t180 ((m_md t103)) = 29 := by rw [j_t180.1]; exact wl_n_t179
                  clear la_n_t179 wl_n_t179
                  refine Kp_push C_t180 (by omega) (fun t181 C_t181 X_t181 a_t181 b_t181 d_t181 w_t181 u_t181 v_t181 j_t181 l_t181 => ?_)
                  have e_t181 := C_t181.2.2.2.1
                  have I_n_t181 := I_n_t180.flat X_t181
                  have f_n_t181 := f_n_t180.ex I_n_t180 (X_t181 0)
                  have I_m_mdt103_t181 := I_m_mdt103_t180.flat X_t181
                  have u_m_mdt103_t181 := u_m_mdt103_t180.ex I_m_mdt103_t180 (X_t181 0)
                  have la_n_t181 : m_la t181 n = (m_md t103) + 1 := by rw [j_t181.2.2.1]; exact la_n_t180
                  have wl_n_t181 : m_wh t181 ((m_md t103)) = 29 := by rw [j_t181.1]; exact wl_n_t180
                  clear la_n_t180 wl_n_t180
                  refine Ok_ret (show Ok _ _ _ from ?_)
                  refine Ok_ret (show Ok _ _ _ from ?_)
                  exact Or.inl ⟨Nat.ne_of_gt (show 0 < m_wr t181 from by omega), by omega, by omega, C_t181.2.2.2.2.2, by omega⟩
              · refine Ok_ife (Nat.lt_trans (lo_lt (C_t103.tk hT) _) (by decide)) (by decide) (fun q182 => ?_) (fun q182 => ?_)
                · refine Kp_push C_t103 (by omega) (fun t183 C_t183 X_t183 a_t183 b_t183 d_t183 w_t183 u_t183 v_t183 j_t183 l_t183 => ?_)
                  have e_t183 := C_t183.2.2.2.1
                  rw [a_t103] at a_t183
                  rw [b_t103] at b_t183
                  rw [d_t103] at d_t183
                  rw [w_t103] at w_t183
                  rw [u_t103] at u_t183
                  rw [v_t103] at v_t183
                  clear d_t103 w_t103 u_t103 v_t103 e_t103 a_t103 b_t103
                  have I_n_t183 := I_n_t103.flat X_t183
                  refine Kp_push C_t183 (by omega) (fun t184 C_t184 X_t184 a_t184 b_t184 d_t184 w_t184 u_t184 v_t184 j_t184 l_t184 => ?_)
                  have e_t184 := C_t184.2.2.2.1
                  rw [a_t183] at a_t184
                  rw [b_t183] at b_t184
                  rw [d_t183] at d_t184
                  rw [w_t183] at w_t184
                  rw [u_t183] at u_t184
                  rw [v_t183] at v_t184
                  clear d_t183 w_t183 u_t183 v_t183 e_t183 a_t183 b_t183
                  have I_n_t184 := I_n_t183.flat X_t184
                  refine Ok_ret (show Ok _ _ _ from ?_)
                  refine Ok_ret (show Ok _ _ _ from ?_)
                  refine Hv_mk (Kv_c (x := (18, n, 1)) rfl (Kv_c (x := (5, n, t)) rfl (Kv_c (x := (4, n, t)) rfl hK))) (C_t184.1.2.2.2.2.2.2 hTt) C_t184 hT (by omega) (by omega) (by omega) ?_ ?_ ?_ (by omega) ?_ ?_ ?_
                  · exact ⟨(Io_n (by decide) (by decide) I_n_t184.1 I_n_t184.2.1 I_n_t184.2.2.1 (fun q => absurd q (by decide)) (fun q => absurd q (by decide)) I_n_t184.2.2.2), (Nd_0 (by decide) Mo_nil), ⟨(Io_n (by decide) (show t < 4096 from by omega) I_n_t184.1 I_n_t184.2.1 I_n_t184.2.2.1 (fun q => absurd q (by decide)) (fun q => absurd q (by decide)) I_n_t184.2.2.2), (Nd_5 (Mo_cons (fun q => show n ≤ n from by omega) Mo_nil) (Or.inl ⟨1, rfl⟩)), ⟨(Io_n (by decide) (show t < 4096 from by omega) I_n_t184.1 I_n_t184.2.1 I_n_t184.2.2.1 (fun q => absurd q (by decide)) (fun q => absurd q (by decide)) I_n_t184.2.2.2), (Nd_A (by decide) (Mo_cons (fun q => show n ≤ n from by omega) (Mo_cons (fun q => show n ≤ n from by omega) Mo_nil)) (Or.inr ⟨(18, n, 1), (List.mem_cons_of_mem _ List.mem_cons_self), rfl, Or.inr (Or.inl rfl)⟩)), Stk_step (N := n) (pop := (3, n, t)) (new := [(4, n, t), (5, n, t), (18, n, 1)]) F0 C_t184.1.to2 (fun (h : nk 3 = false) => absurd h (by decide)) (fun q _ h => h (3, n, t) rfl) (fun _ => rfl) (fun y hy hk => ⟨rfl, (Mo_cons (fun q => show n ≤ n from by omega) (Mo_cons (fun q => show n ≤ n from by omega) (Mo_cons (fun q => show n ≤ n from by omega) Mo_nil))) y hy hk⟩) (fun _ => Or.inr ⟨(18, n, 1), (List.mem_cons_of_mem _ (List.mem_cons_of_mem _ List.mem_cons_self)), rfl, Or.inr (Or.inl rfl)⟩) (fun (h : 3 = 18) => absurd h (by decide)) (fun (h : 3 = 41 ∨ 3 = 42 ∨ 3 = 43) => absurd h (by decide)) r [] (fun y hy => absurd hy List.not_mem_nil) hS⟩⟩⟩
                  · exact (Aj_up (x := (18, n, 1)) (Aj_up (x := (5, n, t)) (Aj_sub (y := (4, n, t)) hJ (Nat.le_of_ble_eq_true rfl)) (Or.inr (Nat.le_of_ble_eq_true rfl))) (Or.inr (Nat.le_of_ble_eq_true rfl)))
                  · show m_dp t184 = (dlt 18 + (dlt 5 + (dlt 4 + sD r)))
                    have : dlt 18 = 0 := rfl; have : dlt 3 = 0 := rfl; have : dlt 4 = 0 := rfl; have : dlt 5 = 0 := rfl; omega
                  · show m_rw t184 = (rho 18 + (rho 5 + (rho 4 + sR r)))
                    have : rho 18 = 0 := rfl; have : rho 3 = 0 := rfl; have : rho 4 = 0 := rfl; have : rho 5 = 0 := rfl; omega
                  · show m_md t184 + (mu7 18 + (mu7 5 + (mu7 4 + sM r))) ≤ 3 * m_at t184 + 7 * (r.length + 1 + 1 + 1) + 10
                    have : mu7 18 = 5 := rfl; have : mu7 3 = 5 := rfl; have : mu7 4 = 7 := rfl; have : mu7 5 = 7 := rfl; omega
                  · show (wt 18 + (wt 5 + (wt 4 + sW r))) + 6 * (4096 - m_at t184) + 4 * (600 - (r.length + 1 + 1 + 1)) < (wt 3 + sW r) + 6 * (4096 - m_at t0) + 4 * (600 - (r.length + 1))
                    have : wt 18 = 0 := rfl; have : wt 3 = 3 := rfl; have : wt 4 = 5 := rfl; have : wt 5 = 5 := rfl; omega
                · refine Ok_ife (Nat.lt_trans (lo_lt (C_t103.tk hT) _) (by decide)) (by decide) (fun q185 => ?_) (fun q185 => ?_)
                  · refine Kp_push C_t103 (by omega) (fun t186 C_t186 X_t186 a_t186 b_t186 d_t186 w_t186 u_t186 v_t186 j_t186 l_t186 => ?_)
                    have e_t186 := C_t186.2.2.2.1
                    rw [a_t103] at a_t186
                    rw [b_t103] at b_t186
                    rw [d_t103] at d_t186
                    rw [w_t103] at w_t186
                    rw [u_t103] at u_t186
                    rw [v_t103] at v_t186
                    clear d_t103 w_t103 u_t103 v_t103 e_t103 a_t103 b_t103
                    have I_n_t186 := I_n_t103.flat X_t186
                    refine Kp_push C_t186 (by omega) (fun t187 C_t187 X_t187 a_t187 b_t187 d_t187 w_t187 u_t187 v_t187 j_t187 l_t187 => ?_)
                    have e_t187 := C_t187.2.2.2.1
                    rw [a_t186] at a_t187
                    rw [b_t186] at b_t187
                    rw [d_t186] at d_t187
                    rw [w_t186] at w_t187
                    rw [u_t186] at u_t187
                    rw [v_t186] at v_t187
                    clear d_t186 w_t186 u_t186 v_t186 e_t186 a_t186 b_t186
                    have I_n_t187 := I_n_t186.flat X_t187
                    refine Ok_ret (show Ok _ _ _ from ?_)
                    refine Ok_ret (show Ok _ _ _ from ?_)
                    refine Hv_mk (Kv_c (x := (18, n, 1)) rfl (Kv_c (x := (5, n, t)) rfl (Kv_c (x := (4, n, t)) rfl hK))) (C_t187.1.2.2.2.2.2.2 hTt) C_t187 hT (by omega) (by omega) (by omega) ?_ ?_ ?_ (by omega) ?_ ?_ ?_
                    · exact ⟨(Io_n (by decide) (by decide) I_n_t187.1 I_n_t187.2.1 I_n_t187.2.2.1 (fun q => absurd q (by decide)) (fun q => absurd q (by decide)) I_n_t187.2.2.2), (Nd_0 (by decide) Mo_nil), ⟨(Io_n (by decide) (show t < 4096 from by omega) I_n_t187.1 I_n_t187.2.1 I_n_t187.2.2.1 (fun q => absurd q (by decide)) (fun q => absurd q (by decide)) I_n_t187.2.2.2), (Nd_5 (Mo_cons (fun q => show n ≤ n from by omega) Mo_nil) (Or.inl ⟨1, rfl⟩)), ⟨(Io_n (by decide) (show t < 4096 from by omega) I_n_t187.1 I_n_t187.2.1 I_n_t187.2.2.1 (fun q => absurd q (by decide)) (fun q => absurd q (by decide)) I_n_t187.2.2.2), (Nd_A (by decide) (Mo_cons (fun q => show n ≤ n from by omega) (Mo_cons (fun q => show n ≤ n from by omega) Mo_nil)) (Or.inr ⟨(18, n, 1), (List.mem_cons_of_mem _ List.mem_cons_self), rfl, Or.inr (Or.inl rfl)⟩)), Stk_step (N := n) (pop := (3, n, t)) (new := [(4, n, t), (5, n, t), (18, n, 1)]) F0 C_t187.1.to2 (fun (h : nk 3 = false) => absurd h (by decide)) (fun q _ h => h (3, n, t) rfl) (fun _ => rfl) (fun y hy hk => ⟨rfl, (Mo_cons (fun q => show n ≤ n from by omega) (Mo_cons (fun q => show n ≤ n from by omega) (Mo_cons (fun q => show n ≤ n from by omega) Mo_nil))) y hy hk⟩) (fun _ => Or.inr ⟨(18, n, 1), (List.mem_cons_of_mem _ (List.mem_cons_of_mem _ List.mem_cons_self)), rfl, Or.inr (Or.inl rfl)⟩) (fun (h : 3 = 18) => absurd h (by decide)) (fun (h : 3 = 41 ∨ 3 = 42 ∨ 3 = 43) => absurd h (by decide)) r [] (fun y hy => absurd hy List.not_mem_nil) hS⟩⟩⟩
                    · exact (Aj_up (x := (18, n, 1)) (Aj_up (x := (5, n, t)) (Aj_sub (y := (4, n, t)) hJ (Nat.le_of_ble_eq_true rfl)) (Or.inr (Nat.le_of_ble_eq_true rfl))) (Or.inr (Nat.le_of_ble_eq_true rfl)))
                    · show m_dp t187 = (dlt 18 + (dlt 5 + (dlt 4 + sD r)))
                      have : dlt 18 = 0 := rfl; have : dlt 3 = 0 := rfl; have : dlt 4 = 0 := rfl; have : dlt 5 = 0 := rfl; omega
                    · show m_rw t187 = (rho 18 + (rho 5 + (rho 4 + sR r)))
                      have : rho 18 = 0 := rfl; have : rho 3 = 0 := rfl; have : rho 4 = 0 := rfl; have : rho 5 = 0 := rfl; omega
                    · show m_md t187 + (mu7 18 + (mu7 5 + (mu7 4 + sM r))) ≤ 3 * m_at t187 + 7 * (r.length + 1 + 1 + 1) + 10
                      have : mu7 18 = 5 := rfl; have : mu7 3 = 5 := rfl; have : mu7 4 = 7 := rfl; have : mu7 5 = 7 := rfl; omega
                    · show (wt 18 + (wt 5 + (wt 4 + sW r))) + 6 * (4096 - m_at t187) + 4 * (600 - (r.length + 1 + 1 + 1)) < (wt 3 + sW r) + 6 * (4096 - m_at t0) + 4 * (600 - (r.length + 1))
                      have : wt 18 = 0 := rfl; have : wt 3 = 3 := rfl; have : wt 4 = 5 := rfl; have : wt 5 = 5 := rfl; omega
                  · refine Ok_ife (Nat.lt_trans (lo_lt (C_t103.tk hT) _) (by decide)) (by decide) (fun q188 => ?_) (fun q188 => ?_)
                    · refine Kp_push C_t103 (by omega) (fun t189 C_t189 X_t189 a_t189 b_t189 d_t189 w_t189 u_t189 v_t189 j_t189 l_t189 => ?_)
                      have e_t189 := C_t189.2.2.2.1
                      rw [a_t103] at a_t189
                      rw [b_t103] at b_t189
                      rw [d_t103] at d_t189
                      rw [w_t103] at w_t189
                      rw [u_t103] at u_t189
                      rw [v_t103] at v_t189
                      clear d_t103 w_t103 u_t103 v_t103 e_t103 a_t103 b_t103
                      have I_n_t189 := I_n_t103.flat X_t189
                      refine Kp_push C_t189 (by omega) (fun t190 C_t190 X_t190 a_t190 b_t190 d_t190 w_t190 u_t190 v_t190 j_t190 l_t190 => ?_)
                      have e_t190 := C_t190.2.2.2.1
                      rw [a_t189] at a_t190
                      rw [b_t189] at b_t190
                      rw [d_t189] at d_t190
                      rw [w_t189] at w_t190
                      rw [u_t189] at u_t190
                      rw [v_t189] at v_t190
                      clear d_t189 w_t189 u_t189 v_t189 e_t189 a_t189 b_t189
                      have I_n_t190 := I_n_t189.flat X_t190
                      refine Ok_ret (show Ok _ _ _ from ?_)
                      refine Ok_ret (show Ok _ _ _ from ?_)
                      refine Hv_mk (Kv_c (x := (18, n, 1)) rfl (Kv_c (x := (5, n, t)) rfl (Kv_c (x := (4, n, t)) rfl hK))) (C_t190.1.2.2.2.2.2.2 hTt) C_t190 hT (by omega) (by omega) (by omega) ?_ ?_ ?_ (by omega) ?_ ?_ ?_
                      · exact ⟨(Io_n (by decide) (by decide) I_n_t190.1 I_n_t190.2.1 I_n_t190.2.2.1 (fun q => absurd q (by decide)) (fun q => absurd q (by decide)) I_n_t190.2.2.2), (Nd_0 (by decide) Mo_nil), ⟨(Io_n (by decide) (show t < 4096 from by omega) I_n_t190.1 I_n_t190.2.1 I_n_t190.2.2.1 (fun q => absurd q (by decide)) (fun q => absurd q (by decide)) I_n_t190.2.2.2), (Nd_5 (Mo_cons (fun q => show n ≤ n from by omega) Mo_nil) (Or.inl ⟨1, rfl⟩)), ⟨(Io_n (by decide) (show t < 4096 from by omega) I_n_t190.1 I_n_t190.2.1 I_n_t190.2.2.1 (fun q => absurd q (by decide)) (fun q => absurd q (by decide)) I_n_t190.2.2.2), (Nd_A (by decide) (Mo_cons (fun q => show n ≤ n from by omega) (Mo_cons (fun q => show n ≤ n from by omega) Mo_nil)) (Or.inr ⟨(18, n, 1), (List.mem_cons_of_mem _ List.mem_cons_self), rfl, Or.inr (Or.inl rfl)⟩)), Stk_step (N := n) (pop := (3, n, t)) (new := [(4, n, t), (5, n, t), (18, n, 1)]) F0 C_t190.1.to2 (fun (h : nk 3 = false) => absurd h (by decide)) (fun q _ h => h (3, n, t) rfl) (fun _ => rfl) (fun y hy hk => ⟨rfl, (Mo_cons (fun q => show n ≤ n from by omega) (Mo_cons (fun q => show n ≤ n from by omega) (Mo_cons (fun q => show n ≤ n from by omega) Mo_nil))) y hy hk⟩) (fun _ => Or.inr ⟨(18, n, 1), (List.mem_cons_of_mem _ (List.mem_cons_of_mem _ List.mem_cons_self)), rfl, Or.inr (Or.inl rfl)⟩) (fun (h : 3 = 18) => absurd h (by decide)) (fun (h : 3 = 41 ∨ 3 = 42 ∨ 3 = 43) => absurd h (by decide)) r [] (fun y hy => absurd hy List.not_mem_nil) hS⟩⟩⟩
                      · exact (Aj_up (x := (18, n, 1)) (Aj_up (x := (5, n, t)) (Aj_sub (y := (4, n, t)) hJ (Nat.le_of_ble_eq_true rfl)) (Or.inr (Nat.le_of_ble_eq_true rfl))) (Or.inr (Nat.le_of_ble_eq_true rfl)))
                      · show m_dp t190 = (dlt 18 + (dlt 5 + (dlt 4 + sD r)))
                        have : dlt 18 = 0 := rfl; have : dlt 3 = 0 := rfl; have : dlt 4 = 0 := rfl; have : dlt 5 = 0 := rfl; omega
                      · show m_rw t190 = (rho 18 + (rho 5 + (rho 4 + sR r)))
                        have : rho 18 = 0 := rfl; have : rho 3 = 0 := rfl; have : rho 4 = 0 := rfl; have : rho 5 = 0 := rfl; omega
                      · show m_md t190 + (mu7 18 + (mu7 5 + (mu7 4 + sM r))) ≤ 3 * m_at t190 + 7 * (r.length + 1 + 1 + 1) + 10
                        have : mu7 18 = 5 := rfl; have : mu7 3 = 5 := rfl; have : mu7 4 = 7 := rfl; have : mu7 5 = 7 := rfl; omega
                      · show (wt 18 + (wt 5 + (wt 4 + sW r))) + 6 * (4096 - m_at t190) + 4 * (600 - (r.length + 1 + 1 + 1)) < (wt 3 + sW r) + 6 * (4096 - m_at t0) + 4 * (600 - (r.length + 1))
                        have : wt 18 = 0 := rfl; have : wt 3 = 3 := rfl; have : wt 4 = 5 := rfl; have : wt 5 = 5 := rfl; omega
                    · refine Ok_ife (Nat.lt_trans (lo_lt (C_t103.tk hT) _) (by decide)) (by decide) (fun q191 => ?_) (fun q191 => ?_)
                      · refine Kp_push C_t103 (by omega) (fun t192 C_t192 X_t192 a_t192 b_t192 d_t192 w_t192 u_t192 v_t192 j_t192 l_t192 => ?_)
                        have e_t192 := C_t192.2.2.2.1
                        rw [a_t103] at a_t192
                        rw [b_t103] at b_t192
                        rw [d_t103] at d_t192
                        rw [w_t103] at w_t192
                        rw [u_t103] at u_t192
                        rw [v_t103] at v_t192
                        clear d_t103 w_t103 u_t103 v_t103 e_t103 a_t103 b_t103
                        have I_n_t192 := I_n_t103.flat X_t192
                        refine Kp_push C_t192 (by omega) (fun t193 C_t193 X_t193 a_t193 b_t193 d_t193 w_t193 u_t193 v_t193 j_t193 l_t193 => ?_)
                        have e_t193 := C_t193.2.2.2.1
                        rw [a_t192] at a_t193
                        rw [b_t192] at b_t193
                        rw [d_t192] at d_t193
                        rw [w_t192] at w_t193
                        rw [u_t192] at u_t193
                        rw [v_t192] at v_t193
                        clear d_t192 w_t192 u_t192 v_t192 e_t192 a_t192 b_t192
                        have I_n_t193 := I_n_t192.flat X_t193
                        refine Ok_ret (show Ok _ _ _ from ?_)
                        refine Ok_ret (show Ok _ _ _ from ?_)
                        refine Hv_mk (Kv_c (x := (18, n, 1)) rfl (Kv_c (x := (5, n, t)) rfl (Kv_c (x := (4, n, t)) rfl hK))) (C_t193.1.2.2.2.2.2.2 hTt) C_t193 hT (by omega) (by omega) (by omega) ?_ ?_ ?_ (by omega) ?_ ?_ ?_
                        · exact ⟨(Io_n (by decide) (by decide) I_n_t193.1 I_n_t193.2.1 I_n_t193.2.2.1 (fun q => absurd q (by decide)) (fun q => absurd q (by decide)) I_n_t193.2.2.2), (Nd_0 (by decide) Mo_nil), ⟨(Io_n (by decide) (show t < 4096 from by omega) I_n_t193.1 I_n_t193.2.1 I_n_t193.2.2.1 (fun q => absurd q (by decide)) (fun q => absurd q (by decide)) I_n_t193.2.2.2), (Nd_5 (Mo_cons (fun q => show n ≤ n from by omega) Mo_nil) (Or.inl ⟨1, rfl⟩)), ⟨(Io_n (by decide) (show t < 4096 from by omega) I_n_t193.1 I_n_t193.2.1 I_n_t193.2.2.1 (fun q => absurd q (by decide)) (fun q => absurd q (by decide)) I_n_t193.2.2.2), (Nd_A (by decide) (Mo_cons (fun q => show n ≤ n from by omega) (Mo_cons (fun q => show n ≤ n from by omega) Mo_nil)) (Or.inr ⟨(18, n, 1), (List.mem_cons_of_mem _ List.mem_cons_self), rfl, Or.inr (Or.inl rfl)⟩)), Stk_step (N := n) (pop := (3, n, t)) (new := [(4, n, t), (5, n, t), (18, n, 1)]) F0 C_t193.1.to2 (fun (h : nk 3 = false) => absurd h (by decide)) (fun q _ h => h (3, n, t) rfl) (fun _ => rfl) (fun y hy hk => ⟨rfl, (Mo_cons (fun q => show n ≤ n from by omega) (Mo_cons (fun q => show n ≤ n from by omega) (Mo_cons (fun q => show n ≤ n from by omega) Mo_nil))) y hy hk⟩) (fun _ => Or.inr ⟨(18, n, 1), (List.mem_cons_of_mem _ (List.mem_cons_of_mem _ List.mem_cons_self)), rfl, Or.inr (Or.inl rfl)⟩) (fun (h : 3 = 18) => absurd h (by decide)) (fun (h : 3 = 41 ∨ 3 = 42 ∨ 3 = 43) => absurd h (by decide)) r [] (fun y hy => absurd hy List.not_mem_nil) hS⟩⟩⟩
                        · exact (Aj_up (x := (18, n, 1)) (Aj_up (x := (5, n, t)) (Aj_sub (y := (4, n, t)) hJ (Nat.le_of_ble_eq_true rfl)) (Or.inr (Nat.le_of_ble_eq_true rfl))) (Or.inr (Nat.le_of_ble_eq_true rfl)))
                        · show m_dp t193 = (dlt 18 + (dlt 5 + (dlt 4 + sD r)))
                          have : dlt 18 = 0 := rfl; have : dlt 3 = 0 := rfl; have : dlt 4 = 0 := rfl; have : dlt 5 = 0 := rfl; omega
                        · show m_rw t193 = (rho 18 + (rho 5 + (rho 4 + sR r)))
                          have : rho 18 = 0 := rfl; have : rho 3 = 0 := rfl; have : rho 4 = 0 := rfl; have : rho 5 = 0 := rfl; omega
                        · show m_md t193 + (mu7 18 + (mu7 5 + (mu7 4 + sM r))) ≤ 3 * m_at t193 + 7 * (r.length + 1 + 1 + 1) + 10
                          have : mu7 18 = 5 := rfl; have : mu7 3 = 5 := rfl; have : mu7 4 = 7 := rfl; have : mu7 5 = 7 := rfl; omega
                        · show (wt 18 + (wt 5 + (wt 4 + sW r))) + 6 * (4096 - m_at t193) + 4 * (600 - (r.length + 1 + 1 + 1)) < (wt 3 + sW r) + 6 * (4096 - m_at t0) + 4 * (600 - (r.length + 1))
                          have : wt 18 = 0 := rfl; have : wt 3 = 3 := rfl; have : wt 4 = 5 := rfl; have : wt 5 = 5 := rfl; omega
                      · refine Ok_ife (Nat.lt_trans (lo_lt (C_t103.tk hT) _) (by decide)) (by decide) (fun q194 => ?_) (fun q194 => ?_)
                        · refine Kp_push C_t103 (by omega) (fun t195 C_t195 X_t195 a_t195 b_t195 d_t195 w_t195 u_t195 v_t195 j_t195 l_t195 => ?_)
                          have e_t195 := C_t195.2.2.2.1
                          rw [a_t103] at a_t195
                          rw [b_t103] at b_t195
                          rw [d_t103] at d_t195
                          rw [w_t103] at w_t195
                          rw [u_t103] at u_t195
                          rw [v_t103] at v_t195
                          clear d_t103 w_t103 u_t103 v_t103 e_t103 a_t103 b_t103
                          have I_n_t195 := I_n_t103.flat X_t195
                          refine Kp_push C_t195 (by omega) (fun t196 C_t196 X_t196 a_t196 b_t196 d_t196 w_t196 u_t196 v_t196 j_t196 l_t196 => ?_)
                          have e_t196 := C_t196.2.2.2.1
                          rw [a_t195] at a_t196
                          rw [b_t195] at b_t196
                          rw [d_t195] at d_t196
                          rw [w_t195] at w_t196
                          rw [u_t195] at u_t196
                          rw [v_t195] at v_t196
                          clear d_t195 w_t195 u_t195 v_t195 e_t195 a_t195 b_t195
                          have I_n_t196 := I_n_t195.flat X_t196
                          refine Ok_ret (show Ok _ _ _ from ?_)
                          refine Ok_ret (show Ok _ _ _ from ?_)
                          refine Hv_mk (Kv_c (x := (18, n, 1)) rfl (Kv_c (x := (5, n, t)) rfl (Kv_c (x := (4, n, t)) rfl hK))) (C_t196.1.2.2.2.2.2.2 hTt) C_t196 hT (by omega) (by omega) (by omega) ?_ ?_ ?_ (by omega) ?_ ?_ ?_
                          · exact ⟨(Io_n (by decide) (by decide) I_n_t196.1 I_n_t196.2.1 I_n_t196.2.2.1 (fun q => absurd q (by decide)) (fun q => absurd q (by decide)) I_n_t196.2.2.2), (Nd_0 (by decide) Mo_nil), ⟨(Io_n (by decide) (show t < 4096 from by omega) I_n_t196.1 I_n_t196.2.1 I_n_t196.2.2.1 (fun q => absurd q (by decide)) (fun q => absurd q (by decide)) I_n_t196.2.2.2), (Nd_5 (Mo_cons (fun q => show n ≤ n from by omega) Mo_nil) (Or.inl ⟨1, rfl⟩)), ⟨(Io_n (by decide) (show t < 4096 from by omega) I_n_t196.1 I_n_t196.2.1 I_n_t196.2.2.1 (fun q => absurd q (by decide)) (fun q => absurd q (by decide)) I_n_t196.2.2.2), (Nd_A (by decide) (Mo_cons (fun q => show n ≤ n from by omega) (Mo_cons (fun q => show n ≤ n from by omega) Mo_nil)) (Or.inr ⟨(18, n, 1), (List.mem_cons_of_mem _ List.mem_cons_self), rfl, Or.inr (Or.inl rfl)⟩)), Stk_step (N := n) (pop := (3, n, t)) (new := [(4, n, t), (5, n, t), (18, n, 1)]) F0 C_t196.1.to2 (fun (h : nk 3 = false) => absurd h (by decide)) (fun q _ h => h (3, n, t) rfl) (fun _ => rfl) (fun y hy hk => ⟨rfl, (Mo_cons (fun q => show n ≤ n from by omega) (Mo_cons (fun q => show n ≤ n from by omega) (Mo_cons (fun q => show n ≤ n from by omega) Mo_nil))) y hy hk⟩) (fun _ => Or.inr ⟨(18, n, 1), (List.mem_cons_of_mem _ (List.mem_cons_of_mem _ List.mem_cons_self)), rfl, Or.inr (Or.inl rfl)⟩) (fun (h : 3 = 18) => absurd h (by decide)) (fun (h : 3 = 41 ∨ 3 = 42 ∨ 3 = 43) => absurd h (by decide)) r [] (fun y hy => absurd hy List.not_mem_nil) hS⟩⟩⟩
                          · exact (Aj_up (x := (18, n, 1)) (Aj_up (x := (5, n, t)) (Aj_sub (y := (4, n, t)) hJ (Nat.le_of_ble_eq_true rfl)) (Or.inr (Nat.le_of_ble_eq_true rfl))) (Or.inr (Nat.le_of_ble_eq_true rfl)))
                          · show m_dp t196 = (dlt 18 + (dlt 5 + (dlt 4 + sD r)))
                            have : dlt 18 = 0 := rfl; have : dlt 3 = 0 := rfl; have : dlt 4 = 0 := rfl; have : dlt 5 = 0 := rfl; omega
                          · show m_rw t196 = (rho 18 + (rho 5 + (rho 4 + sR r)))
                            have : rho 18 = 0 := rfl; have : rho 3 = 0 := rfl; have : rho 4 = 0 := rfl; have : rho 5 = 0 := rfl; omega
                          · show m_md t196 + (mu7 18 + (mu7 5 + (mu7 4 + sM r))) ≤ 3 * m_at t196 + 7 * (r.length + 1 + 1 + 1) + 10
                            have : mu7 18 = 5 := rfl; have : mu7 3 = 5 := rfl; have : mu7 4 = 7 := rfl; have : mu7 5 = 7 := rfl; omega
                          · show (wt 18 + (wt 5 + (wt 4 + sW r))) + 6 * (4096 - m_at t196) + 4 * (600 - (r.length + 1 + 1 + 1)) < (wt 3 + sW r) + 6 * (4096 - m_at t0) + 4 * (600 - (r.length + 1))
                            have : wt 18 = 0 := rfl; have : wt 3 = 3 := rfl; have : wt 4 = 5 := rfl; have : wt 5 = 5 := rfl; omega
                        · refine Ok_ife (Nat.lt_trans (lo_lt (C_t103.tk hT) _) (by decide)) (by decide) (fun q197 => ?_) (fun q197 => ?_)
                          · refine Kp_push C_t103 (by omega) (fun t198 C_t198 X_t198 a_t198 b_t198 d_t198 w_t198 u_t198 v_t198 j_t198 l_t198 => ?_)
                            have e_t198 := C_t198.2.2.2.1
                            rw [a_t103] at a_t198
                            rw [b_t103] at b_t198
                            rw [d_t103] at d_t198
                            rw [w_t103] at w_t198
                            rw [u_t103] at u_t198
                            rw [v_t103] at v_t198
                            clear d_t103 w_t103 u_t103 v_t103 e_t103 a_t103 b_t103
                            have I_n_t198 := I_n_t103.flat X_t198
                            refine Kp_push C_t198 (by omega) (fun t199 C_t199 X_t199 a_t199 b_t199 d_t199 w_t199 u_t199 v_t199 j_t199 l_t199 => ?_)
                            have e_t199 := C_t199.2.2.2.1
                            rw [a_t198] at a_t199
                            rw [b_t198] at b_t199
                            rw [d_t198] at d_t199
                            rw [w_t198] at w_t199
                            rw [u_t198] at u_t199
                            rw [v_t198] at v_t199
                            clear d_t198 w_t198 u_t198 v_t198 e_t198 a_t198 b_t198
                            have I_n_t199 := I_n_t198.flat X_t199
                            refine Ok_ret (show Ok _ _ _ from ?_)
                            refine Ok_ret (show Ok _ _ _ from ?_)
                            refine Hv_mk (Kv_c (x := (18, n, 1)) rfl (Kv_c (x := (5, n, t)) rfl (Kv_c (x := (4, n, t)) rfl hK))) (C_t199.1.2.2.2.2.2.2 hTt) C_t199 hT (by omega) (by omega) (by omega) ?_ ?_ ?_ (by omega) ?_ ?_ ?_
                            · exact ⟨(Io_n (by decide) (by decide) I_n_t199.1 I_n_t199.2.1 I_n_t199.2.2.1 (fun q => absurd q (by decide)) (fun q => absurd q (by decide)) I_n_t199.2.2.2), (Nd_0 (by decide) Mo_nil), ⟨(Io_n (by decide) (show t < 4096 from by omega) I_n_t199.1 I_n_t199.2.1 I_n_t199.2.2.1 (fun q => absurd q (by decide)) (fun q => absurd q (by decide)) I_n_t199.2.2.2), (Nd_5 (Mo_cons (fun q => show n ≤ n from by omega) Mo_nil) (Or.inl ⟨1, rfl⟩)), ⟨(Io_n (by decide) (show t < 4096 from by omega) I_n_t199.1 I_n_t199.2.1 I_n_t199.2.2.1 (fun q => absurd q (by decide)) (fun q => absurd q (by decide)) I_n_t199.2.2.2), (Nd_A (by decide) (Mo_cons (fun q => show n ≤ n from by omega) (Mo_cons (fun q => show n ≤ n from by omega) Mo_nil)) (Or.inr ⟨(18, n, 1), (List.mem_cons_of_mem _ List.mem_cons_self), rfl, Or.inr (Or.inl rfl)⟩)), Stk_step (N := n) (pop := (3, n, t)) (new := [(4, n, t), (5, n, t), (18, n, 1)]) F0 C_t199.1.to2 (fun (h : nk 3 = false) => absurd h (by decide)) (fun q _ h => h (3, n, t) rfl) (fun _ => rfl) (fun y hy hk => ⟨rfl, (Mo_cons (fun q => show n ≤ n from by omega) (Mo_cons (fun q => show n ≤ n from by omega) (Mo_cons (fun q => show n ≤ n from by omega) Mo_nil))) y hy hk⟩) (fun _ => Or.inr ⟨(18, n, 1), (List.mem_cons_of_mem _ (List.mem_cons_of_mem _ List.mem_cons_self)), rfl, Or.inr (Or.inl rfl)⟩) (fun (h : 3 = 18) => absurd h (by decide)) (fun (h : 3 = 41 ∨ 3 = 42 ∨ 3 = 43) => absurd h (by decide)) r [] (fun y hy => absurd hy List.not_mem_nil) hS⟩⟩⟩
                            · exact (Aj_up (x := (18, n, 1)) (Aj_up (x := (5, n, t)) (Aj_sub (y := (4, n, t)) hJ (Nat.le_of_ble_eq_true rfl)) (Or.inr (Nat.le_of_ble_eq_true rfl))) (Or.inr (Nat.le_of_ble_eq_true rfl)))
                            · show m_dp t199 = (dlt 18 + (dlt 5 + (dlt 4 + sD r)))
                              have : dlt 18 = 0 := rfl; have : dlt 3 = 0 := rfl; have : dlt 4 = 0 := rfl; have : dlt 5 = 0 := rfl; omega
                            · show m_rw t199 = (rho 18 + (rho 5 + (rho 4 + sR r)))
                              have : rho 18 = 0 := rfl; have : rho 3 = 0 := rfl; have : rho 4 = 0 := rfl; have : rho 5 = 0 := rfl; omega
                            · show m_md t199 + (mu7 18 + (mu7 5 + (mu7 4 + sM r))) ≤ 3 * m_at t199 + 7 * (r.length + 1 + 1 + 1) + 10
                              have : mu7 18 = 5 := rfl; have : mu7 3 = 5 := rfl; have : mu7 4 = 7 := rfl; have : mu7 5 = 7 := rfl; omega
                            · show (wt 18 + (wt 5 + (wt 4 + sW r))) + 6 * (4096 - m_at t199) + 4 * (600 - (r.length + 1 + 1 + 1)) < (wt 3 + sW r) + 6 * (4096 - m_at t0) + 4 * (600 - (r.length + 1))
                              have : wt 18 = 0 := rfl; have : wt 3 = 3 := rfl; have : wt 4 = 5 := rfl; have : wt 5 = 5 := rfl; omega
                          · refine Kp_error C_t103 (by omega) (fun t200 C_t200 X_t200 a_t200 b_t200 d_t200 w_t200 u_t200 v_t200 j_t200 l_t200 => ?_)
                            have wb_t200 := w_t200.2
                            have w_t200 := Nat.pos_of_ne_zero w_t200.1
                            have e_t200 := C_t200.2.2.2.1
                            have I_n_t200 := I_n_t103.flat X_t200
                            refine Ok_ret (show Ok _ _ _ from ?_)
                            refine Ok_ret (show Ok _ _ _ from ?_)
                            exact Or.inl ⟨Nat.ne_of_gt (show 0 < m_wr t200 from by omega), by omega, by omega, C_t200.2.2.2.2.2, by omega⟩
      · refine Kp_child C_t0 I_n_t0.1 I_n_t0.2.1 I_n_t0.2.2.1 (by omega) (by omega) (by decide) (by decide) (fun t201 C_t201 X_t201 a_t201 b_t201 d_t201 w_t201 u_t201 v_t201 j_t201 l_t201 => ?_)
        have e_t201 := C_t201.2.2.2.1
        have I_n_t201 := I_n_t0.chd X_t201 j_t201
        have f_n_t201 : Fz t201 n := j_t201.2.2.2.2.1
        have I_m_mdt0_t201 : Nq t201 (m_md t0) := Nq.chn j_t201 (by omega) I_n_t0 (by decide)
        have u_m_mdt0_t201 : Up t201 (m_md t0) := Or.inl j_t201.2.1
        have la_n_t201 : m_la t201 n = (m_md t0) + 1 := j_t201.2.2.2.2.2.1
        have wl_n_t201 : m_wh t201 (m_md t0) = 81 := j_t201.1
        refine Kp_more C_t201 (by omega) (by omega) (fun t202 C_t202 X_t202 a_t202 b_t202 d_t202 w_t202 u_t202 v_t202 j_t202 l_t202 => ?_)
        have e_t202 := C_t202.2.2.2.1
        rcases w_t202 with ⟨w_t202, y_t202⟩ | ⟨w_t202, wb_t202⟩
        · rw [a_t201] at a_t202
          rw [b_t201] at b_t202
          rw [d_t201] at d_t202
          rw [w_t201] at w_t202
          rw [u_t201] at u_t202
          rw [v_t201] at v_t202
          rw [d_t202] at y_t202
          clear d_t201 w_t201 u_t201 v_t201 e_t201 a_t201 b_t201
          have I_n_t202 := I_n_t201.flat X_t202
          have f_n_t202 := f_n_t201.ex I_n_t201 (X_t202 0)
          have I_m_mdt0_t202 := I_m_mdt0_t201.flat X_t202
          have u_m_mdt0_t202 := u_m_mdt0_t201.ex I_m_mdt0_t201 (X_t202 0)
          have la_n_t202 : m_la t202 n = (m_md t0) + 1 := by rw [j_t202.2.2.1]; exact la_n_t201
          have wl_n_t202 : m_wh t202 ((m_md t0)) = 81 := by rw [j_t202.1]; exact wl_n_t201
          clear la_n_t201 wl_n_t201
          have z_t203 : m_at t202 < m_ct t202 := lo_ne (Nat.ne_of_gt (show 0 < lo t202 (m_at t202) from by omega))
          refine Kp_at C_t202 (fun t203 C_t203 X_t203 a_t203 b_t203 d_t203 w_t203 u_t203 v_t203 j_t203 l_t203 => ?_)
          have e_t203 := C_t203.2.2.2.1
          rw [a_t202] at a_t203
          rw [b_t202] at b_t203
          rw [d_t202] at d_t203
          rw [w_t202] at w_t203
          rw [u_t202] at u_t203
          rw [v_t202] at v_t203
          rw [a_t202, e_t202] at z_t203
          clear d_t202 w_t202 u_t202 v_t202 e_t202 a_t202 b_t202
          have I_n_t203 := I_n_t202.flat X_t203
          have f_n_t203 := f_n_t202.ex I_n_t202 (X_t203 0)
          have I_m_mdt0_t203 := I_m_mdt0_t202.flat X_t203
          have u_m_mdt0_t203 := u_m_mdt0_t202.ex I_m_mdt0_t202 (X_t203 0)
          have la_n_t203 : m_la t203 n = (m_md t0) + 1 := by rw [j_t203.2.2.1]; exact la_n_t202
          have wl_n_t203 : m_wh t203 ((m_md t0)) = 81 := by rw [j_t203.1]; exact wl_n_t202
          clear la_n_t202 wl_n_t202
          refine Kp_push C_t203 (by omega) (fun t204 C_t204 X_t204 a_t204 b_t204 d_t204 w_t204 u_t204 v_t204 j_t204 l_t204 => ?_)
          have e_t204 := C_t204.2.2.2.1
          rw [a_t203] at a_t204
          rw [b_t203] at b_t204
          rw [d_t203] at d_t204
          rw [w_t203] at w_t204
          rw [u_t203] at u_t204
          rw [v_t203] at v_t204
          clear d_t203 w_t203 u_t203 v_t203 e_t203 a_t203 b_t203
          have I_n_t204 := I_n_t203.flat X_t204
          have f_n_t204 := f_n_t203.ex I_n_t203 (X_t204 0)
          have I_m_mdt0_t204 := I_m_mdt0_t203.flat X_t204
          have u_m_mdt0_t204 := u_m_mdt0_t203.ex I_m_mdt0_t203 (X_t204 0)
          have la_n_t204 : m_la t204 n = (m_md t0) + 1 := by rw [j_t204.2.2.1]; exact la_n_t203
          have wl_n_t204 : m_wh t204 ((m_md t0)) = 81 := by rw [j_t204.1]; exact wl_n_t203
          clear la_n_t203 wl_n_t203
          refine Kp_push C_t204 (by omega) (fun t205 C_t205 X_t205 a_t205 b_t205 d_t205 w_t205 u_t205 v_t205 j_t205 l_t205 => ?_)
          have e_t205 := C_t205.2.2.2.1
          rw [a_t204] at a_t205
          rw [b_t204] at b_t205
          rw [d_t204] at d_t205
          rw [w_t204] at w_t205
          rw [u_t204] at u_t205
          rw [v_t204] at v_t205
          clear d_t204 w_t204 u_t204 v_t204 e_t204 a_t204 b_t204
          have I_n_t205 := I_n_t204.flat X_t205
          have f_n_t205 := f_n_t204.ex I_n_t204 (X_t205 0)
          have I_m_mdt0_t205 := I_m_mdt0_t204.flat X_t205
          have u_m_mdt0_t205 := u_m_mdt0_t204.ex I_m_mdt0_t204 (X_t205 0)
          have la_n_t205 : m_la t205 n = (m_md t0) + 1 := by rw [j_t205.2.2.1]; exact la_n_t204
          have wl_n_t205 : m_wh t205 ((m_md t0)) = 81 := by rw [j_t205.1]; exact wl_n_t204
          clear la_n_t204 wl_n_t204
          refine Ok_ret (show Ok _ _ _ from ?_)
          refine Hv_mk (Kv_c (x := (3, m_md t0, t &&& 1)) rfl (Kv_c (x := (6, m_md t0, 0)) rfl hK)) (C_t205.1.2.2.2.2.2.2 hTt) C_t205 hT (by omega) (by omega) (by omega) ?_ ?_ ?_ (by omega) ?_ ?_ ?_
          · exact ⟨(Io_n (by decide) (show t &&& 1 < 4096 from by omega) I_m_mdt0_t205.1 I_m_mdt0_t205.2.1 I_m_mdt0_t205.2.2.1 (fun q => absurd q (by decide)) (fun q => absurd q (by decide)) I_m_mdt0_t205.2.2.2), (Nd_0 (by decide) Mo_nil), ⟨(Io_6 (by decide)), (Nd_x (by decide)), Stk_step (N := n) (pop := (3, n, t)) (new := [(6, m_md t0, 0), (3, m_md t0, t &&& 1)]) F0 C_t205.1.to2 (fun (h : nk 3 = false) => absurd h (by decide)) (fun q _ h => h (3, n, t) rfl) (fun _ => rfl) (fun y hy hk => ⟨rfl, (Mo_cons (fun q => absurd (show nk 6 = true from q) (by decide)) (Mo_cons (fun q => show n ≤ m_md t0 from by omega) Mo_nil)) y hy hk⟩) (fun _ => Or.inl f_n_t205) (fun (h : 3 = 18) => absurd h (by decide)) (fun (h : 3 = 41 ∨ 3 = 42 ∨ 3 = 43) => absurd h (by decide)) r [] (fun y hy => absurd hy List.not_mem_nil) hS⟩⟩
          · exact (Aj_up (x := (3, m_md t0, t &&& 1)) (Aj_sub (y := (6, m_md t0, 0)) hJ (Nat.le_of_ble_eq_true rfl)) (Or.inl (Nat.le_of_ble_eq_true rfl)))
          · show m_dp t205 = (dlt 3 + (dlt 6 + sD r))
            have : dlt 3 = 0 := rfl; have : dlt 6 = 1 := rfl; omega
          · show m_rw t205 = (rho 3 + (rho 6 + sR r))
            have : rho 3 = 0 := rfl; have : rho 6 = 0 := rfl; omega
          · show m_md t205 + (mu7 3 + (mu7 6 + sM r)) ≤ 3 * m_at t205 + 7 * (r.length + 1 + 1) + 10
            have : mu7 3 = 5 := rfl; have : mu7 6 = 7 := rfl; omega
          · show (wt 3 + (wt 6 + sW r)) + 6 * (4096 - m_at t205) + 4 * (600 - (r.length + 1 + 1)) < (wt 3 + sW r) + 6 * (4096 - m_at t0) + 4 * (600 - (r.length + 1))
            have : wt 3 = 3 := rfl; have : wt 6 = 5 := rfl; omega
        · have w_t202 := Nat.pos_of_ne_zero w_t202
          have I_n_t202 := I_n_t201.flat X_t202
          have f_n_t202 := f_n_t201.ex I_n_t201 (X_t202 0)
          have I_m_mdt0_t202 := I_m_mdt0_t201.flat X_t202
          have u_m_mdt0_t202 := u_m_mdt0_t201.ex I_m_mdt0_t201 (X_t202 0)
          have la_n_t202 : m_la t202 n = (m_md t0) + 1 := by rw [j_t202.2.2.1]; exact la_n_t201
          have wl_n_t202 : m_wh t202 ((m_md t0)) = 81 := by rw [j_t202.1]; exact wl_n_t201
          clear la_n_t201 wl_n_t201
          refine Kp_at C_t202 (fun t206 C_t206 X_t206 a_t206 b_t206 d_t206 w_t206 u_t206 v_t206 j_t206 l_t206 => ?_)
          have e_t206 := C_t206.2.2.2.1
          have I_n_t206 := I_n_t202.flat X_t206
          have f_n_t206 := f_n_t202.ex I_n_t202 (X_t206 0)
          have I_m_mdt0_t206 := I_m_mdt0_t202.flat X_t206
          have u_m_mdt0_t206 := u_m_mdt0_t202.ex I_m_mdt0_t202 (X_t206 0)
          have la_n_t206 : m_la t206 n = (m_md t0) + 1 := by rw [j_t206.2.2.1]; exact la_n_t202
          have wl_n_t206 : m_wh t206 ((m_md t0)) = 81 := by rw [j_t206.1]; exact wl_n_t202
          clear la_n_t202 wl_n_t202
          refine Kp_push C_t206 (by omega) (fun t207 C_t207 X_t207 a_t207 b_t207 d_t207 w_t207 u_t207 v_t207 j_t207 l_t207 => ?_)
          have e_t207 := C_t207.2.2.2.1
          have I_n_t207 := I_n_t206.flat X_t207
          have f_n_t207 := f_n_t206.ex I_n_t206 (X_t207 0)
          have I_m_mdt0_t207 := I_m_mdt0_t206.flat X_t207
          have u_m_mdt0_t207 := u_m_mdt0_t206.ex I_m_mdt0_t206 (X_t207 0)
          have la_n_t207 : m_la t207 n = (m_md t0) + 1 := by rw [j_t207.2.2.1]; exact la_n_t206
          have wl_n_t207 : m_wh t207 ((m_md t0)) = 81 := by rw [j_t207.1]; exact wl_n_t206
          clear la_n_t206 wl_n_t206
          refine Kp_push C_t207 (by omega) (fun t208 C_t208 X_t208 a_t208 b_t208 d_t208 w_t208 u_t208 v_t208 j_t208 l_t208 => ?_)
          have e_t208 := C_t208.2.2.2.1
          have I_n_t208 := I_n_t207.flat X_t208
          have f_n_t208 := f_n_t207.ex I_n_t207 (X_t208 0)
          have I_m_mdt0_t208 := I_m_mdt0_t207.flat X_t208
          have u_m_mdt0_t208 := u_m_mdt0_t207.ex I_m_mdt0_t207 (X_t208 0)
          have la_n_t208 : m_la t208 n = (m_md t0) + 1 := by rw [j_t208.2.2.1]; exact la_n_t207
          have wl_n_t208 : m_wh t208 ((m_md t0)) = 81 := by rw [j_t208.1]; exact wl_n_t207
          clear la_n_t207 wl_n_t207
          refine Ok_ret (show Ok _ _ _ from ?_)
          exact Or.inl ⟨Nat.ne_of_gt (show 0 < m_wr t208 from by omega), by omega, by omega, C_t208.2.2.2.2.2, by omega⟩
    · refine Kp_child C_t0 I_n_t0.1 I_n_t0.2.1 I_n_t0.2.2.1 (by omega) (by omega) (by decide) (by decide) (fun t209 C_t209 X_t209 a_t209 b_t209 d_t209 w_t209 u_t209 v_t209 j_t209 l_t209 => ?_)
      have e_t209 := C_t209.2.2.2.1
      have I_n_t209 := I_n_t0.chd X_t209 j_t209
      have f_n_t209 : Fz t209 n := j_t209.2.2.2.2.1
      have I_m_mdt0_t209 : Nq t209 (m_md t0) := Nq.chn j_t209 (by omega) I_n_t0 (by decide)
      have u_m_mdt0_t209 : Up t209 (m_md t0) := Or.inl j_t209.2.1
      have la_n_t209 : m_la t209 n = (m_md t0) + 1 := j_t209.2.2.2.2.2.1
      have wl_n_t209 : m_wh t209 (m_md t0) = 81 := j_t209.1
      refine Kp_more C_t209 (by omega) (by omega) (fun t210 C_t210 X_t210 a_t210 b_t210 d_t210 w_t210 u_t210 v_t210 j_t210 l_t210 => ?_)
      have e_t210 := C_t210.2.2.2.1
      rcases w_t210 with ⟨w_t210, y_t210⟩ | ⟨w_t210, wb_t210⟩
      · rw [a_t209] at a_t210
        rw [b_t209] at b_t210
        rw [d_t209] at d_t210
        rw [w_t209] at w_t210
        rw [u_t209] at u_t210
        rw [v_t209] at v_t210
        rw [d_t210] at y_t210
        clear d_t209 w_t209 u_t209 v_t209 e_t209 a_t209 b_t209
        have I_n_t210 := I_n_t209.flat X_t210
        have f_n_t210 := f_n_t209.ex I_n_t209 (X_t210 0)
        have I_m_mdt0_t210 := I_m_mdt0_t209.flat X_t210
        have u_m_mdt0_t210 := u_m_mdt0_t209.ex I_m_mdt0_t209 (X_t210 0)
        have la_n_t210 : m_la t210 n = (m_md t0) + 1 := by rw [j_t210.2.2.1]; exact la_n_t209
        have wl_n_t210 : m_wh t210 ((m_md t0)) = 81 := by rw [j_t210.1]; exact wl_n_t209
        clear la_n_t209 wl_n_t209
        have z_t211 : m_at t210 < m_ct t210 := lo_ne (Nat.ne_of_gt (show 0 < lo t210 (m_at t210) from by omega))
        refine Kp_at C_t210 (fun t211 C_t211 X_t211 a_t211 b_t211 d_t211 w_t211 u_t211 v_t211 j_t211 l_t211 => ?_)
        have e_t211 := C_t211.2.2.2.1
        rw [a_t210] at a_t211
        rw [b_t210] at b_t211
        rw [d_t210] at d_t211
        rw [w_t210] at w_t211
        rw [u_t210] at u_t211
        rw [v_t210] at v_t211
        rw [a_t210, e_t210] at z_t211
        clear d_t210 w_t210 u_t210 v_t210 e_t210 a_t210 b_t210
        have I_n_t211 := I_n_t210.flat X_t211
        have f_n_t211 := f_n_t210.ex I_n_t210 (X_t211 0)
        have I_m_mdt0_t211 := I_m_mdt0_t210.flat X_t211
        have u_m_mdt0_t211 := u_m_mdt0_t210.ex I_m_mdt0_t210 (X_t211 0)
        have la_n_t211 : m_la t211 n = (m_md t0) + 1 := by rw [j_t211.2.2.1]; exact la_n_t210
        have wl_n_t211 : m_wh t211 ((m_md t0)) = 81 := by rw [j_t211.1]; exact wl_n_t210
        clear la_n_t210 wl_n_t210
        refine Kp_push C_t211 (by omega) (fun t212 C_t212 X_t212 a_t212 b_t212 d_t212 w_t212 u_t212 v_t212 j_t212 l_t212 => ?_)
        have e_t212 := C_t212.2.2.2.1
        rw [a_t211] at a_t212
        rw [b_t211] at b_t212
        rw [d_t211] at d_t212
        rw [w_t211] at w_t212
        rw [u_t211] at u_t212
        rw [v_t211] at v_t212
        clear d_t211 w_t211 u_t211 v_t211 e_t211 a_t211 b_t211
        have I_n_t212 := I_n_t211.flat X_t212
        have f_n_t212 := f_n_t211.ex I_n_t211 (X_t212 0)
        have I_m_mdt0_t212 := I_m_mdt0_t211.flat X_t212
        have u_m_mdt0_t212 := u_m_mdt0_t211.ex I_m_mdt0_t211 (X_t212 0)
        have la_n_t212 : m_la t212 n = (m_md t0) + 1 := by rw [j_t212.2.2.1]; exact la_n_t211
        have wl_n_t212 : m_wh t212 ((m_md t0)) = 81 := by rw [j_t212.1]; exact wl_n_t211
        clear la_n_t211 wl_n_t211
        refine Kp_push C_t212 (by omega) (fun t213 C_t213 X_t213 a_t213 b_t213 d_t213 w_t213 u_t213 v_t213 j_t213 l_t213 => ?_)
        have e_t213 := C_t213.2.2.2.1
        rw [a_t212] at a_t213
        rw [b_t212] at b_t213
        rw [d_t212] at d_t213
        rw [w_t212] at w_t213
        rw [u_t212] at u_t213
        rw [v_t212] at v_t213
        clear d_t212 w_t212 u_t212 v_t212 e_t212 a_t212 b_t212
        have I_n_t213 := I_n_t212.flat X_t213
        have f_n_t213 := f_n_t212.ex I_n_t212 (X_t213 0)
        have I_m_mdt0_t213 := I_m_mdt0_t212.flat X_t213
        have u_m_mdt0_t213 := u_m_mdt0_t212.ex I_m_mdt0_t212 (X_t213 0)
        have la_n_t213 : m_la t213 n = (m_md t0) + 1 := by rw [j_t213.2.2.1]; exact la_n_t212
        have wl_n_t213 : m_wh t213 ((m_md t0)) = 81 := by rw [j_t213.1]; exact wl_n_t212
        clear la_n_t212 wl_n_t212
        refine Ok_ret (show Ok _ _ _ from ?_)
        refine Hv_mk (Kv_c (x := (3, m_md t0, t &&& 1)) rfl (Kv_c (x := (6, m_md t0, 0)) rfl hK)) (C_t213.1.2.2.2.2.2.2 hTt) C_t213 hT (by omega) (by omega) (by omega) ?_ ?_ ?_ (by omega) ?_ ?_ ?_
        · exact ⟨(Io_n (by decide) (show t &&& 1 < 4096 from by omega) I_m_mdt0_t213.1 I_m_mdt0_t213.2.1 I_m_mdt0_t213.2.2.1 (fun q => absurd q (by decide)) (fun q => absurd q (by decide)) I_m_mdt0_t213.2.2.2), (Nd_0 (by decide) Mo_nil), ⟨(Io_6 (by decide)), (Nd_x (by decide)), Stk_step (N := n) (pop := (3, n, t)) (new := [(6, m_md t0, 0), (3, m_md t0, t &&& 1)]) F0 C_t213.1.to2 (fun (h : nk 3 = false) => absurd h (by decide)) (fun q _ h => h (3, n, t) rfl) (fun _ => rfl) (fun y hy hk => ⟨rfl, (Mo_cons (fun q => absurd (show nk 6 = true from q) (by decide)) (Mo_cons (fun q => show n ≤ m_md t0 from by omega) Mo_nil)) y hy hk⟩) (fun _ => Or.inl f_n_t213) (fun (h : 3 = 18) => absurd h (by decide)) (fun (h : 3 = 41 ∨ 3 = 42 ∨ 3 = 43) => absurd h (by decide)) r [] (fun y hy => absurd hy List.not_mem_nil) hS⟩⟩
        · exact (Aj_up (x := (3, m_md t0, t &&& 1)) (Aj_sub (y := (6, m_md t0, 0)) hJ (Nat.le_of_ble_eq_true rfl)) (Or.inl (Nat.le_of_ble_eq_true rfl)))
        · show m_dp t213 = (dlt 3 + (dlt 6 + sD r))
          have : dlt 3 = 0 := rfl; have : dlt 6 = 1 := rfl; omega
        · show m_rw t213 = (rho 3 + (rho 6 + sR r))
          have : rho 3 = 0 := rfl; have : rho 6 = 0 := rfl; omega
        · show m_md t213 + (mu7 3 + (mu7 6 + sM r)) ≤ 3 * m_at t213 + 7 * (r.length + 1 + 1) + 10
          have : mu7 3 = 5 := rfl; have : mu7 6 = 7 := rfl; omega
        · show (wt 3 + (wt 6 + sW r)) + 6 * (4096 - m_at t213) + 4 * (600 - (r.length + 1 + 1)) < (wt 3 + sW r) + 6 * (4096 - m_at t0) + 4 * (600 - (r.length + 1))
          have : wt 3 = 3 := rfl; have : wt 6 = 5 := rfl; omega
      · have w_t210 := Nat.pos_of_ne_zero w_t210
        have I_n_t210 := I_n_t209.flat X_t210
        have f_n_t210 := f_n_t209.ex I_n_t209 (X_t210 0)
        have I_m_mdt0_t210 := I_m_mdt0_t209.flat X_t210
        have u_m_mdt0_t210 := u_m_mdt0_t209.ex I_m_mdt0_t209 (X_t210 0)
        have la_n_t210 : m_la t210 n = (m_md t0) + 1 := by rw [j_t210.2.2.1]; exact la_n_t209
        have wl_n_t210 : m_wh t210 ((m_md t0)) = 81 := by rw [j_t210.1]; exact wl_n_t209
        clear la_n_t209 wl_n_t209
        refine Kp_at C_t210 (fun t214 C_t214 X_t214 a_t214 b_t214 d_t214 w_t214 u_t214 v_t214 j_t214 l_t214 => ?_)
        have e_t214 := C_t214.2.2.2.1
        have I_n_t214 := I_n_t210.flat X_t214
        have f_n_t214 := f_n_t210.ex I_n_t210 (X_t214 0)
        have I_m_mdt0_t214 := I_m_mdt0_t210.flat X_t214
        have u_m_mdt0_t214 := u_m_mdt0_t210.ex I_m_mdt0_t210 (X_t214 0)
        have la_n_t214 : m_la t214 n = (m_md t0) + 1 := by rw [j_t214.2.2.1]; exact la_n_t210
        have wl_n_t214 : m_wh t214 ((m_md t0)) = 81 := by rw [j_t214.1]; exact wl_n_t210
        clear la_n_t210 wl_n_t210
        refine Kp_push C_t214 (by omega) (fun t215 C_t215 X_t215 a_t215 b_t215 d_t215 w_t215 u_t215 v_t215 j_t215 l_t215 => ?_)
        have e_t215 := C_t215.2.2.2.1
        have I_n_t215 := I_n_t214.flat X_t215
        have f_n_t215 := f_n_t214.ex I_n_t214 (X_t215 0)
        have I_m_mdt0_t215 := I_m_mdt0_t214.flat X_t215
        have u_m_mdt0_t215 := u_m_mdt0_t214.ex I_m_mdt0_t214 (X_t215 0)
        have la_n_t215 : m_la t215 n = (m_md t0) + 1 := by rw [j_t215.2.2.1]; exact la_n_t214
        have wl_n_t215 : m_wh t215 ((m_md t0)) = 81 := by rw [j_t215.1]; exact wl_n_t214
        clear la_n_t214 wl_n_t214
        refine Kp_push C_t215 (by omega) (fun t216 C_t216 X_t216 a_t216 b_t216 d_t216 w_t216 u_t216 v_t216 j_t216 l_t216 => ?_)
        have e_t216 := C_t216.2.2.2.1
        have I_n_t216 := I_n_t215.flat X_t216
        have f_n_t216 := f_n_t215.ex I_n_t215 (X_t216 0)
        have I_m_mdt0_t216 := I_m_mdt0_t215.flat X_t216
        have u_m_mdt0_t216 := u_m_mdt0_t215.ex I_m_mdt0_t215 (X_t216 0)
        have la_n_t216 : m_la t216 n = (m_md t0) + 1 := by rw [j_t216.2.2.1]; exact la_n_t215
        have wl_n_t216 : m_wh t216 ((m_md t0)) = 81 := by rw [j_t216.1]; exact wl_n_t215
        clear la_n_t215 wl_n_t215
        refine Ok_ret (show Ok _ _ _ from ?_)
        exact Or.inl ⟨Nat.ne_of_gt (show 0 < m_wr t216 from by omega), by omega, by omega, C_t216.2.2.2.2.2, by omega⟩

