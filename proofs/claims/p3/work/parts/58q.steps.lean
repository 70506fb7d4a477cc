/-! The steps of the reference, one by one. -/
theorem S_51 {t0 : Mm} {n t : Nat} {r : List It} (H : Hp t0 (51, n, t) r) {E : Mm → Prop} : Ok (Qh (mz t0 ((51, n, t) :: r))) E (b_X6_step 51 n t t0) := by
  obtain ⟨hK, hT, hc, hw0, ha, hC, hS, hJ, hdp, hdl, hrw, hmd, htd, hln, hm16, hI, hD, hTt⟩ := Hp_out H
  have C_t0 := hC n
  have F0 := C_t0.2.1
  have I_n_t0 : Nq t0 n := ⟨(hI.2.1 rfl).1, (hI.2.1 rfl).2.1, (hI.2.1 rfl).2.2, hI.2.2.2 rfl⟩
  have m_n_t0 := I_n_t0.1
  have ht : t < 4096 := hI.1.1 (show 51 ≠ 42 by decide) (show 51 ≠ 48 by decide)
  have hdp : m_dp t0 = dlt 51 + sD r := hdp
  have hrw : m_rw t0 = rho 51 + sR r := hrw
  have hmd : m_md t0 + mu7 51 + sM r ≤ 3 * m_at t0 + 7 * r.length + 17 := hmd
  have hand : t &&& 1 ≤ 1 := Nat.and_le_right
  have h01 : (0 &&& 1 : Nat) = 0 := rfl
  have h02 : (1 : Nat) * 256 = 256 := rfl
  have hq1 : dlt 51 = 1 := rfl
  have hq2 : rho 51 = 0 := rfl
  have hq3 : mu7 51 = 4 := rfl
  unfold b_X6_step
  refine Ok_ifl (by decide) (by decide) (fun _ => ?_) (fun q => absurd (by decide) q)
  refine Ok_ifl (by decide) (by decide) (fun q => absurd q (by decide)) (fun _ => ?_)
  refine Ok_ifl (by decide) (by decide) (fun q => absurd q (by decide)) (fun _ => ?_)
  refine Ok_ifl (by decide) (by decide) (fun q => absurd q (by decide)) (fun _ => ?_)
  refine Ok_bnc ?_
  try unfold b_X6_stating
  refine Ok_ck (by decide) ?_
  refine Ok_ife (by decide) (by decide) (fun q => absurd q (by decide)) (fun _ => ?_)
  refine Ok_ife (by decide) (by decide) (fun q => absurd q (by decide)) (fun _ => ?_)
  refine Ok_ife (by decide) (by decide) (fun q => absurd q (by decide)) (fun _ => ?_)
  refine Ok_ife (by decide) (by decide) (fun q => absurd q (by decide)) (fun _ => ?_)
  refine Ok_ife (by decide) (by decide) (fun q => absurd q (by decide)) (fun _ => ?_)
  refine Ok_ife (by decide) (by decide) (fun q => absurd q (by decide)) (fun _ => ?_)
  refine Ok_ife (by decide) (by decide) (fun q => absurd q (by decide)) (fun _ => ?_)
  refine Ok_ife (by decide) (by decide) (fun q => absurd q (by decide)) (fun _ => ?_)
  refine Ok_ife (by decide) (by decide) (fun q => absurd q (by decide)) (fun _ => ?_)
  refine Ok_ife (by decide) (by decide) (fun q => absurd q (by decide)) (fun _ => ?_)
  refine Ok_ife (by decide) (by decide) (fun _ => ?_) (fun q => absurd (by decide) q)
  refine Ok_bnc ?_
  try unfold b_X6_clauses
  refine Kp_look C_t0 hT (by omega) ?_
  refine Ok_ife (Nat.lt_trans (lo_lt (C_t0.tk hT) _) (by decide)) (by decide) (fun q3 => ?_) (fun q3 => ?_)
  · have z_t4 : m_at t0 < m_ct t0 := lo_ne (Nat.ne_of_gt (show 0 < lo t0 (m_at t0) from by omega))
    refine Kp_at C_t0 (fun t4 C_t4 X_t4 a_t4 b_t4 d_t4 w_t4 u_t4 v_t4 j_t4 l_t4 => ?_)
    have e_t4 := C_t4.2.2.2.1
    have I_n_t4 := I_n_t0.flat X_t4
    refine Ok_ck (show (m_dp t4) ≠ 0 from by omega) ?_
    refine Kp_dp C_t4 (fun t5 C_t5 X_t5 a_t5 b_t5 d_t5 w_t5 u_t5 v_t5 j_t5 l_t5 => ?_)
    have e_t5 := C_t5.2.2.2.1
    rw [a_t4] at a_t5
    rw [b_t4] at b_t5
    rw [d_t4] at d_t5
    rw [w_t4] at w_t5
    rw [u_t4] at u_t5
    rw [v_t4] at v_t5
    clear d_t4 w_t4 u_t4 v_t4 e_t4 a_t4 b_t4
    have I_n_t5 := I_n_t4.flat X_t5
    refine Ok_ret (show Ok _ _ _ from ?_)
    refine Ok_ret (show Ok _ _ _ from ?_)
    refine Hv_mk hK (C_t5.1.2.2.2.2.2.2 hTt) C_t5 hT (by omega) (by omega) (by omega) ?_ ?_ ?_ (by omega) ?_ ?_ ?_
    · exact Stk_step (N := n) (pop := (51, n, t)) (new := []) F0 C_t5.1.to2 (fun (h : nk 51 = false) => absurd h (by decide)) (fun q _ h => h (51, n, t) rfl) (fun _ => rfl) (fun y hy hk => ⟨rfl, Mo_nil (n := n) y hy hk⟩) (fun (h : 51 = 3 ∨ 51 = 18 ∨ 51 = 41) => absurd h (by decide)) (fun (h : 51 = 18) => absurd h (by decide)) (fun (h : 51 = 41 ∨ 51 = 42 ∨ 51 = 43) => absurd h (by decide)) r [] (fun y hy => absurd hy List.not_mem_nil) hS
    · exact Aj_tl hJ
    · show m_dp t5 = sD r
      have : dlt 51 = 1 := rfl; omega
    · show m_rw t5 = sR r
      have : rho 51 = 0 := rfl; omega
    · show m_md t5 + sM r ≤ 3 * m_at t5 + 7 * (r.length) + 10
      have : mu7 51 = 4 := rfl; omega
    · show sW r + 6 * (4096 - m_at t5) + 4 * (600 - (r.length)) < (wt 51 + sW r) + 6 * (4096 - m_at t0) + 4 * (600 - (r.length + 1))
      have : wt 51 = 0 := rfl; omega
  · refine Ok_ife (Nat.lt_trans (lo_lt (C_t0.tk hT) _) (by decide)) (by decide) (fun q6 => ?_) (fun q6 => ?_)
    · refine Ok_ife (show t < 2147483648 from by omega) (by decide) (fun q7 => ?_) (fun q7 => ?_)
      · refine Ok_ife (Nat.lt_trans (lo_lt (C_t0.tk hT) _) (by decide)) (by decide) (fun q => ?_) (fun q => absurd q6 q)
        refine Kp_child C_t0 I_n_t0.1 I_n_t0.2.1 I_n_t0.2.2.1 (by omega) (by omega) (by decide) (by decide) (fun t8 C_t8 X_t8 a_t8 b_t8 d_t8 w_t8 u_t8 v_t8 j_t8 l_t8 => ?_)
        have e_t8 := C_t8.2.2.2.1
        have I_n_t8 := I_n_t0.chd X_t8 j_t8
        have f_n_t8 : Fz t8 n := j_t8.2.2.2.2.1
        have I_m_mdt0_t8 : Nq t8 (m_md t0) := Nq.chn j_t8 (by omega) I_n_t0 (by decide)
        have u_m_mdt0_t8 : Up t8 (m_md t0) := Or.inl j_t8.2.1
        have z_t9 : m_at t8 < m_ct t8 := lo_ne (Nat.ne_of_gt (show 0 < lo t8 (m_at t8) from by omega))
        refine Kp_at C_t8 (fun t9 C_t9 X_t9 a_t9 b_t9 d_t9 w_t9 u_t9 v_t9 j_t9 l_t9 => ?_)
        have e_t9 := C_t9.2.2.2.1
        rw [a_t8] at a_t9
        rw [b_t8] at b_t9
        rw [d_t8] at d_t9
        rw [w_t8] at w_t9
        rw [u_t8] at u_t9
        rw [v_t8] at v_t9
        rw [a_t8, e_t8] at z_t9
        clear d_t8 w_t8 u_t8 v_t8 e_t8 a_t8 b_t8
        have I_n_t9 := I_n_t8.flat X_t9
        have f_n_t9 := f_n_t8.ex I_n_t8 (X_t9 0)
        have I_m_mdt0_t9 := I_m_mdt0_t8.flat X_t9
        have u_m_mdt0_t9 := u_m_mdt0_t8.ex I_m_mdt0_t8 (X_t9 0)
        refine Kp_push C_t9 (by omega) (fun t10 C_t10 X_t10 a_t10 b_t10 d_t10 w_t10 u_t10 v_t10 j_t10 l_t10 => ?_)
        have e_t10 := C_t10.2.2.2.1
        rw [a_t9] at a_t10
        rw [b_t9] at b_t10
        rw [d_t9] at d_t10
        rw [w_t9] at w_t10
        rw [u_t9] at u_t10
        rw [v_t9] at v_t10
        clear d_t9 w_t9 u_t9 v_t9 e_t9 a_t9 b_t9
        have I_n_t10 := I_n_t9.flat X_t10
        have f_n_t10 := f_n_t9.ex I_n_t9 (X_t10 0)
        have I_m_mdt0_t10 := I_m_mdt0_t9.flat X_t10
        have u_m_mdt0_t10 := u_m_mdt0_t9.ex I_m_mdt0_t9 (X_t10 0)
        refine Kp_push C_t10 (by omega) (fun t11 C_t11 X_t11 a_t11 b_t11 d_t11 w_t11 u_t11 v_t11 j_t11 l_t11 => ?_)
        have e_t11 := C_t11.2.2.2.1
        rw [a_t10] at a_t11
        rw [b_t10] at b_t11
        rw [d_t10] at d_t11
        rw [w_t10] at w_t11
        rw [u_t10] at u_t11
        rw [v_t10] at v_t11
        clear d_t10 w_t10 u_t10 v_t10 e_t10 a_t10 b_t10
        have I_n_t11 := I_n_t10.flat X_t11
        have f_n_t11 := f_n_t10.ex I_n_t10 (X_t11 0)
        have I_m_mdt0_t11 := I_m_mdt0_t10.flat X_t11
        have u_m_mdt0_t11 := u_m_mdt0_t10.ex I_m_mdt0_t10 (X_t11 0)
        refine Ok_ife (Nat.lt_trans (lo_lt (C_t0.tk hT) _) (by decide)) (by decide) (fun q => absurd (q6.symm.trans q) (by decide)) (fun _ => ?_)
        refine Ok_ifz (show t < 2147483648 from by omega) (fun q12 => ?_) (fun q12 => ?_)
        · refine Ok_bnc ?_
          try unfold b_X6_exprs
          refine Kp_child C_t11 I_m_mdt0_t11.1 I_m_mdt0_t11.2.1 I_m_mdt0_t11.2.2.1 (by omega) (by omega) (by decide) (by decide) (fun t14 C_t14 X_t14 a_t14 b_t14 d_t14 w_t14 u_t14 v_t14 j_t14 l_t14 => ?_)
          have e_t14 := C_t14.2.2.2.1
          rw [a_t11] at a_t14
          rw [b_t11] at b_t14
          rw [d_t11] at d_t14
          rw [w_t11] at w_t14
          rw [u_t11] at u_t14
          rw [v_t11] at v_t14
          clear d_t11 w_t11 u_t11 v_t11 e_t11 a_t11
          have I_n_t14 := I_n_t11.chd X_t14 j_t14
          have f_n_t14 := f_n_t11.ex I_n_t11 (X_t14 0 (Nat.zero_le _))
          have I_m_mdt0_t14 := I_m_mdt0_t11.chd X_t14 j_t14
          have u_m_mdt0_t14 := u_m_mdt0_t11.ex I_m_mdt0_t11 (X_t14 0 (Nat.zero_le _))
          have f_m_mdt0_t14 : Fz t14 (m_md t0) := j_t14.2.2.2.2.1
          have I_m_mdt11_t14 : Nq t14 (m_md t11) := Nq.chn j_t14 (by omega) I_m_mdt0_t11 (by decide)
          have u_m_mdt11_t14 : Up t14 (m_md t11) := Or.inl j_t14.2.1
          refine Kp_push C_t14 (by omega) (fun t15 C_t15 X_t15 a_t15 b_t15 d_t15 w_t15 u_t15 v_t15 j_t15 l_t15 => ?_)
          have e_t15 := C_t15.2.2.2.1
          rw [a_t14] at a_t15
          rw [b_t14] at b_t15
          rw [d_t14] at d_t15
          rw [w_t14] at w_t15
          rw [u_t14] at u_t15
          rw [v_t14] at v_t15
          clear d_t14 w_t14 u_t14 v_t14 e_t14 a_t14 b_t14
          have I_n_t15 := I_n_t14.flat X_t15
          have f_n_t15 := f_n_t14.ex I_n_t14 (X_t15 0)
          have I_m_mdt0_t15 := I_m_mdt0_t14.flat X_t15
          have f_m_mdt0_t15 := f_m_mdt0_t14.ex I_m_mdt0_t14 (X_t15 0)
          have u_m_mdt0_t15 := u_m_mdt0_t14.ex I_m_mdt0_t14 (X_t15 0)
          have I_m_mdt11_t15 := I_m_mdt11_t14.flat X_t15
          have u_m_mdt11_t15 := u_m_mdt11_t14.ex I_m_mdt11_t14 (X_t15 0)
          refine Ok_bnc ?_
          try unfold b_X6_expression
          refine Kp_push C_t15 (by omega) (fun t17 C_t17 X_t17 a_t17 b_t17 d_t17 w_t17 u_t17 v_t17 j_t17 l_t17 => ?_)
          have e_t17 := C_t17.2.2.2.1
          rw [a_t15] at a_t17
          rw [b_t15] at b_t17
          rw [d_t15] at d_t17
          rw [w_t15] at w_t17
          rw [u_t15] at u_t17
          rw [v_t15] at v_t17
          clear d_t15 w_t15 u_t15 v_t15 e_t15 a_t15 b_t15
          have I_n_t17 := I_n_t15.flat X_t17
          have f_n_t17 := f_n_t15.ex I_n_t15 (X_t17 0)
          have I_m_mdt0_t17 := I_m_mdt0_t15.flat X_t17
          have f_m_mdt0_t17 := f_m_mdt0_t15.ex I_m_mdt0_t15 (X_t17 0)
          have u_m_mdt0_t17 := u_m_mdt0_t15.ex I_m_mdt0_t15 (X_t17 0)
          have I_m_mdt11_t17 := I_m_mdt11_t15.flat X_t17
          have u_m_mdt11_t17 := u_m_mdt11_t15.ex I_m_mdt11_t15 (X_t17 0)
          refine Kp_push C_t17 (by omega) (fun t18 C_t18 X_t18 a_t18 b_t18 d_t18 w_t18 u_t18 v_t18 j_t18 l_t18 => ?_)
          have e_t18 := C_t18.2.2.2.1
          rw [a_t17] at a_t18
          rw [b_t17] at b_t18
          rw [d_t17] at d_t18
          rw [w_t17] at w_t18
          rw [u_t17] at u_t18
          rw [v_t17] at v_t18
          clear d_t17 w_t17 u_t17 v_t17 e_t17 a_t17 b_t17
          have I_n_t18 := I_n_t17.flat X_t18
          have f_n_t18 := f_n_t17.ex I_n_t17 (X_t18 0)
          have I_m_mdt0_t18 := I_m_mdt0_t17.flat X_t18
          have f_m_mdt0_t18 := f_m_mdt0_t17.ex I_m_mdt0_t17 (X_t18 0)
          have u_m_mdt0_t18 := u_m_mdt0_t17.ex I_m_mdt0_t17 (X_t18 0)
          have I_m_mdt11_t18 := I_m_mdt11_t17.flat X_t18
          have u_m_mdt11_t18 := u_m_mdt11_t17.ex I_m_mdt11_t17 (X_t18 0)
          refine Ok_ret (show Ok _ _ _ from ?_)
          refine Ok_ret (show Ok _ _ _ from ?_)
          refine Ok_ret (show Ok _ _ _ from ?_)
          refine Ok_ret (show Ok _ _ _ from ?_)
          refine Hv_mk (Kv_c (x := (3, m_md t11, 0 &&& 1)) rfl (Kv_c (x := (2, m_md t11, (0 &&& 1) ||| (1 * 256))) rfl (Kv_c (x := (32, m_md t11, 0 &&& 1)) rfl (Kv_c (x := (52, m_md t0, 0)) rfl (Kv_c (x := (51, n, t)) rfl hK))))) (C_t18.1.2.2.2.2.2.2 hTt) C_t18 hT (by omega) (by omega) (by omega) ?_ ?_ ?_ (by omega) ?_ ?_ ?_
          · exact ⟨(Io_n (by decide) (show 0 &&& 1 < 4096 from by omega) I_m_mdt11_t18.1 I_m_mdt11_t18.2.1 I_m_mdt11_t18.2.2.1 (fun q => absurd q (by decide)) (fun q => absurd q (by decide)) I_m_mdt11_t18.2.2.2), (Nd_0 (by decide) Mo_nil), ⟨(Io_2 (by have := or_256 (b := 1) (show (0 &&& 1) < 256 from by omega); omega) (by have := or_256 (b := 1) (show (0 &&& 1) < 256 from by omega); omega) (by have := or_256 (b := 1) (show (0 &&& 1) < 256 from by omega); omega) I_m_mdt11_t18.1 I_m_mdt11_t18.2.1 I_m_mdt11_t18.2.2.1 I_m_mdt11_t18.2.2.2), (Nd_A (by decide) (Mo_cons (fun q => show m_md t11 ≤ m_md t11 from by omega) Mo_nil) (Or.inr ⟨(3, m_md t11, 0 &&& 1), List.mem_cons_self, rfl, Or.inl rfl⟩)), ⟨(Io_n (by decide) (show 0 &&& 1 < 4096 from by omega) I_m_mdt11_t18.1 I_m_mdt11_t18.2.1 I_m_mdt11_t18.2.2.1 (fun q => absurd q (by decide)) (fun q => absurd q (by decide)) I_m_mdt11_t18.2.2.2), (Nd_0 (by decide) (Mo_cons (fun q => show m_md t11 ≤ m_md t11 from by omega) (Mo_cons (fun q => show m_md t11 ≤ m_md t11 from by omega) Mo_nil))), ⟨(Io_n (by decide) (by decide) I_m_mdt0_t18.1 I_m_mdt0_t18.2.1 I_m_mdt0_t18.2.2.1 (fun q => absurd q (by decide)) (fun q => absurd q (by decide)) I_m_mdt0_t18.2.2.2), (Nd_0 (by decide) (Mo_cons (fun q => show m_md t0 ≤ m_md t11 from by omega) (Mo_cons (fun q => show m_md t0 ≤ m_md t11 from by omega) (Mo_cons (fun q => show m_md t0 ≤ m_md t11 from by omega) Mo_nil)))), ⟨(Io_n (by decide) (show t < 4096 from by omega) I_n_t18.1 I_n_t18.2.1 I_n_t18.2.2.1 (fun q => absurd q (by decide)) (fun q => absurd q (by decide)) I_n_t18.2.2.2), (Nd_0 (by decide) (Mo_cons (fun q => show n ≤ m_md t0 from by omega) (Mo_cons (fun q => show n ≤ m_md t11 from by omega) (Mo_cons (fun q => show n ≤ m_md t11 from by omega) (Mo_cons (fun q => show n ≤ m_md t11 from by omega) Mo_nil))))), Stk_step (N := n) (pop := (51, n, t)) (new := [(51, n, t), (52, m_md t0, 0), (32, m_md t11, 0 &&& 1), (2, m_md t11, (0 &&& 1) ||| (1 * 256)), (3, m_md t11, 0 &&& 1)]) F0 C_t18.1.to2 (fun (h : nk 51 = false) => absurd h (by decide)) (fun q _ h => h (51, n, t) rfl) (fun _ => rfl) (fun y hy hk => ⟨rfl, (Mo_cons (fun q => show n ≤ n from by omega) (Mo_cons (fun q => show n ≤ m_md t0 from by omega) (Mo_cons (fun q => show n ≤ m_md t11 from by omega) (Mo_cons (fun q => show n ≤ m_md t11 from by omega) (Mo_cons (fun q => show n ≤ m_md t11 from by omega) Mo_nil))))) y hy hk⟩) (fun (h : 51 = 3 ∨ 51 = 18 ∨ 51 = 41) => absurd h (by decide)) (fun (h : 51 = 18) => absurd h (by decide)) (fun (h : 51 = 41 ∨ 51 = 42 ∨ 51 = 43) => absurd h (by decide)) r [] (fun y hy => absurd hy List.not_mem_nil) hS⟩⟩⟩⟩⟩
          · exact (Aj_up (x := (3, m_md t11, 0 &&& 1)) (Aj_up (x := (2, m_md t11, (0 &&& 1) ||| (1 * 256))) (Aj_up (x := (32, m_md t11, 0 &&& 1)) (Aj_up (x := (52, m_md t0, 0)) (Aj_sub (y := (51, n, t)) hJ (Nat.le_of_ble_eq_true rfl)) (Or.inl (Nat.le_of_ble_eq_true rfl))) (Or.inr (Nat.le_of_ble_eq_true rfl))) (Or.inr (show 9 - ((0 &&& 1) ||| (1 * 256)) / 256 < 9 from by have := or_256 (b := 1) (show (0 &&& 1) < 256 from by omega); omega))) (Or.inr (show 2 < 9 - ((0 &&& 1) ||| (1 * 256)) / 256 from by have := or_256 (b := 1) (show (0 &&& 1) < 256 from by omega); omega)))
          · show m_dp t18 = (dlt 3 + (dlt 2 + (dlt 32 + (dlt 52 + (dlt 51 + sD r)))))
            have : dlt 2 = 0 := rfl; have : dlt 3 = 0 := rfl; have : dlt 32 = 0 := rfl; have : dlt 51 = 1 := rfl; have : dlt 52 = 0 := rfl; omega
          · show m_rw t18 = (rho 3 + (rho 2 + (rho 32 + (rho 52 + (rho 51 + sR r)))))
            have : rho 2 = 0 := rfl; have : rho 3 = 0 := rfl; have : rho 32 = 0 := rfl; have : rho 51 = 0 := rfl; have : rho 52 = 0 := rfl; omega
          · show m_md t18 + (mu7 3 + (mu7 2 + (mu7 32 + (mu7 52 + (mu7 51 + sM r))))) ≤ 3 * m_at t18 + 7 * (r.length + 1 + 1 + 1 + 1 + 1) + 10
            have : mu7 2 = 7 := rfl; have : mu7 3 = 5 := rfl; have : mu7 32 = 7 := rfl; have : mu7 51 = 4 := rfl; have : mu7 52 = 5 := rfl; omega
          · show (wt 3 + (wt 2 + (wt 32 + (wt 52 + (wt 51 + sW r))))) + 6 * (4096 - m_at t18) + 4 * (600 - (r.length + 1 + 1 + 1 + 1 + 1)) < (wt 51 + sW r) + 6 * (4096 - m_at t0) + 4 * (600 - (r.length + 1))
            have : wt 2 = 5 := rfl; have : wt 3 = 3 := rfl; have : wt 32 = 5 := rfl; have : wt 51 = 0 := rfl; have : wt 52 = 4 := rfl; omega
        · refine Ok_ife (show t < 2147483648 from by omega) (by decide) (fun q => ?_) (fun q => absurd q7 q)
          refine Kp_push C_t11 (by omega) (fun t19 C_t19 X_t19 a_t19 b_t19 d_t19 w_t19 u_t19 v_t19 j_t19 l_t19 => ?_)
          have e_t19 := C_t19.2.2.2.1
          rw [a_t11] at a_t19
          rw [b_t11] at b_t19
          rw [d_t11] at d_t19
          rw [w_t11] at w_t19
          rw [u_t11] at u_t19
          rw [v_t11] at v_t19
          clear d_t11 w_t11 u_t11 v_t11 e_t11 a_t11 b_t11
          have I_n_t19 := I_n_t11.flat X_t19
          have f_n_t19 := f_n_t11.ex I_n_t11 (X_t19 0)
          have I_m_mdt0_t19 := I_m_mdt0_t11.flat X_t19
          have u_m_mdt0_t19 := u_m_mdt0_t11.ex I_m_mdt0_t11 (X_t19 0)
          refine Ok_ret (show Ok _ _ _ from ?_)
          refine Ok_ret (show Ok _ _ _ from ?_)
          refine Hv_mk (Kv_c (x := (41, m_md t0, 32)) rfl (Kv_c (x := (52, m_md t0, 0)) rfl (Kv_c (x := (51, n, t)) rfl hK))) (C_t19.1.2.2.2.2.2.2 hTt) C_t19 hT (by omega) (by omega) (by omega) ?_ ?_ ?_ (by omega) ?_ ?_ ?_
          · exact ⟨(Io_41 (by decide) I_m_mdt0_t19.1 I_m_mdt0_t19.2.1 I_m_mdt0_t19.2.2.1 u_m_mdt0_t19 I_m_mdt0_t19.2.2.2), (Nd_0 (by decide) Mo_nil), ⟨(Io_n (by decide) (by decide) I_m_mdt0_t19.1 I_m_mdt0_t19.2.1 I_m_mdt0_t19.2.2.1 (fun q => absurd q (by decide)) (fun q => absurd q (by decide)) I_m_mdt0_t19.2.2.2), (Nd_0 (by decide) (Mo_cons (fun q => show m_md t0 ≤ m_md t0 from by omega) Mo_nil)), ⟨(Io_n (by decide) (show t < 4096 from by omega) I_n_t19.1 I_n_t19.2.1 I_n_t19.2.2.1 (fun q => absurd q (by decide)) (fun q => absurd q (by decide)) I_n_t19.2.2.2), (Nd_0 (by decide) (Mo_cons (fun q => show n ≤ m_md t0 from by omega) (Mo_cons (fun q => show n ≤ m_md t0 from by omega) Mo_nil))), Stk_step (N := n) (pop := (51, n, t)) (new := [(51, n, t), (52, m_md t0, 0), (41, m_md t0, 32)]) F0 C_t19.1.to2 (fun (h : nk 51 = false) => absurd h (by decide)) (fun q _ h => h (51, n, t) rfl) (fun _ => rfl) (fun y hy hk => ⟨rfl, (Mo_cons (fun q => show n ≤ n from by omega) (Mo_cons (fun q => show n ≤ m_md t0 from by omega) (Mo_cons (fun q => show n ≤ m_md t0 from by omega) Mo_nil))) y hy hk⟩) (fun (h : 51 = 3 ∨ 51 = 18 ∨ 51 = 41) => absurd h (by decide)) (fun (h : 51 = 18) => absurd h (by decide)) (fun (h : 51 = 41 ∨ 51 = 42 ∨ 51 = 43) => absurd h (by decide)) r [] (fun y hy => absurd hy List.not_mem_nil) hS⟩⟩⟩
          · exact (Aj_up (x := (41, m_md t0, 32)) (Aj_up (x := (52, m_md t0, 0)) (Aj_sub (y := (51, n, t)) hJ (Nat.le_of_ble_eq_true rfl)) (Or.inl (Nat.le_of_ble_eq_true rfl))) (Or.inr (Nat.le_of_ble_eq_true rfl)))
          · show m_dp t19 = (dlt 41 + (dlt 52 + (dlt 51 + sD r)))
            have : dlt 41 = 0 := rfl; have : dlt 51 = 1 := rfl; have : dlt 52 = 0 := rfl; omega
          · show m_rw t19 = (rho 41 + (rho 52 + (rho 51 + sR r)))
            have : rho 41 = 0 := rfl; have : rho 51 = 0 := rfl; have : rho 52 = 0 := rfl; omega
          · show m_md t19 + (mu7 41 + (mu7 52 + (mu7 51 + sM r))) ≤ 3 * m_at t19 + 7 * (r.length + 1 + 1 + 1) + 10
            have : mu7 41 = 6 := rfl; have : mu7 51 = 4 := rfl; have : mu7 52 = 5 := rfl; omega
          · show (wt 41 + (wt 52 + (wt 51 + sW r))) + 6 * (4096 - m_at t19) + 4 * (600 - (r.length + 1 + 1 + 1)) < (wt 51 + sW r) + 6 * (4096 - m_at t0) + 4 * (600 - (r.length + 1))
            have : wt 41 = 6 := rfl; have : wt 51 = 0 := rfl; have : wt 52 = 4 := rfl; omega
      · refine Ok_ife (Nat.lt_trans (lo_lt (C_t0.tk hT) _) (by decide)) (by decide) (fun q => ?_) (fun q => absurd q6 q)
        refine Kp_child C_t0 I_n_t0.1 I_n_t0.2.1 I_n_t0.2.2.1 (by omega) (by omega) (by decide) (by decide) (fun t20 C_t20 X_t20 a_t20 b_t20 d_t20 w_t20 u_t20 v_t20 j_t20 l_t20 => ?_)
        have e_t20 := C_t20.2.2.2.1
        have I_n_t20 := I_n_t0.chd X_t20 j_t20
        have f_n_t20 : Fz t20 n := j_t20.2.2.2.2.1
        have I_m_mdt0_t20 : Nq t20 (m_md t0) := Nq.chn j_t20 (by omega) I_n_t0 (by decide)
        have u_m_mdt0_t20 : Up t20 (m_md t0) := Or.inl j_t20.2.1
        have z_t21 : m_at t20 < m_ct t20 := lo_ne (Nat.ne_of_gt (show 0 < lo t20 (m_at t20) from by omega))
        refine Kp_at C_t20 (fun t21 C_t21 X_t21 a_t21 b_t21 d_t21 w_t21 u_t21 v_t21 j_t21 l_t21 => ?_)
        have e_t21 := C_t21.2.2.2.1
        rw [a_t20] at a_t21
        rw [b_t20] at b_t21
        rw [d_t20] at d_t21
        rw [w_t20] at w_t21
        rw [u_t20] at u_t21
        rw [v_t20] at v_t21
        rw [a_t20, e_t20] at z_t21
        clear d_t20 w_t20 u_t20 v_t20 e_t20 a_t20 b_t20
        have I_n_t21 := I_n_t20.flat X_t21
        have f_n_t21 := f_n_t20.ex I_n_t20 (X_t21 0)
        have I_m_mdt0_t21 := I_m_mdt0_t20.flat X_t21
        have u_m_mdt0_t21 := u_m_mdt0_t20.ex I_m_mdt0_t20 (X_t21 0)
        refine Kp_push C_t21 (by omega) (fun t22 C_t22 X_t22 a_t22 b_t22 d_t22 w_t22 u_t22 v_t22 j_t22 l_t22 => ?_)
        have e_t22 := C_t22.2.2.2.1
        rw [a_t21] at a_t22
        rw [b_t21] at b_t22
        rw [d_t21] at d_t22
        rw [w_t21] at w_t22
        rw [u_t21] at u_t22
        rw [v_t21] at v_t22
        clear d_t21 w_t21 u_t21 v_t21 e_t21 a_t21 b_t21
        have I_n_t22 := I_n_t21.flat X_t22
        have f_n_t22 := f_n_t21.ex I_n_t21 (X_t22 0)
        have I_m_mdt0_t22 := I_m_mdt0_t21.flat X_t22
        have u_m_mdt0_t22 := u_m_mdt0_t21.ex I_m_mdt0_t21 (X_t22 0)
        refine Kp_push C_t22 (by omega) (fun t23 C_t23 X_t23 a_t23 b_t23 d_t23 w_t23 u_t23 v_t23 j_t23 l_t23 => ?_)
        have e_t23 := C_t23.2.2.2.1
        rw [a_t22] at a_t23
        rw [b_t22] at b_t23
        rw [d_t22] at d_t23
        rw [w_t22] at w_t23
        rw [u_t22] at u_t23
        rw [v_t22] at v_t23
        clear d_t22 w_t22 u_t22 v_t22 e_t22 a_t22 b_t22
        have I_n_t23 := I_n_t22.flat X_t23
        have f_n_t23 := f_n_t22.ex I_n_t22 (X_t23 0)
        have I_m_mdt0_t23 := I_m_mdt0_t22.flat X_t23
        have u_m_mdt0_t23 := u_m_mdt0_t22.ex I_m_mdt0_t22 (X_t23 0)
        refine Ok_ife (Nat.lt_trans (lo_lt (C_t0.tk hT) _) (by decide)) (by decide) (fun q => absurd (q6.symm.trans q) (by decide)) (fun _ => ?_)
        refine Ok_ifz (show t < 2147483648 from by omega) (fun q24 => ?_) (fun q24 => ?_)
        · refine Ok_bnc ?_
          try unfold b_X6_exprs
          refine Kp_child C_t23 I_m_mdt0_t23.1 I_m_mdt0_t23.2.1 I_m_mdt0_t23.2.2.1 (by omega) (by omega) (by decide) (by decide) (fun t26 C_t26 X_t26 a_t26 b_t26 d_t26 w_t26 u_t26 v_t26 j_t26 l_t26 => ?_)
          have e_t26 := C_t26.2.2.2.1
          rw [a_t23] at a_t26
          rw [b_t23] at b_t26
          rw [d_t23] at d_t26
          rw [w_t23] at w_t26
          rw [u_t23] at u_t26
          rw [v_t23] at v_t26
          clear d_t23 w_t23 u_t23 v_t23 e_t23 a_t23
          have I_n_t26 := I_n_t23.chd X_t26 j_t26
          have f_n_t26 := f_n_t23.ex I_n_t23 (X_t26 0 (Nat.zero_le _))
          have I_m_mdt0_t26 := I_m_mdt0_t23.chd X_t26 j_t26
          have u_m_mdt0_t26 := u_m_mdt0_t23.ex I_m_mdt0_t23 (X_t26 0 (Nat.zero_le _))
          have f_m_mdt0_t26 : Fz t26 (m_md t0) := j_t26.2.2.2.2.1
          have I_m_mdt23_t26 : Nq t26 (m_md t23) := Nq.chn j_t26 (by omega) I_m_mdt0_t23 (by decide)
          have u_m_mdt23_t26 : Up t26 (m_md t23) := Or.inl j_t26.2.1
          refine Kp_push C_t26 (by omega) (fun t27 C_t27 X_t27 a_t27 b_t27 d_t27 w_t27 u_t27 v_t27 j_t27 l_t27 => ?_)
          have e_t27 := C_t27.2.2.2.1
          rw [a_t26] at a_t27
          rw [b_t26] at b_t27
          rw [d_t26] at d_t27
          rw [w_t26] at w_t27
          rw [u_t26] at u_t27
          rw [v_t26] at v_t27
          clear d_t26 w_t26 u_t26 v_t26 e_t26 a_t26 b_t26
          have I_n_t27 := I_n_t26.flat X_t27
          have f_n_t27 := f_n_t26.ex I_n_t26 (X_t27 0)
          have I_m_mdt0_t27 := I_m_mdt0_t26.flat X_t27
          have f_m_mdt0_t27 := f_m_mdt0_t26.ex I_m_mdt0_t26 (X_t27 0)
          have u_m_mdt0_t27 := u_m_mdt0_t26.ex I_m_mdt0_t26 (X_t27 0)
          have I_m_mdt23_t27 := I_m_mdt23_t26.flat X_t27
          have u_m_mdt23_t27 := u_m_mdt23_t26.ex I_m_mdt23_t26 (X_t27 0)
          refine Ok_bnc ?_
          try unfold b_X6_expression
          refine Kp_push C_t27 (by omega) (fun t29 C_t29 X_t29 a_t29 b_t29 d_t29 w_t29 u_t29 v_t29 j_t29 l_t29 => ?_)
          have e_t29 := C_t29.2.2.2.1
          rw [a_t27] at a_t29
          rw [b_t27] at b_t29
          rw [d_t27] at d_t29
          rw [w_t27] at w_t29
          rw [u_t27] at u_t29
          rw [v_t27] at v_t29
          clear d_t27 w_t27 u_t27 v_t27 e_t27 a_t27 b_t27
          have I_n_t29 := I_n_t27.flat X_t29
          have f_n_t29 := f_n_t27.ex I_n_t27 (X_t29 0)
          have I_m_mdt0_t29 := I_m_mdt0_t27.flat X_t29
          have f_m_mdt0_t29 := f_m_mdt0_t27.ex I_m_mdt0_t27 (X_t29 0)
          have u_m_mdt0_t29 := u_m_mdt0_t27.ex I_m_mdt0_t27 (X_t29 0)
          have I_m_mdt23_t29 := I_m_mdt23_t27.flat X_t29
          have u_m_mdt23_t29 := u_m_mdt23_t27.ex I_m_mdt23_t27 (X_t29 0)
          refine Kp_push C_t29 (by omega) (fun t30 C_t30 X_t30 a_t30 b_t30 d_t30 w_t30 u_t30 v_t30 j_t30 l_t30 => ?_)
          have e_t30 := C_t30.2.2.2.1
          rw [a_t29] at a_t30
          rw [b_t29] at b_t30
          rw [d_t29] at d_t30
          rw [w_t29] at w_t30
          rw [u_t29] at u_t30
          rw [v_t29] at v_t30
          clear d_t29 w_t29 u_t29 v_t29 e_t29 a_t29 b_t29
          have I_n_t30 := I_n_t29.flat X_t30
          have f_n_t30 := f_n_t29.ex I_n_t29 (X_t30 0)
          have I_m_mdt0_t30 := I_m_mdt0_t29.flat X_t30
          have f_m_mdt0_t30 := f_m_mdt0_t29.ex I_m_mdt0_t29 (X_t30 0)
          have u_m_mdt0_t30 := u_m_mdt0_t29.ex I_m_mdt0_t29 (X_t30 0)
          have I_m_mdt23_t30 := I_m_mdt23_t29.flat X_t30
          have u_m_mdt23_t30 := u_m_mdt23_t29.ex I_m_mdt23_t29 (X_t30 0)
          refine Ok_ret (show Ok _ _ _ from ?_)
          refine Ok_ret (show Ok _ _ _ from ?_)
          refine Ok_ret (show Ok _ _ _ from ?_)
          refine Ok_ret (show Ok _ _ _ from ?_)
          refine Hv_mk (Kv_c (x := (3, m_md t23, 0 &&& 1)) rfl (Kv_c (x := (2, m_md t23, (0 &&& 1) ||| (1 * 256))) rfl (Kv_c (x := (32, m_md t23, 0 &&& 1)) rfl (Kv_c (x := (52, m_md t0, 0)) rfl (Kv_c (x := (51, n, t)) rfl hK))))) (C_t30.1.2.2.2.2.2.2 hTt) C_t30 hT (by omega) (by omega) (by omega) ?_ ?_ ?_ (by omega) ?_ ?_ ?_
          · exact ⟨(Io_n (by decide) (show 0 &&& 1 < 4096 from by omega) I_m_mdt23_t30.1 I_m_mdt23_t30.2.1 I_m_mdt23_t30.2.2.1 (fun q => absurd q (by decide)) (fun q => absurd q (by decide)) I_m_mdt23_t30.2.2.2), (Nd_0 (by decide) Mo_nil), ⟨(Io_2 (by have := or_256 (b := 1) (show (0 &&& 1) < 256 from by omega); omega) (by have := or_256 (b := 1) (show (0 &&& 1) < 256 from by omega); omega) (by have := or_256 (b := 1) (show (0 &&& 1) < 256 from by omega); omega) I_m_mdt23_t30.1 I_m_mdt23_t30.2.1 I_m_mdt23_t30.2.2.1 I_m_mdt23_t30.2.2.2), (Nd_A (by decide) (Mo_cons (fun q => show m_md t23 ≤ m_md t23 from by omega) Mo_nil) (Or.inr ⟨(3, m_md t23, 0 &&& 1), List.mem_cons_self, rfl, Or.inl rfl⟩)), ⟨(Io_n (by decide) (show 0 &&& 1 < 4096 from by omega) I_m_mdt23_t30.1 I_m_mdt23_t30.2.1 I_m_mdt23_t30.2.2.1 (fun q => absurd q (by decide)) (fun q => absurd q (by decide)) I_m_mdt23_t30.2.2.2), (Nd_0 (by decide) (Mo_cons (fun q => show m_md t23 ≤ m_md t23 from by omega) (Mo_cons (fun q => show m_md t23 ≤ m_md t23 from by omega) Mo_nil))), ⟨(Io_n (by decide) (by decide) I_m_mdt0_t30.1 I_m_mdt0_t30.2.1 I_m_mdt0_t30.2.2.1 (fun q => absurd q (by decide)) (fun q => absurd q (by decide)) I_m_mdt0_t30.2.2.2), (Nd_0 (by decide) (Mo_cons (fun q => show m_md t0 ≤ m_md t23 from by omega) (Mo_cons (fun q => show m_md t0 ≤ m_md t23 from by omega) (Mo_cons (fun q => show m_md t0 ≤ m_md t23 from by omega) Mo_nil)))), ⟨(Io_n (by decide) (show t < 4096 from by omega) I_n_t30.1 I_n_t30.2.1 I_n_t30.2.2.1 (fun q => absurd q (by decide)) (fun q => absurd q (by decide)) I_n_t30.2.2.2), (Nd_0 (by decide) (Mo_cons (fun q => show n ≤ m_md t0 from by omega) (Mo_cons (fun q => show n ≤ m_md t23 from by omega) (Mo_cons (fun q => show n ≤ m_md t23 from by omega) (Mo_cons (fun q => show n ≤ m_md t23 from by omega) Mo_nil))))), Stk_step (N := n) (pop := (51, n, t)) (new := [(51, n, t), (52, m_md t0, 0), (32, m_md t23, 0 &&& 1), (2, m_md t23, (0 &&& 1) ||| (1 * 256)), (3, m_md t23, 0 &&& 1)]) F0 C_t30.1.to2 (fun (h : nk 51 = false) => absurd h (by decide)) (fun q _ h => h (51, n, t) rfl) (fun _ => rfl) (fun y hy hk => ⟨rfl, (Mo_cons (fun q => show n ≤ n from by omega) (Mo_cons (fun q => show n ≤ m_md t0 from by omega) (Mo_cons (fun q => show n ≤ m_md t23 from by omega) (Mo_cons (fun q => show n ≤ m_md t23 from by omega) (Mo_cons (fun q => show n ≤ m_md t23 from by omega) Mo_nil))))) y hy hk⟩) (fun (h : 51 = 3 ∨ 51 = 18 ∨ 51 = 41) => absurd h (by decide)) (fun (h : 51 = 18) => absurd h (by decide)) (fun (h : 51 = 41 ∨ 51 = 42 ∨ 51 = 43) => absurd h (by decide)) r [] (fun y hy => absurd hy List.not_mem_nil) hS⟩⟩⟩⟩⟩
          · exact (Aj_up (x := (3, m_md t23, 0 &&& 1)) (Aj_up (x := (2, m_md t23, (0 &&& 1) ||| (1 * 256))) (Aj_up (x := (32, m_md t23, 0 &&& 1)) (Aj_up (x := (52, m_md t0, 0)) (Aj_sub (y := (51, n, t)) hJ (Nat.le_of_ble_eq_true rfl)) (Or.inl (Nat.le_of_ble_eq_true rfl))) (Or.inr (Nat.le_of_ble_eq_true rfl))) (Or.inr (show 9 - ((0 &&& 1) ||| (1 * 256)) / 256 < 9 from by have := or_256 (b := 1) (show (0 &&& 1) < 256 from by omega); omega))) (Or.inr (show 2 < 9 - ((0 &&& 1) ||| (1 * 256)) / 256 from by have := or_256 (b := 1) (show (0 &&& 1) < 256 from by omega); omega)))
          · show m_dp t30 = (dlt 3 + (dlt 2 + (dlt 32 + (dlt 52 + (dlt 51 + sD r)))))
            have : dlt 2 = 0 := rfl; have : dlt 3 = 0 := rfl; have : dlt 32 = 0 := rfl; have : dlt 51 = 1 := rfl; have : dlt 52 = 0 := rfl; omega
          · show m_rw t30 = (rho 3 + (rho 2 + (rho 32 + (rho 52 + (rho 51 + sR r)))))
            have : rho 2 = 0 := rfl; have : rho 3 = 0 := rfl; have : rho 32 = 0 := rfl; have : rho 51 = 0 := rfl; have : rho 52 = 0 := rfl; omega
          · show m_md t30 + (mu7 3 + (mu7 2 + (mu7 32 + (mu7 52 + (mu7 51 + sM r))))) ≤ 3 * m_at t30 + 7 * (r.length + 1 + 1 + 1 + 1 + 1) + 10
            have : mu7 2 = 7 := rfl; have : mu7 3 = 5 := rfl; have : mu7 32 = 7 := rfl; have : mu7 51 = 4 := rfl; have : mu7 52 = 5 := rfl; omega
          · show (wt 3 + (wt 2 + (wt 32 + (wt 52 + (wt 51 + sW r))))) + 6 * (4096 - m_at t30) + 4 * (600 - (r.length + 1 + 1 + 1 + 1 + 1)) < (wt 51 + sW r) + 6 * (4096 - m_at t0) + 4 * (600 - (r.length + 1))
            have : wt 2 = 5 := rfl; have : wt 3 = 3 := rfl; have : wt 32 = 5 := rfl; have : wt 51 = 0 := rfl; have : wt 52 = 4 := rfl; omega
        · refine Ok_ife (show t < 2147483648 from by omega) (by decide) (fun q => absurd q q7) (fun q => ?_)
          refine Kp_child C_t23 I_m_mdt0_t23.1 I_m_mdt0_t23.2.1 I_m_mdt0_t23.2.2.1 (by omega) (by omega) (by decide) (by decide) (fun t31 C_t31 X_t31 a_t31 b_t31 d_t31 w_t31 u_t31 v_t31 j_t31 l_t31 => ?_)
          have e_t31 := C_t31.2.2.2.1
          rw [a_t23] at a_t31
          rw [b_t23] at b_t31
          rw [d_t23] at d_t31
          rw [w_t23] at w_t31
          rw [u_t23] at u_t31
          rw [v_t23] at v_t31
          clear d_t23 w_t23 u_t23 v_t23 e_t23 a_t23
          have I_n_t31 := I_n_t23.chd X_t31 j_t31
          have f_n_t31 := f_n_t23.ex I_n_t23 (X_t31 0 (Nat.zero_le _))
          have I_m_mdt0_t31 := I_m_mdt0_t23.chd X_t31 j_t31
          have u_m_mdt0_t31 := u_m_mdt0_t23.ex I_m_mdt0_t23 (X_t31 0 (Nat.zero_le _))
          have f_m_mdt0_t31 : Fz t31 (m_md t0) := j_t31.2.2.2.2.1
          have I_m_mdt23_t31 : Nq t31 (m_md t23) := Nq.chn j_t31 (by omega) I_m_mdt0_t23 (by decide)
          have u_m_mdt23_t31 : Up t31 (m_md t23) := Or.inl j_t31.2.1
          refine Kp_push C_t31 (by omega) (fun t32 C_t32 X_t32 a_t32 b_t32 d_t32 w_t32 u_t32 v_t32 j_t32 l_t32 => ?_)
          have e_t32 := C_t32.2.2.2.1
          rw [a_t31] at a_t32
          rw [b_t31] at b_t32
          rw [d_t31] at d_t32
          rw [w_t31] at w_t32
          rw [u_t31] at u_t32
          rw [v_t31] at v_t32
          clear d_t31 w_t31 u_t31 v_t31 e_t31 a_t31 b_t31
          have I_n_t32 := I_n_t31.flat X_t32
          have f_n_t32 := f_n_t31.ex I_n_t31 (X_t32 0)
          have I_m_mdt0_t32 := I_m_mdt0_t31.flat X_t32
          have f_m_mdt0_t32 := f_m_mdt0_t31.ex I_m_mdt0_t31 (X_t32 0)
          have u_m_mdt0_t32 := u_m_mdt0_t31.ex I_m_mdt0_t31 (X_t32 0)
          have I_m_mdt23_t32 := I_m_mdt23_t31.flat X_t32
          have u_m_mdt23_t32 := u_m_mdt23_t31.ex I_m_mdt23_t31 (X_t32 0)
          refine Kp_push C_t32 (by omega) (fun t33 C_t33 X_t33 a_t33 b_t33 d_t33 w_t33 u_t33 v_t33 j_t33 l_t33 => ?_)
          have e_t33 := C_t33.2.2.2.1
          rw [a_t32] at a_t33
          rw [b_t32] at b_t33
          rw [d_t32] at d_t33
          rw [w_t32] at w_t33
          rw [u_t32] at u_t33
          rw [v_t32] at v_t33
          clear d_t32 w_t32 u_t32 v_t32 e_t32 a_t32 b_t32
          have I_n_t33 := I_n_t32.flat X_t33
          have f_n_t33 := f_n_t32.ex I_n_t32 (X_t33 0)
          have I_m_mdt0_t33 := I_m_mdt0_t32.flat X_t33
          have f_m_mdt0_t33 := f_m_mdt0_t32.ex I_m_mdt0_t32 (X_t33 0)
          have u_m_mdt0_t33 := u_m_mdt0_t32.ex I_m_mdt0_t32 (X_t33 0)
          have I_m_mdt23_t33 := I_m_mdt23_t32.flat X_t33
          have u_m_mdt23_t33 := u_m_mdt23_t32.ex I_m_mdt23_t32 (X_t33 0)
          refine Ok_ret (show Ok _ _ _ from ?_)
          refine Ok_ret (show Ok _ _ _ from ?_)
          refine Hv_mk (Kv_c (x := (18, m_md t23, 0)) rfl (Kv_c (x := (53, m_md t23, 0)) rfl (Kv_c (x := (52, m_md t0, 0)) rfl (Kv_c (x := (51, n, t)) rfl hK)))) (C_t33.1.2.2.2.2.2.2 hTt) C_t33 hT (by omega) (by omega) (by omega) ?_ ?_ ?_ (by omega) ?_ ?_ ?_
          · exact ⟨(Io_n (by decide) (by decide) I_m_mdt23_t33.1 I_m_mdt23_t33.2.1 I_m_mdt23_t33.2.2.1 (fun q => absurd q (by decide)) (fun q => absurd q (by decide)) I_m_mdt23_t33.2.2.2), (Nd_0 (by decide) Mo_nil), ⟨(Io_n (by decide) (by decide) I_m_mdt23_t33.1 I_m_mdt23_t33.2.1 I_m_mdt23_t33.2.2.1 (fun q => absurd q (by decide)) (fun q => absurd q (by decide)) I_m_mdt23_t33.2.2.2), (Nd_0 (by decide) (Mo_cons (fun q => show m_md t23 ≤ m_md t23 from by omega) Mo_nil)), ⟨(Io_n (by decide) (by decide) I_m_mdt0_t33.1 I_m_mdt0_t33.2.1 I_m_mdt0_t33.2.2.1 (fun q => absurd q (by decide)) (fun q => absurd q (by decide)) I_m_mdt0_t33.2.2.2), (Nd_0 (by decide) (Mo_cons (fun q => show m_md t0 ≤ m_md t23 from by omega) (Mo_cons (fun q => show m_md t0 ≤ m_md t23 from by omega) Mo_nil))), ⟨(Io_n (by decide) (show t < 4096 from by omega) I_n_t33.1 I_n_t33.2.1 I_n_t33.2.2.1 (fun q => absurd q (by decide)) (fun q => absurd q (by decide)) I_n_t33.2.2.2), (Nd_0 (by decide) (Mo_cons (fun q => show n ≤ m_md t0 from by omega) (Mo_cons (fun q => show n ≤ m_md t23 from by omega) (Mo_cons (fun q => show n ≤ m_md t23 from by omega) Mo_nil)))), Stk_step (N := n) (pop := (51, n, t)) (new := [(51, n, t), (52, m_md t0, 0), (53, m_md t23, 0), (18, m_md t23, 0)]) F0 C_t33.1.to2 (fun (h : nk 51 = false) => absurd h (by decide)) (fun q _ h => h (51, n, t) rfl) (fun _ => rfl) (fun y hy hk => ⟨rfl, (Mo_cons (fun q => show n ≤ n from by omega) (Mo_cons (fun q => show n ≤ m_md t0 from by omega) (Mo_cons (fun q => show n ≤ m_md t23 from by omega) (Mo_cons (fun q => show n ≤ m_md t23 from by omega) Mo_nil)))) y hy hk⟩) (fun (h : 51 = 3 ∨ 51 = 18 ∨ 51 = 41) => absurd h (by decide)) (fun (h : 51 = 18) => absurd h (by decide)) (fun (h : 51 = 41 ∨ 51 = 42 ∨ 51 = 43) => absurd h (by decide)) r [] (fun y hy => absurd hy List.not_mem_nil) hS⟩⟩⟩⟩
          · exact (Aj_up (x := (18, m_md t23, 0)) (Aj_up (x := (53, m_md t23, 0)) (Aj_up (x := (52, m_md t0, 0)) (Aj_sub (y := (51, n, t)) hJ (Nat.le_of_ble_eq_true rfl)) (Or.inl (Nat.le_of_ble_eq_true rfl))) (Or.inr (Nat.le_of_ble_eq_true rfl))) (Or.inr (Nat.le_of_ble_eq_true rfl)))
          · show m_dp t33 = (dlt 18 + (dlt 53 + (dlt 52 + (dlt 51 + sD r))))
            have : dlt 18 = 0 := rfl; have : dlt 51 = 1 := rfl; have : dlt 52 = 0 := rfl; have : dlt 53 = 0 := rfl; omega
          · show m_rw t33 = (rho 18 + (rho 53 + (rho 52 + (rho 51 + sR r))))
            have : rho 18 = 0 := rfl; have : rho 51 = 0 := rfl; have : rho 52 = 0 := rfl; have : rho 53 = 0 := rfl; omega
          · show m_md t33 + (mu7 18 + (mu7 53 + (mu7 52 + (mu7 51 + sM r)))) ≤ 3 * m_at t33 + 7 * (r.length + 1 + 1 + 1 + 1) + 10
            have : mu7 18 = 5 := rfl; have : mu7 51 = 4 := rfl; have : mu7 52 = 5 := rfl; have : mu7 53 = 7 := rfl; omega
          · show (wt 18 + (wt 53 + (wt 52 + (wt 51 + sW r)))) + 6 * (4096 - m_at t33) + 4 * (600 - (r.length + 1 + 1 + 1 + 1)) < (wt 51 + sW r) + 6 * (4096 - m_at t0) + 4 * (600 - (r.length + 1))
            have : wt 18 = 0 := rfl; have : wt 51 = 0 := rfl; have : wt 52 = 4 := rfl; have : wt 53 = 5 := rfl; omega
    · refine Ok_ife (Nat.lt_trans (lo_lt (C_t0.tk hT) _) (by decide)) (by decide) (fun q34 => ?_) (fun q34 => ?_)
      · refine Ok_ife (show t < 2147483648 from by omega) (by decide) (fun q35 => ?_) (fun q35 => ?_)
        · refine Ok_ife (Nat.lt_trans (lo_lt (C_t0.tk hT) _) (by decide)) (by decide) (fun q => absurd q q6) (fun q => ?_)
          refine Kp_child C_t0 I_n_t0.1 I_n_t0.2.1 I_n_t0.2.2.1 (by omega) (by omega) (by decide) (by decide) (fun t36 C_t36 X_t36 a_t36 b_t36 d_t36 w_t36 u_t36 v_t36 j_t36 l_t36 => ?_)
          have e_t36 := C_t36.2.2.2.1
          have I_n_t36 := I_n_t0.chd X_t36 j_t36
          have f_n_t36 : Fz t36 n := j_t36.2.2.2.2.1
          have I_m_mdt0_t36 : Nq t36 (m_md t0) := Nq.chn j_t36 (by omega) I_n_t0 (by decide)
          have u_m_mdt0_t36 : Up t36 (m_md t0) := Or.inl j_t36.2.1
          have z_t37 : m_at t36 < m_ct t36 := lo_ne (Nat.ne_of_gt (show 0 < lo t36 (m_at t36) from by omega))
          refine Kp_at C_t36 (fun t37 C_t37 X_t37 a_t37 b_t37 d_t37 w_t37 u_t37 v_t37 j_t37 l_t37 => ?_)
          have e_t37 := C_t37.2.2.2.1
          rw [a_t36] at a_t37
          rw [b_t36] at b_t37
          rw [d_t36] at d_t37
          rw [w_t36] at w_t37
          rw [u_t36] at u_t37
          rw [v_t36] at v_t37
          rw [a_t36, e_t36] at z_t37
          clear d_t36 w_t36 u_t36 v_t36 e_t36 a_t36 b_t36
          have I_n_t37 := I_n_t36.flat X_t37
          have f_n_t37 := f_n_t36.ex I_n_t36 (X_t37 0)
          have I_m_mdt0_t37 := I_m_mdt0_t36.flat X_t37
          have u_m_mdt0_t37 := u_m_mdt0_t36.ex I_m_mdt0_t36 (X_t37 0)
          refine Kp_push C_t37 (by omega) (fun t38 C_t38 X_t38 a_t38 b_t38 d_t38 w_t38 u_t38 v_t38 j_t38 l_t38 => ?_)
          have e_t38 := C_t38.2.2.2.1
          rw [a_t37] at a_t38
          rw [b_t37] at b_t38
          rw [d_t37] at d_t38
          rw [w_t37] at w_t38
          rw [u_t37] at u_t38
          rw [v_t37] at v_t38
          clear d_t37 w_t37 u_t37 v_t37 e_t37 a_t37 b_t37
          have I_n_t38 := I_n_t37.flat X_t38
          have f_n_t38 := f_n_t37.ex I_n_t37 (X_t38 0)
          have I_m_mdt0_t38 := I_m_mdt0_t37.flat X_t38
          have u_m_mdt0_t38 := u_m_mdt0_t37.ex I_m_mdt0_t37 (X_t38 0)
          refine Kp_push C_t38 (by omega) (fun t39 C_t39 X_t39 a_t39 b_t39 d_t39 w_t39 u_t39 v_t39 j_t39 l_t39 => ?_)
          have e_t39 := C_t39.2.2.2.1
          rw [a_t38] at a_t39
          rw [b_t38] at b_t39
          rw [d_t38] at d_t39
          rw [w_t38] at w_t39
          rw [u_t38] at u_t39
          rw [v_t38] at v_t39
          clear d_t38 w_t38 u_t38 v_t38 e_t38 a_t38 b_t38
          have I_n_t39 := I_n_t38.flat X_t39
          have f_n_t39 := f_n_t38.ex I_n_t38 (X_t39 0)
          have I_m_mdt0_t39 := I_m_mdt0_t38.flat X_t39
          have u_m_mdt0_t39 := u_m_mdt0_t38.ex I_m_mdt0_t38 (X_t39 0)
          refine Ok_ife (Nat.lt_trans (lo_lt (C_t0.tk hT) _) (by decide)) (by decide) (fun q => ?_) (fun q => absurd q34 q)
          refine Ok_ret (show Ok _ _ _ from ?_)
          refine Ok_ret (show Ok _ _ _ from ?_)
          refine Hv_mk (Kv_c (x := (52, m_md t0, 0)) rfl (Kv_c (x := (51, n, t)) rfl hK)) (C_t39.1.2.2.2.2.2.2 hTt) C_t39 hT (by omega) (by omega) (by omega) ?_ ?_ ?_ (by omega) ?_ ?_ ?_
          · exact ⟨(Io_n (by decide) (by decide) I_m_mdt0_t39.1 I_m_mdt0_t39.2.1 I_m_mdt0_t39.2.2.1 (fun q => absurd q (by decide)) (fun q => absurd q (by decide)) I_m_mdt0_t39.2.2.2), (Nd_0 (by decide) Mo_nil), ⟨(Io_n (by decide) (show t < 4096 from by omega) I_n_t39.1 I_n_t39.2.1 I_n_t39.2.2.1 (fun q => absurd q (by decide)) (fun q => absurd q (by decide)) I_n_t39.2.2.2), (Nd_0 (by decide) (Mo_cons (fun q => show n ≤ m_md t0 from by omega) Mo_nil)), Stk_step (N := n) (pop := (51, n, t)) (new := [(51, n, t), (52, m_md t0, 0)]) F0 C_t39.1.to2 (fun (h : nk 51 = false) => absurd h (by decide)) (fun q _ h => h (51, n, t) rfl) (fun _ => rfl) (fun y hy hk => ⟨rfl, (Mo_cons (fun q => show n ≤ n from by omega) (Mo_cons (fun q => show n ≤ m_md t0 from by omega) Mo_nil)) y hy hk⟩) (fun (h : 51 = 3 ∨ 51 = 18 ∨ 51 = 41) => absurd h (by decide)) (fun (h : 51 = 18) => absurd h (by decide)) (fun (h : 51 = 41 ∨ 51 = 42 ∨ 51 = 43) => absurd h (by decide)) r [] (fun y hy => absurd hy List.not_mem_nil) hS⟩⟩
          · exact (Aj_up (x := (52, m_md t0, 0)) (Aj_sub (y := (51, n, t)) hJ (Nat.le_of_ble_eq_true rfl)) (Or.inl (Nat.le_of_ble_eq_true rfl)))
          · show m_dp t39 = (dlt 52 + (dlt 51 + sD r))
            have : dlt 51 = 1 := rfl; have : dlt 52 = 0 := rfl; omega
          · show m_rw t39 = (rho 52 + (rho 51 + sR r))
            have : rho 51 = 0 := rfl; have : rho 52 = 0 := rfl; omega
          · show m_md t39 + (mu7 52 + (mu7 51 + sM r)) ≤ 3 * m_at t39 + 7 * (r.length + 1 + 1) + 10
            have : mu7 51 = 4 := rfl; have : mu7 52 = 5 := rfl; omega
          · show (wt 52 + (wt 51 + sW r)) + 6 * (4096 - m_at t39) + 4 * (600 - (r.length + 1 + 1)) < (wt 51 + sW r) + 6 * (4096 - m_at t0) + 4 * (600 - (r.length + 1))
            have : wt 51 = 0 := rfl; have : wt 52 = 4 := rfl; omega
        · refine Ok_ife (Nat.lt_trans (lo_lt (C_t0.tk hT) _) (by decide)) (by decide) (fun q => absurd q q6) (fun q => ?_)
          refine Kp_child C_t0 I_n_t0.1 I_n_t0.2.1 I_n_t0.2.2.1 (by omega) (by omega) (by decide) (by decide) (fun t40 C_t40 X_t40 a_t40 b_t40 d_t40 w_t40 u_t40 v_t40 j_t40 l_t40 => ?_)
          have e_t40 := C_t40.2.2.2.1
          have I_n_t40 := I_n_t0.chd X_t40 j_t40
          have f_n_t40 : Fz t40 n := j_t40.2.2.2.2.1
          have I_m_mdt0_t40 : Nq t40 (m_md t0) := Nq.chn j_t40 (by omega) I_n_t0 (by decide)
          have u_m_mdt0_t40 : Up t40 (m_md t0) := Or.inl j_t40.2.1
          have z_t41 : m_at t40 < m_ct t40 := lo_ne (Nat.ne_of_gt (show 0 < lo t40 (m_at t40) from by omega))
          refine Kp_at C_t40 (fun t41 C_t41 X_t41 a_t41 b_t41 d_t41 w_t41 u_t41 v_t41 j_t41 l_t41 => ?_)
          have e_t41 := C_t41.2.2.2.1
          rw [a_t40] at a_t41
          rw [b_t40] at b_t41
          rw [d_t40] at d_t41
          rw [w_t40] at w_t41
          rw [u_t40] at u_t41
          rw [v_t40] at v_t41
          rw [a_t40, e_t40] at z_t41
          clear d_t40 w_t40 u_t40 v_t40 e_t40 a_t40 b_t40
          have I_n_t41 := I_n_t40.flat X_t41
          have f_n_t41 := f_n_t40.ex I_n_t40 (X_t41 0)
          have I_m_mdt0_t41 := I_m_mdt0_t40.flat X_t41
          have u_m_mdt0_t41 := u_m_mdt0_t40.ex I_m_mdt0_t40 (X_t41 0)
          refine Kp_push C_t41 (by omega) (fun t42 C_t42 X_t42 a_t42 b_t42 d_t42 w_t42 u_t42 v_t42 j_t42 l_t42 => ?_)
          have e_t42 := C_t42.2.2.2.1
          rw [a_t41] at a_t42
          rw [b_t41] at b_t42
          rw [d_t41] at d_t42
          rw [w_t41] at w_t42
          rw [u_t41] at u_t42
          rw [v_t41] at v_t42
          clear d_t41 w_t41 u_t41 v_t41 e_t41 a_t41 b_t41
          have I_n_t42 := I_n_t41.flat X_t42
          have f_n_t42 := f_n_t41.ex I_n_t41 (X_t42 0)
          have I_m_mdt0_t42 := I_m_mdt0_t41.flat X_t42
          have u_m_mdt0_t42 := u_m_mdt0_t41.ex I_m_mdt0_t41 (X_t42 0)
          refine Kp_push C_t42 (by omega) (fun t43 C_t43 X_t43 a_t43 b_t43 d_t43 w_t43 u_t43 v_t43 j_t43 l_t43 => ?_)
          have e_t43 := C_t43.2.2.2.1
          rw [a_t42] at a_t43
          rw [b_t42] at b_t43
          rw [d_t42] at d_t43
          rw [w_t42] at w_t43
          rw [u_t42] at u_t43
          rw [v_t42] at v_t43
          clear d_t42 w_t42 u_t42 v_t42 e_t42 a_t42 b_t42
          have I_n_t43 := I_n_t42.flat X_t43
          have f_n_t43 := f_n_t42.ex I_n_t42 (X_t43 0)
          have I_m_mdt0_t43 := I_m_mdt0_t42.flat X_t43
          have u_m_mdt0_t43 := u_m_mdt0_t42.ex I_m_mdt0_t42 (X_t43 0)
          refine Ok_ife (Nat.lt_trans (lo_lt (C_t0.tk hT) _) (by decide)) (by decide) (fun q => ?_) (fun q => absurd q34 q)
          refine Ok_ret (show Ok _ _ _ from ?_)
          refine Ok_ret (show Ok _ _ _ from ?_)
          refine Hv_mk (Kv_c (x := (52, m_md t0, 0)) rfl (Kv_c (x := (51, n, t)) rfl hK)) (C_t43.1.2.2.2.2.2.2 hTt) C_t43 hT (by omega) (by omega) (by omega) ?_ ?_ ?_ (by omega) ?_ ?_ ?_
          · exact ⟨(Io_n (by decide) (by decide) I_m_mdt0_t43.1 I_m_mdt0_t43.2.1 I_m_mdt0_t43.2.2.1 (fun q => absurd q (by decide)) (fun q => absurd q (by decide)) I_m_mdt0_t43.2.2.2), (Nd_0 (by decide) Mo_nil), ⟨(Io_n (by decide) (show t < 4096 from by omega) I_n_t43.1 I_n_t43.2.1 I_n_t43.2.2.1 (fun q => absurd q (by decide)) (fun q => absurd q (by decide)) I_n_t43.2.2.2), (Nd_0 (by decide) (Mo_cons (fun q => show n ≤ m_md t0 from by omega) Mo_nil)), Stk_step (N := n) (pop := (51, n, t)) (new := [(51, n, t), (52, m_md t0, 0)]) F0 C_t43.1.to2 (fun (h : nk 51 = false) => absurd h (by decide)) (fun q _ h => h (51, n, t) rfl) (fun _ => rfl) (fun y hy hk => ⟨rfl, (Mo_cons (fun q => show n ≤ n from by omega) (Mo_cons (fun q => show n ≤ m_md t0 from by omega) Mo_nil)) y hy hk⟩) (fun (h : 51 = 3 ∨ 51 = 18 ∨ 51 = 41) => absurd h (by decide)) (fun (h : 51 = 18) => absurd h (by decide)) (fun (h : 51 = 41 ∨ 51 = 42 ∨ 51 = 43) => absurd h (by decide)) r [] (fun y hy => absurd hy List.not_mem_nil) hS⟩⟩
          · exact (Aj_up (x := (52, m_md t0, 0)) (Aj_sub (y := (51, n, t)) hJ (Nat.le_of_ble_eq_true rfl)) (Or.inl (Nat.le_of_ble_eq_true rfl)))
          · show m_dp t43 = (dlt 52 + (dlt 51 + sD r))
            have : dlt 51 = 1 := rfl; have : dlt 52 = 0 := rfl; omega
          · show m_rw t43 = (rho 52 + (rho 51 + sR r))
            have : rho 51 = 0 := rfl; have : rho 52 = 0 := rfl; omega
          · show m_md t43 + (mu7 52 + (mu7 51 + sM r)) ≤ 3 * m_at t43 + 7 * (r.length + 1 + 1) + 10
            have : mu7 51 = 4 := rfl; have : mu7 52 = 5 := rfl; omega
          · show (wt 52 + (wt 51 + sW r)) + 6 * (4096 - m_at t43) + 4 * (600 - (r.length + 1 + 1)) < (wt 51 + sW r) + 6 * (4096 - m_at t0) + 4 * (600 - (r.length + 1))
            have : wt 51 = 0 := rfl; have : wt 52 = 4 := rfl; omega
      · refine Kp_error C_t0 (by omega) (fun t44 C_t44 X_t44 a_t44 b_t44 d_t44 w_t44 u_t44 v_t44 j_t44 l_t44 => ?_)
        have wb_t44 := w_t44.2
        have w_t44 := Nat.pos_of_ne_zero w_t44.1
        have e_t44 := C_t44.2.2.2.1
        have I_n_t44 := I_n_t0.flat X_t44
        refine Ok_ret (show Ok _ _ _ from ?_)
        refine Ok_ret (show Ok _ _ _ from ?_)
        exact Or.inl ⟨Nat.ne_of_gt (show 0 < m_wr t44 from by omega), by omega, by omega, C_t44.2.2.2.2.2, by omega⟩

