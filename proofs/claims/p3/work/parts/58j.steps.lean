/-! The steps of the reference, one by one. -/
theorem S_22 {t0 : Mm} {n t : Nat} {r : List It} (H : Hp t0 (22, n, t) r) {E : Mm → Prop} : Ok (Qh (mz t0 ((22, n, t) :: r))) E (b_X6_step 22 n t t0) := by
  obtain ⟨hK, hT, hc, hw0, ha, hC, hS, hJ, hdp, hdl, hrw, hmd, htd, hln, hm16, hI, hD, hTt⟩ := Hp_out H
  have C_t0 := hC n
  have F0 := C_t0.2.1
  have I_n_t0 : Nq t0 n := ⟨(hI.2.1 rfl).1, (hI.2.1 rfl).2.1, (hI.2.1 rfl).2.2, hI.2.2.2 rfl⟩
  have m_n_t0 := I_n_t0.1
  have ht : t < 4096 := hI.1.1 (show 22 ≠ 42 by decide) (show 22 ≠ 48 by decide)
  have hdp : m_dp t0 = dlt 22 + sD r := hdp
  have hrw : m_rw t0 = rho 22 + sR r := hrw
  have hmd : m_md t0 + mu7 22 + sM r ≤ 3 * m_at t0 + 7 * r.length + 17 := hmd
  have hand : t &&& 1 ≤ 1 := Nat.and_le_right
  have h01 : (0 &&& 1 : Nat) = 0 := rfl
  have h02 : (1 : Nat) * 256 = 256 := rfl
  have hq1 : dlt 22 = 0 := rfl
  have hq2 : rho 22 = 0 := rfl
  have hq3 : mu7 22 = 7 := rfl
  unfold b_X6_step
  refine Ok_ifl (by decide) (by decide) (fun _ => ?_) (fun q => absurd (by decide) q)
  refine Ok_ifl (by decide) (by decide) (fun q => absurd q (by decide)) (fun _ => ?_)
  refine Ok_ifl (by decide) (by decide) (fun _ => ?_) (fun q => absurd (by decide) q)
  refine Ok_bnc ?_
  try unfold b_X6_typing
  refine Ok_ck (by decide) ?_
  refine Ok_ife (by decide) (by decide) (fun q => absurd q (by decide)) (fun _ => ?_)
  refine Ok_ife (by decide) (by decide) (fun q => absurd q (by decide)) (fun _ => ?_)
  refine Ok_ife (by decide) (by decide) (fun q => absurd q (by decide)) (fun _ => ?_)
  refine Ok_ife (by decide) (by decide) (fun q => absurd q (by decide)) (fun _ => ?_)
  refine Ok_ife (by decide) (by decide) (fun _ => ?_) (fun q => absurd (by decide) q)
  refine Ok_bnc ?_
  try unfold b_X6_result
  refine Kp_look C_t0 hT (by omega) ?_
  refine Ok_ife (Nat.lt_trans (lo_lt (C_t0.tk hT) _) (by decide)) (by decide) (fun q3 => ?_) (fun q3 => ?_)
  · refine Kp_push C_t0 (by omega) (fun t4 C_t4 X_t4 a_t4 b_t4 d_t4 w_t4 u_t4 v_t4 j_t4 l_t4 => ?_)
    have e_t4 := C_t4.2.2.2.1
    have I_n_t4 := I_n_t0.flat X_t4
    refine Ok_ret (show Ok _ _ _ from ?_)
    refine Ok_ret (show Ok _ _ _ from ?_)
    refine Hv_mk (Kv_c (x := (23, n, 0)) rfl hK) (C_t4.1.2.2.2.2.2.2 hTt) C_t4 hT (by omega) (by omega) (by omega) ?_ ?_ ?_ (by omega) ?_ ?_ ?_
    · exact ⟨(Io_n (by decide) (by decide) I_n_t4.1 I_n_t4.2.1 I_n_t4.2.2.1 (fun q => absurd q (by decide)) (fun q => absurd q (by decide)) I_n_t4.2.2.2), (Nd_23 (Nat.ne_of_gt (show 0 < lo t4 (m_at t4) from by omega))), Stk_step (N := n) (pop := (22, n, t)) (new := [(23, n, 0)]) F0 C_t4.1.to2 (fun (h : nk 22 = false) => absurd h (by decide)) (fun q _ h => h (22, n, t) rfl) (fun _ => rfl) (fun y hy hk => ⟨rfl, (Mo_cons (fun q => show n ≤ n from by omega) Mo_nil) y hy hk⟩) (fun (h : 22 = 3 ∨ 22 = 18 ∨ 22 = 41) => absurd h (by decide)) (fun (h : 22 = 18) => absurd h (by decide)) (fun (h : 22 = 41 ∨ 22 = 42 ∨ 22 = 43) => absurd h (by decide)) r [] (fun y hy => absurd hy List.not_mem_nil) hS⟩
    · exact (Aj_sub (y := (23, n, 0)) hJ (Nat.le_of_ble_eq_true rfl))
    · show m_dp t4 = (dlt 23 + sD r)
      have : dlt 22 = 0 := rfl; have : dlt 23 = 0 := rfl; omega
    · show m_rw t4 = (rho 23 + sR r)
      have : rho 22 = 0 := rfl; have : rho 23 = 0 := rfl; omega
    · show m_md t4 + (mu7 23 + sM r) ≤ 3 * m_at t4 + 7 * (r.length + 1) + 10
      have : mu7 22 = 7 := rfl; have : mu7 23 = 2 := rfl; omega
    · show (wt 23 + sW r) + 6 * (4096 - m_at t4) + 4 * (600 - (r.length + 1)) < (wt 22 + sW r) + 6 * (4096 - m_at t0) + 4 * (600 - (r.length + 1))
      have : wt 22 = 5 := rfl; have : wt 23 = 0 := rfl; omega
  · refine Ok_ck (Nat.lt_trans (lo_lt (C_t0.tk hT) _) (by decide)) ?_
    refine Ok_ifz (f6_beginsType _) (fun q5 => ?_) (fun q5 => ?_)
    · refine Ok_ret (show Ok _ _ _ from ?_)
      refine Ok_ret (show Ok _ _ _ from ?_)
      refine Hv_mk hK (C_t0.1.2.2.2.2.2.2 hTt) C_t0 hT (by omega) (by omega) (by omega) ?_ ?_ ?_ (by omega) ?_ ?_ ?_
      · exact Stk_step (N := n) (pop := (22, n, t)) (new := []) F0 C_t0.1.to2 (fun (h : nk 22 = false) => absurd h (by decide)) (fun q _ h => h (22, n, t) rfl) (fun _ => rfl) (fun y hy hk => ⟨rfl, Mo_nil (n := n) y hy hk⟩) (fun (h : 22 = 3 ∨ 22 = 18 ∨ 22 = 41) => absurd h (by decide)) (fun (h : 22 = 18) => absurd h (by decide)) (fun (h : 22 = 41 ∨ 22 = 42 ∨ 22 = 43) => absurd h (by decide)) r [] (fun y hy => absurd hy List.not_mem_nil) hS
      · exact Aj_tl hJ
      · show m_dp t0 = sD r
        have : dlt 22 = 0 := rfl; omega
      · show m_rw t0 = sR r
        have : rho 22 = 0 := rfl; omega
      · show m_md t0 + sM r ≤ 3 * m_at t0 + 7 * (r.length) + 10
        have : mu7 22 = 7 := rfl; omega
      · show sW r + 6 * (4096 - m_at t0) + 4 * (600 - (r.length)) < (wt 22 + sW r) + 6 * (4096 - m_at t0) + 4 * (600 - (r.length + 1))
        have : wt 22 = 5 := rfl; omega
    · have q5n := Nat.pos_of_ne_zero (n6_beginsType q5)
      refine Ok_ife (Nat.lt_trans (lo_lt (C_t0.tk hT) _) (by decide)) (by decide) (fun q6 => ?_) (fun q6 => ?_)
      · refine Ok_ret (show Ok _ _ _ from ?_)
        refine Ok_ret (show Ok _ _ _ from ?_)
        refine Hv_mk hK (C_t0.1.2.2.2.2.2.2 hTt) C_t0 hT (by omega) (by omega) (by omega) ?_ ?_ ?_ (by omega) ?_ ?_ ?_
        · exact Stk_step (N := n) (pop := (22, n, t)) (new := []) F0 C_t0.1.to2 (fun (h : nk 22 = false) => absurd h (by decide)) (fun q _ h => h (22, n, t) rfl) (fun _ => rfl) (fun y hy hk => ⟨rfl, Mo_nil (n := n) y hy hk⟩) (fun (h : 22 = 3 ∨ 22 = 18 ∨ 22 = 41) => absurd h (by decide)) (fun (h : 22 = 18) => absurd h (by decide)) (fun (h : 22 = 41 ∨ 22 = 42 ∨ 22 = 43) => absurd h (by decide)) r [] (fun y hy => absurd hy List.not_mem_nil) hS
        · exact Aj_tl hJ
        · show m_dp t0 = sD r
          have : dlt 22 = 0 := rfl; omega
        · show m_rw t0 = sR r
          have : rho 22 = 0 := rfl; omega
        · show m_md t0 + sM r ≤ 3 * m_at t0 + 7 * (r.length) + 10
          have : mu7 22 = 7 := rfl; omega
        · show sW r + 6 * (4096 - m_at t0) + 4 * (600 - (r.length)) < (wt 22 + sW r) + 6 * (4096 - m_at t0) + 4 * (600 - (r.length + 1))
          have : wt 22 = 5 := rfl; omega
      · refine Kp_push C_t0 (by omega) (fun t7 C_t7 X_t7 a_t7 b_t7 d_t7 w_t7 u_t7 v_t7 j_t7 l_t7 => ?_)
        have e_t7 := C_t7.2.2.2.1
        have I_n_t7 := I_n_t0.flat X_t7
        refine Ok_ret (show Ok _ _ _ from ?_)
        refine Ok_ret (show Ok _ _ _ from ?_)
        refine Hv_mk (Kv_c (x := (18, n, 0)) rfl hK) (C_t7.1.2.2.2.2.2.2 hTt) C_t7 hT (by omega) (by omega) (by omega) ?_ ?_ ?_ (by omega) ?_ ?_ ?_
        · exact ⟨(Io_n (by decide) (by decide) I_n_t7.1 I_n_t7.2.1 I_n_t7.2.2.1 (fun q => absurd q (by decide)) (fun q => absurd q (by decide)) I_n_t7.2.2.2), (Nd_0 (by decide) Mo_nil), Stk_step (N := n) (pop := (22, n, t)) (new := [(18, n, 0)]) F0 C_t7.1.to2 (fun (h : nk 22 = false) => absurd h (by decide)) (fun q _ h => h (22, n, t) rfl) (fun _ => rfl) (fun y hy hk => ⟨rfl, (Mo_cons (fun q => show n ≤ n from by omega) Mo_nil) y hy hk⟩) (fun (h : 22 = 3 ∨ 22 = 18 ∨ 22 = 41) => absurd h (by decide)) (fun (h : 22 = 18) => absurd h (by decide)) (fun (h : 22 = 41 ∨ 22 = 42 ∨ 22 = 43) => absurd h (by decide)) r [] (fun y hy => absurd hy List.not_mem_nil) hS⟩
        · exact (Aj_sub (y := (18, n, 0)) hJ (Nat.le_of_ble_eq_true rfl))
        · show m_dp t7 = (dlt 18 + sD r)
          have : dlt 18 = 0 := rfl; have : dlt 22 = 0 := rfl; omega
        · show m_rw t7 = (rho 18 + sR r)
          have : rho 18 = 0 := rfl; have : rho 22 = 0 := rfl; omega
        · show m_md t7 + (mu7 18 + sM r) ≤ 3 * m_at t7 + 7 * (r.length + 1) + 10
          have : mu7 18 = 5 := rfl; have : mu7 22 = 7 := rfl; omega
        · show (wt 18 + sW r) + 6 * (4096 - m_at t7) + 4 * (600 - (r.length + 1)) < (wt 22 + sW r) + 6 * (4096 - m_at t0) + 4 * (600 - (r.length + 1))
          have : wt 18 = 0 := rfl; have : wt 22 = 5 := rfl; omega

theorem S_23 {t0 : Mm} {n t : Nat} {r : List It} (H : Hp t0 (23, n, t) r) {E : Mm → Prop} : Ok (Qh (mz t0 ((23, n, t) :: r))) E (b_X6_step 23 n t t0) := by
  obtain ⟨hK, hT, hc, hw0, ha, hC, hS, hJ, hdp, hdl, hrw, hmd, htd, hln, hm16, hI, hD, hTt⟩ := Hp_out H
  have C_t0 := hC n
  have F0 := C_t0.2.1
  have I_n_t0 : Nq t0 n := ⟨(hI.2.1 rfl).1, (hI.2.1 rfl).2.1, (hI.2.1 rfl).2.2, hI.2.2.2 rfl⟩
  have m_n_t0 := I_n_t0.1
  have ht : t < 4096 := hI.1.1 (show 23 ≠ 42 by decide) (show 23 ≠ 48 by decide)
  have hdp : m_dp t0 = dlt 23 + sD r := hdp
  have hrw : m_rw t0 = rho 23 + sR r := hrw
  have hmd : m_md t0 + mu7 23 + sM r ≤ 3 * m_at t0 + 7 * r.length + 17 := hmd
  have hand : t &&& 1 ≤ 1 := Nat.and_le_right
  have h01 : (0 &&& 1 : Nat) = 0 := rfl
  have h23 := Nat.pos_of_ne_zero (hD.2.2.2.2.2.2 rfl).2
  have hsr := sR_le r
  have h02 : (1 : Nat) * 256 = 256 := rfl
  have hq1 : dlt 23 = 0 := rfl
  have hq2 : rho 23 = 0 := rfl
  have hq3 : mu7 23 = 2 := rfl
  unfold b_X6_step
  refine Ok_ifl (by decide) (by decide) (fun _ => ?_) (fun q => absurd (by decide) q)
  refine Ok_ifl (by decide) (by decide) (fun q => absurd q (by decide)) (fun _ => ?_)
  refine Ok_ifl (by decide) (by decide) (fun _ => ?_) (fun q => absurd (by decide) q)
  refine Ok_bnc ?_
  try unfold b_X6_typing
  refine Ok_ck (by decide) ?_
  refine Ok_ife (by decide) (by decide) (fun q => absurd q (by decide)) (fun _ => ?_)
  refine Ok_ife (by decide) (by decide) (fun q => absurd q (by decide)) (fun _ => ?_)
  refine Ok_ife (by decide) (by decide) (fun q => absurd q (by decide)) (fun _ => ?_)
  refine Ok_ife (by decide) (by decide) (fun q => absurd q (by decide)) (fun _ => ?_)
  refine Ok_ife (by decide) (by decide) (fun q => absurd q (by decide)) (fun _ => ?_)
  refine Ok_ife (by decide) (by decide) (fun _ => ?_) (fun q => absurd (by decide) q)
  refine Ok_bnc ?_
  try unfold b_X6_params
  refine Kp_child C_t0 I_n_t0.1 I_n_t0.2.1 I_n_t0.2.2.1 (by omega) (by omega) (by decide) (by decide) (fun t3 C_t3 X_t3 a_t3 b_t3 d_t3 w_t3 u_t3 v_t3 j_t3 l_t3 => ?_)
  have e_t3 := C_t3.2.2.2.1
  have I_n_t3 := I_n_t0.chd X_t3 j_t3
  have f_n_t3 : Fz t3 n := j_t3.2.2.2.2.1
  have I_m_mdt0_t3 : Nq t3 (m_md t0) := Nq.chn j_t3 (by omega) I_n_t0 (by decide)
  have u_m_mdt0_t3 : Up t3 (m_md t0) := Or.inl j_t3.2.1
  refine Kp_more C_t3 (by omega) (by omega) (fun t4 C_t4 X_t4 a_t4 b_t4 d_t4 w_t4 u_t4 v_t4 j_t4 l_t4 => ?_)
  have e_t4 := C_t4.2.2.2.1
  rcases w_t4 with ⟨w_t4, y_t4⟩ | ⟨w_t4, wb_t4⟩
  · have I_n_t4 := I_n_t3.flat X_t4
    have f_n_t4 := f_n_t3.ex I_n_t3 (X_t4 0)
    have I_m_mdt0_t4 := I_m_mdt0_t3.flat X_t4
    have u_m_mdt0_t4 := u_m_mdt0_t3.ex I_m_mdt0_t3 (X_t4 0)
    have z_t5 : m_at t4 < m_ct t4 := lo_ne (Nat.ne_of_gt (show 0 < lo t4 (m_at t4) from by omega))
    refine Kp_at C_t4 (fun t5 C_t5 X_t5 a_t5 b_t5 d_t5 w_t5 u_t5 v_t5 j_t5 l_t5 => ?_)
    have e_t5 := C_t5.2.2.2.1
    have I_n_t5 := I_n_t4.flat X_t5
    have f_n_t5 := f_n_t4.ex I_n_t4 (X_t5 0)
    have I_m_mdt0_t5 := I_m_mdt0_t4.flat X_t5
    have u_m_mdt0_t5 := u_m_mdt0_t4.ex I_m_mdt0_t4 (X_t5 0)
    refine Ok_ck (show (m_rw t5) < 64 from by omega) ?_
    refine Kp_nm C_t5 (by decide) (fun t6 C_t6 X_t6 a_t6 b_t6 d_t6 w_t6 u_t6 v_t6 j_t6 l_t6 => ?_)
    have e_t6 := C_t6.2.2.2.1
    have I_n_t6 := I_n_t5.flat X_t6
    have f_n_t6 := f_n_t5.ex I_n_t5 (X_t6 0)
    have I_m_mdt0_t6 := I_m_mdt0_t5.flat X_t6
    have u_m_mdt0_t6 := u_m_mdt0_t5.ex I_m_mdt0_t5 (X_t6 0)
    refine Ok_ck (show (m_rw t6) < 64 from by omega) ?_
    refine Kp_pl C_t6 (by decide) (fun t7 C_t7 X_t7 a_t7 b_t7 d_t7 w_t7 u_t7 v_t7 j_t7 l_t7 => ?_)
    have e_t7 := C_t7.2.2.2.1
    have I_n_t7 := I_n_t6.flat X_t7
    have f_n_t7 := f_n_t6.ex I_n_t6 (X_t7 0)
    have I_m_mdt0_t7 := I_m_mdt0_t6.flat X_t7
    have u_m_mdt0_t7 := u_m_mdt0_t6.ex I_m_mdt0_t6 (X_t7 0)
    refine Ok_ck (show (m_rw t7) < 64 from by omega) ?_
    refine Kp_pe C_t7 (Nat.zero_le _) (fun t8 C_t8 X_t8 a_t8 b_t8 d_t8 w_t8 u_t8 v_t8 j_t8 l_t8 => ?_)
    have e_t8 := C_t8.2.2.2.1
    have I_n_t8 := I_n_t7.flat X_t8
    have f_n_t8 := f_n_t7.ex I_n_t7 (X_t8 0)
    have I_m_mdt0_t8 := I_m_mdt0_t7.flat X_t8
    have u_m_mdt0_t8 := u_m_mdt0_t7.ex I_m_mdt0_t7 (X_t8 0)
    refine Ok_ck (show (m_rw t8) < 64 from by omega) ?_
    refine Kp_en C_t8 (by decide) (fun t9 C_t9 X_t9 a_t9 b_t9 d_t9 w_t9 u_t9 v_t9 j_t9 l_t9 => ?_)
    have e_t9 := C_t9.2.2.2.1
    have I_n_t9 := I_n_t8.flat X_t9
    have f_n_t9 := f_n_t8.ex I_n_t8 (X_t9 0)
    have I_m_mdt0_t9 := I_m_mdt0_t8.flat X_t9
    have u_m_mdt0_t9 := u_m_mdt0_t8.ex I_m_mdt0_t8 (X_t9 0)
    refine Kp_rw C_t9 (fun k hk => ?_) (fun t10 C_t10 X_t10 a_t10 b_t10 d_t10 w_t10 u_t10 v_t10 j_t10 l_t10 => ?_)
    · rw [j_t9.2.2.2.2, j_t8]
      by_cases h9 : k = m_rw t7
      · rw [h9, upN_at]; exact Nat.zero_le _
      · rw [upN_ne h9]
        have h8 := (C_t7.2.2.2.2.2.1 k).2.2.2 (by omega)
        omega
    have e_t10 := C_t10.2.2.2.1
    have I_n_t10 := I_n_t9.flat X_t10
    have f_n_t10 := f_n_t9.ex I_n_t9 (X_t10 0)
    have I_m_mdt0_t10 := I_m_mdt0_t9.flat X_t10
    have u_m_mdt0_t10 := u_m_mdt0_t9.ex I_m_mdt0_t9 (X_t10 0)
    refine Kp_push C_t10 (by omega) (fun t11 C_t11 X_t11 a_t11 b_t11 d_t11 w_t11 u_t11 v_t11 j_t11 l_t11 => ?_)
    have e_t11 := C_t11.2.2.2.1
    have I_n_t11 := I_n_t10.flat X_t11
    have f_n_t11 := f_n_t10.ex I_n_t10 (X_t11 0)
    have I_m_mdt0_t11 := I_m_mdt0_t10.flat X_t11
    have u_m_mdt0_t11 := u_m_mdt0_t10.ex I_m_mdt0_t10 (X_t11 0)
    refine Ok_ret (show Ok _ _ _ from ?_)
    refine Ok_ret (show Ok _ _ _ from ?_)
    refine Hv_mk (Kv_c (x := (24, m_md t0, 0)) rfl hK) (C_t11.1.2.2.2.2.2.2 hTt) C_t11 hT (by omega) (by omega) (by omega) ?_ ?_ ?_ (by omega) ?_ ?_ ?_
    · exact ⟨(Io_n (by decide) (by decide) I_m_mdt0_t11.1 I_m_mdt0_t11.2.1 I_m_mdt0_t11.2.2.1 (fun q => absurd q (by decide)) (fun q => absurd q (by decide)) I_m_mdt0_t11.2.2.2), (Nd_0 (by decide) Mo_nil), Stk_step (N := n) (pop := (23, n, t)) (new := [(24, m_md t0, 0)]) F0 C_t11.1.to2 (fun (h : nk 23 = false) => absurd h (by decide)) (fun q _ h => h (23, n, t) rfl) (fun _ => rfl) (fun y hy hk => ⟨rfl, (Mo_cons (fun q => show n ≤ m_md t0 from by omega) Mo_nil) y hy hk⟩) (fun (h : 23 = 3 ∨ 23 = 18 ∨ 23 = 41) => absurd h (by decide)) (fun (h : 23 = 18) => absurd h (by decide)) (fun (h : 23 = 41 ∨ 23 = 42 ∨ 23 = 43) => absurd h (by decide)) r [] (fun y hy => absurd hy List.not_mem_nil) hS⟩
    · exact (Aj_sub (y := (24, m_md t0, 0)) hJ (Nat.le_of_ble_eq_true rfl))
    · show m_dp t11 = (dlt 24 + sD r)
      have : dlt 23 = 0 := rfl; have : dlt 24 = 1 := rfl; omega
    · show m_rw t11 = (rho 24 + sR r)
      have : rho 23 = 0 := rfl; have : rho 24 = 1 := rfl; omega
    · show m_md t11 + (mu7 24 + sM r) ≤ 3 * m_at t11 + 7 * (r.length + 1) + 10
      have : mu7 23 = 2 := rfl; have : mu7 24 = 4 := rfl; omega
    · show (wt 24 + sW r) + 6 * (4096 - m_at t11) + 4 * (600 - (r.length + 1)) < (wt 23 + sW r) + 6 * (4096 - m_at t0) + 4 * (600 - (r.length + 1))
      have : wt 23 = 0 := rfl; have : wt 24 = 0 := rfl; omega
  · have w_t4 := Nat.pos_of_ne_zero w_t4
    have I_n_t4 := I_n_t3.flat X_t4
    have f_n_t4 := f_n_t3.ex I_n_t3 (X_t4 0)
    have I_m_mdt0_t4 := I_m_mdt0_t3.flat X_t4
    have u_m_mdt0_t4 := u_m_mdt0_t3.ex I_m_mdt0_t3 (X_t4 0)
    refine Kp_at C_t4 (fun t12 C_t12 X_t12 a_t12 b_t12 d_t12 w_t12 u_t12 v_t12 j_t12 l_t12 => ?_)
    have e_t12 := C_t12.2.2.2.1
    have I_n_t12 := I_n_t4.flat X_t12
    have f_n_t12 := f_n_t4.ex I_n_t4 (X_t12 0)
    have I_m_mdt0_t12 := I_m_mdt0_t4.flat X_t12
    have u_m_mdt0_t12 := u_m_mdt0_t4.ex I_m_mdt0_t4 (X_t12 0)
    refine Ok_ck (show (m_rw t12) < 64 from by omega) ?_
    refine Kp_nm C_t12 (by decide) (fun t13 C_t13 X_t13 a_t13 b_t13 d_t13 w_t13 u_t13 v_t13 j_t13 l_t13 => ?_)
    have e_t13 := C_t13.2.2.2.1
    have I_n_t13 := I_n_t12.flat X_t13
    have f_n_t13 := f_n_t12.ex I_n_t12 (X_t13 0)
    have I_m_mdt0_t13 := I_m_mdt0_t12.flat X_t13
    have u_m_mdt0_t13 := u_m_mdt0_t12.ex I_m_mdt0_t12 (X_t13 0)
    refine Ok_ck (show (m_rw t13) < 64 from by omega) ?_
    refine Kp_pl C_t13 (by decide) (fun t14 C_t14 X_t14 a_t14 b_t14 d_t14 w_t14 u_t14 v_t14 j_t14 l_t14 => ?_)
    have e_t14 := C_t14.2.2.2.1
    have I_n_t14 := I_n_t13.flat X_t14
    have f_n_t14 := f_n_t13.ex I_n_t13 (X_t14 0)
    have I_m_mdt0_t14 := I_m_mdt0_t13.flat X_t14
    have u_m_mdt0_t14 := u_m_mdt0_t13.ex I_m_mdt0_t13 (X_t14 0)
    refine Ok_ck (show (m_rw t14) < 64 from by omega) ?_
    refine Kp_pe C_t14 (Nat.zero_le _) (fun t15 C_t15 X_t15 a_t15 b_t15 d_t15 w_t15 u_t15 v_t15 j_t15 l_t15 => ?_)
    have e_t15 := C_t15.2.2.2.1
    have I_n_t15 := I_n_t14.flat X_t15
    have f_n_t15 := f_n_t14.ex I_n_t14 (X_t15 0)
    have I_m_mdt0_t15 := I_m_mdt0_t14.flat X_t15
    have u_m_mdt0_t15 := u_m_mdt0_t14.ex I_m_mdt0_t14 (X_t15 0)
    refine Ok_ck (show (m_rw t15) < 64 from by omega) ?_
    refine Kp_en C_t15 (by decide) (fun t16 C_t16 X_t16 a_t16 b_t16 d_t16 w_t16 u_t16 v_t16 j_t16 l_t16 => ?_)
    have e_t16 := C_t16.2.2.2.1
    have I_n_t16 := I_n_t15.flat X_t16
    have f_n_t16 := f_n_t15.ex I_n_t15 (X_t16 0)
    have I_m_mdt0_t16 := I_m_mdt0_t15.flat X_t16
    have u_m_mdt0_t16 := u_m_mdt0_t15.ex I_m_mdt0_t15 (X_t16 0)
    refine Kp_rw C_t16 (fun k hk => ?_) (fun t17 C_t17 X_t17 a_t17 b_t17 d_t17 w_t17 u_t17 v_t17 j_t17 l_t17 => ?_)
    · rw [j_t16.2.2.2.2, j_t15]
      by_cases h9 : k = m_rw t14
      · rw [h9, upN_at]; exact Nat.zero_le _
      · rw [upN_ne h9]
        have h8 := (C_t14.2.2.2.2.2.1 k).2.2.2 (by omega)
        omega
    have e_t17 := C_t17.2.2.2.1
    have I_n_t17 := I_n_t16.flat X_t17
    have f_n_t17 := f_n_t16.ex I_n_t16 (X_t17 0)
    have I_m_mdt0_t17 := I_m_mdt0_t16.flat X_t17
    have u_m_mdt0_t17 := u_m_mdt0_t16.ex I_m_mdt0_t16 (X_t17 0)
    refine Kp_push C_t17 (by omega) (fun t18 C_t18 X_t18 a_t18 b_t18 d_t18 w_t18 u_t18 v_t18 j_t18 l_t18 => ?_)
    have e_t18 := C_t18.2.2.2.1
    have I_n_t18 := I_n_t17.flat X_t18
    have f_n_t18 := f_n_t17.ex I_n_t17 (X_t18 0)
    have I_m_mdt0_t18 := I_m_mdt0_t17.flat X_t18
    have u_m_mdt0_t18 := u_m_mdt0_t17.ex I_m_mdt0_t17 (X_t18 0)
    refine Ok_ret (show Ok _ _ _ from ?_)
    refine Ok_ret (show Ok _ _ _ from ?_)
    exact Or.inl ⟨Nat.ne_of_gt (show 0 < m_wr t18 from by omega), by omega, by omega, C_t18.2.2.2.2.2, by omega⟩

theorem S_24 {t0 : Mm} {n t : Nat} {r : List It} (H : Hp t0 (24, n, t) r) {E : Mm → Prop} : Ok (Qh (mz t0 ((24, n, t) :: r))) E (b_X6_step 24 n t t0) := by
  obtain ⟨hK, hT, hc, hw0, ha, hC, hS, hJ, hdp, hdl, hrw, hmd, htd, hln, hm16, hI, hD, hTt⟩ := Hp_out H
  have C_t0 := hC n
  have F0 := C_t0.2.1
  have I_n_t0 : Nq t0 n := ⟨(hI.2.1 rfl).1, (hI.2.1 rfl).2.1, (hI.2.1 rfl).2.2, hI.2.2.2 rfl⟩
  have m_n_t0 := I_n_t0.1
  have ht : t < 4096 := hI.1.1 (show 24 ≠ 42 by decide) (show 24 ≠ 48 by decide)
  have hdp : m_dp t0 = dlt 24 + sD r := hdp
  have hrw : m_rw t0 = rho 24 + sR r := hrw
  have hmd : m_md t0 + mu7 24 + sM r ≤ 3 * m_at t0 + 7 * r.length + 17 := hmd
  have hand : t &&& 1 ≤ 1 := Nat.and_le_right
  have h01 : (0 &&& 1 : Nat) = 0 := rfl
  have hsr := sR_le r
  have h02 : (1 : Nat) * 256 = 256 := rfl
  have hq1 : dlt 24 = 1 := rfl
  have hq2 : rho 24 = 1 := rfl
  have hq3 : mu7 24 = 4 := rfl
  unfold b_X6_step
  refine Ok_ifl (by decide) (by decide) (fun _ => ?_) (fun q => absurd (by decide) q)
  refine Ok_ifl (by decide) (by decide) (fun q => absurd q (by decide)) (fun _ => ?_)
  refine Ok_ifl (by decide) (by decide) (fun _ => ?_) (fun q => absurd (by decide) q)
  refine Ok_bnc ?_
  try unfold b_X6_typing
  refine Ok_ck (by decide) ?_
  refine Ok_ife (by decide) (by decide) (fun q => absurd q (by decide)) (fun _ => ?_)
  refine Ok_ife (by decide) (by decide) (fun q => absurd q (by decide)) (fun _ => ?_)
  refine Ok_ife (by decide) (by decide) (fun q => absurd q (by decide)) (fun _ => ?_)
  refine Ok_ife (by decide) (by decide) (fun q => absurd q (by decide)) (fun _ => ?_)
  refine Ok_ife (by decide) (by decide) (fun q => absurd q (by decide)) (fun _ => ?_)
  refine Ok_ife (by decide) (by decide) (fun q => absurd q (by decide)) (fun _ => ?_)
  refine Ok_ife (by decide) (by decide) (fun _ => ?_) (fun q => absurd (by decide) q)
  refine Ok_bnc ?_
  try unfold b_X6_param
  refine Kp_look C_t0 hT (by omega) ?_
  refine Ok_ife (Nat.lt_trans (lo_lt (C_t0.tk hT) _) (by decide)) (by decide) (fun q3 => ?_) (fun q3 => ?_)
  · refine Ok_ck (show (m_rw t0) ≠ 0 from by omega) ?_
    refine Ok_ck (show ((m_rw t0) - 1) < 64 from by omega) ?_
    refine Ok_ifz (Nat.lt_trans (C_t0.2.2.2.2.2.1 ((m_rw t0) - 1)).1 (by decide)) (fun q4 => ?_) (fun q4 => ?_)
    · refine Ok_ck (show ((m_rw t0) - 1) < 64 from by omega) ?_
      refine Ok_ifz (show m_pe t0 ((m_rw t0) - 1) < 2147483648 from by have := (C_t0.2.2.2.2.2.1 ((m_rw t0) - 1)).2.2.2 (by omega); omega) (fun q5 => ?_) (fun q5 => ?_)
      · try unfold lp_X6_param_36
        have z_t6 : m_at t0 < m_ct t0 := lo_ne (Nat.ne_of_gt (show 0 < lo t0 (m_at t0) from by omega))
        refine Kp_at C_t0 (fun t6 C_t6 X_t6 a_t6 b_t6 d_t6 w_t6 u_t6 v_t6 j_t6 l_t6 => ?_)
        have e_t6 := C_t6.2.2.2.1
        have I_n_t6 := I_n_t0.flat X_t6
        have pe_t6 : m_pe t6 = m_pe t0 := j_t6.2.2.2.2
        refine Ok_ck (show (m_dp t6) ≠ 0 from by omega) ?_
        refine Kp_dp C_t6 (fun t7 C_t7 X_t7 a_t7 b_t7 d_t7 w_t7 u_t7 v_t7 j_t7 l_t7 => ?_)
        have e_t7 := C_t7.2.2.2.1
        rw [a_t6] at a_t7
        rw [b_t6] at b_t7
        rw [d_t6] at d_t7
        rw [w_t6] at w_t7
        rw [u_t6] at u_t7
        rw [v_t6] at v_t7
        clear d_t6 w_t6 u_t6 v_t6 e_t6 a_t6 b_t6
        have I_n_t7 := I_n_t6.flat X_t7
        have pe_t7 : m_pe t7 = m_pe t0 := j_t7.2.2.2.2.trans pe_t6
        refine Ok_ck (show (m_rw t7) ≠ 0 from by omega) ?_
        refine Kp_rw C_t7 (fun k hk => (C_t7.2.2.2.2.2.1 k).2.2.2 (by omega)) (fun t8 C_t8 X_t8 a_t8 b_t8 d_t8 w_t8 u_t8 v_t8 j_t8 l_t8 => ?_)
        have e_t8 := C_t8.2.2.2.1
        rw [a_t7] at a_t8
        rw [b_t7] at b_t8
        rw [d_t7] at d_t8
        rw [w_t7] at w_t8
        rw [u_t7] at u_t8
        rw [v_t7] at v_t8
        clear d_t7 w_t7 u_t7 v_t7 e_t7 a_t7 b_t7
        have I_n_t8 := I_n_t7.flat X_t8
        have pe_t8 : m_pe t8 = m_pe t0 := j_t8.2.2.2.2.trans pe_t7
        refine Ok_ret (show Ok _ _ _ from ?_)
        refine Ok_ret (show Ok _ _ _ from ?_)
        refine Hv_mk hK (C_t8.1.2.2.2.2.2.2 hTt) C_t8 hT (by omega) (by omega) (by omega) ?_ ?_ ?_ (by omega) ?_ ?_ ?_
        · exact Stk_step (N := n) (pop := (24, n, t)) (new := []) F0 C_t8.1.to2 (fun (h : nk 24 = false) => absurd h (by decide)) (fun q _ h => h (24, n, t) rfl) (fun _ => rfl) (fun y hy hk => ⟨rfl, Mo_nil (n := n) y hy hk⟩) (fun (h : 24 = 3 ∨ 24 = 18 ∨ 24 = 41) => absurd h (by decide)) (fun (h : 24 = 18) => absurd h (by decide)) (fun (h : 24 = 41 ∨ 24 = 42 ∨ 24 = 43) => absurd h (by decide)) r [] (fun y hy => absurd hy List.not_mem_nil) hS
        · exact Aj_tl hJ
        · show m_dp t8 = sD r
          have : dlt 24 = 1 := rfl; omega
        · show m_rw t8 = sR r
          have : rho 24 = 1 := rfl; omega
        · show m_md t8 + sM r ≤ 3 * m_at t8 + 7 * (r.length) + 10
          have : mu7 24 = 4 := rfl; omega
        · show sW r + 6 * (4096 - m_at t8) + 4 * (600 - (r.length)) < (wt 24 + sW r) + 6 * (4096 - m_at t0) + 4 * (600 - (r.length + 1))
          have : wt 24 = 0 := rfl; omega
      · try unfold lp_X6_param_67
        refine Ok_ife (Nat.lt_trans (lo_lt (C_t0.tk hT) _) (by decide)) (by decide) (fun q => absurd (q3.symm.trans q) (by decide)) (fun _ => ?_)
        try unfold lp_X6_param_94
        try unfold lp_X6_param_97
        refine Ok_ife (Nat.lt_trans (lo_lt (C_t0.tk hT) _) (by decide)) (by decide) (fun q => absurd (q3.symm.trans q) (by decide)) (fun _ => ?_)
        try unfold lp_X6_param_111
        try unfold lp_X6_param_114
        refine Ok_ck (show (((m_rw t0) - 1) + 1) ≠ 0 from by omega) ?_
        refine Ok_ck (show ((((m_rw t0) - 1) + 1) - 1) < 64 from by omega) ?_
        refine Ok_ifz (Nat.lt_trans (C_t0.2.2.2.2.2.1 ((((m_rw t0) - 1) + 1) - 1)).2.2.1 (by decide)) (fun q9 => ?_) (fun q9 => ?_)
        · refine Ok_ife (Nat.lt_trans (lo_lt (C_t0.tk hT) _) (by decide)) (by decide) (fun q => absurd (q3.symm.trans q) (by decide)) (fun _ => ?_)
          refine Ok_ck (show (((m_rw t0) - 1) + 1) ≠ 0 from by omega) ?_
          refine Ok_ck (show ((((m_rw t0) - 1) + 1) - 1) < 64 from by omega) ?_
          refine Ok_ifz (Nat.lt_trans (C_t0.2.2.2.2.2.1 ((((m_rw t0) - 1) + 1) - 1)).1 (by decide)) (fun q10 => ?_) (fun q10 => ?_)
          · try unfold lp_X6_param_169
            refine Ok_ifz0 ?_
            try unfold lp_X6_param_193
            refine Kp_error C_t0 (by omega) (fun t11 C_t11 X_t11 a_t11 b_t11 d_t11 w_t11 u_t11 v_t11 j_t11 l_t11 => ?_)
            have wb_t11 := w_t11.2
            have w_t11 := Nat.pos_of_ne_zero w_t11.1
            have e_t11 := C_t11.2.2.2.1
            have I_n_t11 := I_n_t0.flat X_t11
            have pe_t11 : m_pe t11 = m_pe t0 := j_t11.2.2.2.2
            refine Ok_ret (show Ok _ _ _ from ?_)
            refine Ok_ret (show Ok _ _ _ from ?_)
            exact Or.inl ⟨Nat.ne_of_gt (show 0 < m_wr t11 from by omega), by omega, by omega, C_t11.2.2.2.2.2, by omega⟩
          · try unfold lp_X6_param_137
            refine Ok_ife (Nat.lt_trans (lo_lt (C_t0.tk hT) _) (by decide)) (by decide) (fun q => absurd (q3.symm.trans q) (by decide)) (fun _ => ?_)
            refine Ok_ife (Nat.lt_trans (lo_lt (C_t0.tk hT) _) (by decide)) (by decide) (fun q => absurd (q3.symm.trans q) (by decide)) (fun _ => ?_)
            refine Ok_ck (Nat.lt_trans (lo_lt (C_t0.tk hT) _) (by decide)) ?_
            refine Ok_ifz (f6_beginsType _) (fun q => ?_) (fun q => absurd (by rw [q3]; decide) q)
            try unfold lp_X6_param_169
            refine Ok_ifz0 ?_
            try unfold lp_X6_param_193
            refine Kp_error C_t0 (by omega) (fun t12 C_t12 X_t12 a_t12 b_t12 d_t12 w_t12 u_t12 v_t12 j_t12 l_t12 => ?_)
            have wb_t12 := w_t12.2
            have w_t12 := Nat.pos_of_ne_zero w_t12.1
            have e_t12 := C_t12.2.2.2.1
            have I_n_t12 := I_n_t0.flat X_t12
            have pe_t12 : m_pe t12 = m_pe t0 := j_t12.2.2.2.2
            refine Ok_ret (show Ok _ _ _ from ?_)
            refine Ok_ret (show Ok _ _ _ from ?_)
            exact Or.inl ⟨Nat.ne_of_gt (show 0 < m_wr t12 from by omega), by omega, by omega, C_t12.2.2.2.2.2, by omega⟩
        · try unfold lp_X6_param_169
          refine Ok_ifz0 ?_
          try unfold lp_X6_param_193
          refine Kp_error C_t0 (by omega) (fun t13 C_t13 X_t13 a_t13 b_t13 d_t13 w_t13 u_t13 v_t13 j_t13 l_t13 => ?_)
          have wb_t13 := w_t13.2
          have w_t13 := Nat.pos_of_ne_zero w_t13.1
          have e_t13 := C_t13.2.2.2.1
          have I_n_t13 := I_n_t0.flat X_t13
          have pe_t13 : m_pe t13 = m_pe t0 := j_t13.2.2.2.2
          refine Ok_ret (show Ok _ _ _ from ?_)
          refine Ok_ret (show Ok _ _ _ from ?_)
          exact Or.inl ⟨Nat.ne_of_gt (show 0 < m_wr t13 from by omega), by omega, by omega, C_t13.2.2.2.2.2, by omega⟩
    · try unfold lp_X6_param_36
      have z_t14 : m_at t0 < m_ct t0 := lo_ne (Nat.ne_of_gt (show 0 < lo t0 (m_at t0) from by omega))
      refine Kp_at C_t0 (fun t14 C_t14 X_t14 a_t14 b_t14 d_t14 w_t14 u_t14 v_t14 j_t14 l_t14 => ?_)
      have e_t14 := C_t14.2.2.2.1
      have I_n_t14 := I_n_t0.flat X_t14
      have pe_t14 : m_pe t14 = m_pe t0 := j_t14.2.2.2.2
      refine Ok_ck (show (m_dp t14) ≠ 0 from by omega) ?_
      refine Kp_dp C_t14 (fun t15 C_t15 X_t15 a_t15 b_t15 d_t15 w_t15 u_t15 v_t15 j_t15 l_t15 => ?_)
      have e_t15 := C_t15.2.2.2.1
      rw [a_t14] at a_t15
      rw [b_t14] at b_t15
      rw [d_t14] at d_t15
      rw [w_t14] at w_t15
      rw [u_t14] at u_t15
      rw [v_t14] at v_t15
      clear d_t14 w_t14 u_t14 v_t14 e_t14 a_t14 b_t14
      have I_n_t15 := I_n_t14.flat X_t15
      have pe_t15 : m_pe t15 = m_pe t0 := j_t15.2.2.2.2.trans pe_t14
      refine Ok_ck (show (m_rw t15) ≠ 0 from by omega) ?_
      refine Kp_rw C_t15 (fun k hk => (C_t15.2.2.2.2.2.1 k).2.2.2 (by omega)) (fun t16 C_t16 X_t16 a_t16 b_t16 d_t16 w_t16 u_t16 v_t16 j_t16 l_t16 => ?_)
      have e_t16 := C_t16.2.2.2.1
      rw [a_t15] at a_t16
      rw [b_t15] at b_t16
      rw [d_t15] at d_t16
      rw [w_t15] at w_t16
      rw [u_t15] at u_t16
      rw [v_t15] at v_t16
      clear d_t15 w_t15 u_t15 v_t15 e_t15 a_t15 b_t15
      have I_n_t16 := I_n_t15.flat X_t16
      have pe_t16 : m_pe t16 = m_pe t0 := j_t16.2.2.2.2.trans pe_t15
      refine Ok_ret (show Ok _ _ _ from ?_)
      refine Ok_ret (show Ok _ _ _ from ?_)
      refine Hv_mk hK (C_t16.1.2.2.2.2.2.2 hTt) C_t16 hT (by omega) (by omega) (by omega) ?_ ?_ ?_ (by omega) ?_ ?_ ?_
      · exact Stk_step (N := n) (pop := (24, n, t)) (new := []) F0 C_t16.1.to2 (fun (h : nk 24 = false) => absurd h (by decide)) (fun q _ h => h (24, n, t) rfl) (fun _ => rfl) (fun y hy hk => ⟨rfl, Mo_nil (n := n) y hy hk⟩) (fun (h : 24 = 3 ∨ 24 = 18 ∨ 24 = 41) => absurd h (by decide)) (fun (h : 24 = 18) => absurd h (by decide)) (fun (h : 24 = 41 ∨ 24 = 42 ∨ 24 = 43) => absurd h (by decide)) r [] (fun y hy => absurd hy List.not_mem_nil) hS
      · exact Aj_tl hJ
      · show m_dp t16 = sD r
        have : dlt 24 = 1 := rfl; omega
      · show m_rw t16 = sR r
        have : rho 24 = 1 := rfl; omega
      · show m_md t16 + sM r ≤ 3 * m_at t16 + 7 * (r.length) + 10
        have : mu7 24 = 4 := rfl; omega
      · show sW r + 6 * (4096 - m_at t16) + 4 * (600 - (r.length)) < (wt 24 + sW r) + 6 * (4096 - m_at t0) + 4 * (600 - (r.length + 1))
        have : wt 24 = 0 := rfl; omega
  · try unfold lp_X6_param_67
    refine Ok_ife (Nat.lt_trans (lo_lt (C_t0.tk hT) _) (by decide)) (by decide) (fun q17 => ?_) (fun q17 => ?_)
    · refine Kp_ahead C_t0 hT (by omega) ?_
      refine Ok_ife (Nat.lt_trans (lo_lt (C_t0.tk hT) _) (by decide)) (by decide) (fun q18 => ?_) (fun q18 => ?_)
      · try unfold lp_X6_param_90
        try unfold lp_X6_param_97
        refine Ok_ife (Nat.lt_trans (lo_lt (C_t0.tk hT) _) (by decide)) (by decide) (fun q => ?_) (fun q => absurd q17 q)
        refine Ok_ifz1 ?_
        try unfold lp_X6_param_111
        try unfold lp_X6_param_114
        refine Ok_ck (show (m_rw t0) ≠ 0 from by omega) ?_
        refine Ok_ck (show ((m_rw t0) - 1) < 64 from by omega) ?_
        refine Ok_ifz (Nat.lt_trans (C_t0.2.2.2.2.2.1 ((m_rw t0) - 1)).2.2.1 (by decide)) (fun q19 => ?_) (fun q19 => ?_)
        · refine Ok_ife (Nat.lt_trans (lo_lt (C_t0.tk hT) _) (by decide)) (by decide) (fun q => ?_) (fun q => absurd q17 q)
          try unfold lp_X6_param_137
          refine Ok_ife (Nat.lt_trans (lo_lt (C_t0.tk hT) _) (by decide)) (by decide) (fun q => ?_) (fun q => absurd q17 q)
          try unfold lp_X6_param_155
          refine Ok_ifz0 ?_
          try unfold lp_X6_param_198
          refine Kp_child C_t0 I_n_t0.1 I_n_t0.2.1 I_n_t0.2.2.1 (by omega) (by omega) (by decide) (by decide) (fun t20 C_t20 X_t20 a_t20 b_t20 d_t20 w_t20 u_t20 v_t20 j_t20 l_t20 => ?_)
          have e_t20 := C_t20.2.2.2.1
          have I_n_t20 := I_n_t0.chd X_t20 j_t20
          have pe_t20 : m_pe t20 = m_pe t0 := j_t20.2.2.2.2.2.2.2.2.2
          have f_n_t20 : Fz t20 n := j_t20.2.2.2.2.1
          have I_m_mdt0_t20 : Nq t20 (m_md t0) := Nq.chn j_t20 (by omega) I_n_t0 (by decide)
          have u_m_mdt0_t20 : Up t20 (m_md t0) := Or.inl j_t20.2.1
          refine Kp_push C_t20 (by omega) (fun t21 C_t21 X_t21 a_t21 b_t21 d_t21 w_t21 u_t21 v_t21 j_t21 l_t21 => ?_)
          have e_t21 := C_t21.2.2.2.1
          rw [a_t20] at a_t21
          rw [b_t20] at b_t21
          rw [d_t20] at d_t21
          rw [w_t20] at w_t21
          rw [u_t20] at u_t21
          rw [v_t20] at v_t21
          clear d_t20 w_t20 u_t20 v_t20 e_t20 a_t20 b_t20
          have I_n_t21 := I_n_t20.flat X_t21
          have f_n_t21 := f_n_t20.ex I_n_t20 (X_t21 0)
          have I_m_mdt0_t21 := I_m_mdt0_t20.flat X_t21
          have u_m_mdt0_t21 := u_m_mdt0_t20.ex I_m_mdt0_t20 (X_t21 0)
          have pe_t21 : m_pe t21 = m_pe t0 := j_t21.2.2.2.2.trans pe_t20
          refine Ok_ifz1 ?_
          refine Ok_bnc ?_
          try unfold b_X6_name
          refine Kp_look C_t21 hT (by omega) ?_
          refine Ok_ife (Nat.lt_trans (lo_lt (C_t21.tk hT) _) (by decide)) (by decide) (fun q23 => ?_) (fun q23 => ?_)
          · refine Kp_child C_t21 I_m_mdt0_t21.1 I_m_mdt0_t21.2.1 I_m_mdt0_t21.2.2.1 (by omega) (by omega) (by decide) (by decide) (fun t24 C_t24 X_t24 a_t24 b_t24 d_t24 w_t24 u_t24 v_t24 j_t24 l_t24 => ?_)
            have e_t24 := C_t24.2.2.2.1
            rw [a_t21] at a_t24
            rw [b_t21] at b_t24
            rw [d_t21] at d_t24
            rw [w_t21] at w_t24
            rw [u_t21] at u_t24
            rw [v_t21] at v_t24
            clear d_t21 w_t21 u_t21 v_t21 e_t21 a_t21
            have I_n_t24 := I_n_t21.chd X_t24 j_t24
            have f_n_t24 := f_n_t21.ex I_n_t21 (X_t24 0 (Nat.zero_le _))
            have I_m_mdt0_t24 := I_m_mdt0_t21.chd X_t24 j_t24
            have u_m_mdt0_t24 := u_m_mdt0_t21.ex I_m_mdt0_t21 (X_t24 0 (Nat.zero_le _))
            have pe_t24 : m_pe t24 = m_pe t0 := j_t24.2.2.2.2.2.2.2.2.2.trans pe_t21
            have f_m_mdt0_t24 : Fz t24 (m_md t0) := j_t24.2.2.2.2.1
            have I_m_mdt21_t24 : Nq t24 (m_md t21) := Nq.chn j_t24 (by omega) I_m_mdt0_t21 (by decide)
            have u_m_mdt21_t24 : Up t24 (m_md t21) := Or.inl j_t24.2.1
            have y9_t25 : m_at t24 = m_at t0 + 1 → lo t24 (m_at t24) = lo t0 (m_at t0 + 1) := fun h => lo_2 C_t24 C_t0 h
            have z_t25 : m_at t24 < m_ct t24 := lo_ne (Nat.ne_of_gt (show 0 < lo t24 (m_at t24) from by omega))
            refine Kp_at C_t24 (fun t25 C_t25 X_t25 a_t25 b_t25 d_t25 w_t25 u_t25 v_t25 j_t25 l_t25 => ?_)
            have e_t25 := C_t25.2.2.2.1
            rw [a_t24] at a_t25
            rw [b_t24] at b_t25
            rw [d_t24] at d_t25
            rw [w_t24] at w_t25
            rw [u_t24] at u_t25
            rw [v_t24] at v_t25
            rw [a_t24, e_t24] at z_t25
            clear d_t24 w_t24 u_t24 v_t24 e_t24 a_t24 b_t24
            have I_n_t25 := I_n_t24.flat X_t25
            have f_n_t25 := f_n_t24.ex I_n_t24 (X_t25 0)
            have I_m_mdt0_t25 := I_m_mdt0_t24.flat X_t25
            have f_m_mdt0_t25 := f_m_mdt0_t24.ex I_m_mdt0_t24 (X_t25 0)
            have u_m_mdt0_t25 := u_m_mdt0_t24.ex I_m_mdt0_t24 (X_t25 0)
            have I_m_mdt21_t25 := I_m_mdt21_t24.flat X_t25
            have u_m_mdt21_t25 := u_m_mdt21_t24.ex I_m_mdt21_t24 (X_t25 0)
            have pe_t25 : m_pe t25 = m_pe t0 := j_t25.2.2.2.2.trans pe_t24
            refine Ok_ret (show Ok _ _ _ from ?_)
            refine Ok_ck (show (m_rw t0) ≠ 0 from by omega) ?_
            refine Ok_ck (show ((m_rw t0) - 1) < 64 from by omega) ?_
            refine Ok_ck (show ((m_rw t0) - 1) < 64 from by omega) ?_
            refine Kp_pe C_t25 (show (m_pe t25 ((m_rw t0) - 1)) + 1 ≤ m_at t25 from by have := (C_t0.2.2.2.2.2.1 ((m_rw t0) - 1)).2.2.2 (by omega); rw [pe_t25]; omega) (fun t26 C_t26 X_t26 a_t26 b_t26 d_t26 w_t26 u_t26 v_t26 j_t26 l_t26 => ?_)
            have e_t26 := C_t26.2.2.2.1
            rw [a_t25] at a_t26
            rw [b_t25] at b_t26
            rw [d_t25] at d_t26
            rw [w_t25] at w_t26
            rw [u_t25] at u_t26
            rw [v_t25] at v_t26
            clear d_t25 w_t25 u_t25 v_t25 e_t25 a_t25 b_t25
            have I_n_t26 := I_n_t25.flat X_t26
            have f_n_t26 := f_n_t25.ex I_n_t25 (X_t26 0)
            have I_m_mdt0_t26 := I_m_mdt0_t25.flat X_t26
            have f_m_mdt0_t26 := f_m_mdt0_t25.ex I_m_mdt0_t25 (X_t26 0)
            have u_m_mdt0_t26 := u_m_mdt0_t25.ex I_m_mdt0_t25 (X_t26 0)
            have I_m_mdt21_t26 := I_m_mdt21_t25.flat X_t26
            have u_m_mdt21_t26 := u_m_mdt21_t25.ex I_m_mdt21_t25 (X_t26 0)
            refine Ok_ret (show Ok _ _ _ from ?_)
            refine Ok_ret (show Ok _ _ _ from ?_)
            refine Hv_mk (Kv_c (x := (25, n, 0)) rfl hK) (C_t26.1.2.2.2.2.2.2 hTt) C_t26 hT (by omega) (by omega) (by omega) ?_ ?_ ?_ (by omega) ?_ ?_ ?_
            · exact ⟨(Io_n (by decide) (by decide) I_n_t26.1 I_n_t26.2.1 I_n_t26.2.2.1 (fun q => absurd q (by decide)) (fun q => absurd q (by decide)) I_n_t26.2.2.2), (Nd_0 (by decide) Mo_nil), Stk_step (N := n) (pop := (24, n, t)) (new := [(25, n, 0)]) F0 C_t26.1.to2 (fun (h : nk 24 = false) => absurd h (by decide)) (fun q _ h => h (24, n, t) rfl) (fun _ => rfl) (fun y hy hk => ⟨rfl, (Mo_cons (fun q => show n ≤ n from by omega) Mo_nil) y hy hk⟩) (fun (h : 24 = 3 ∨ 24 = 18 ∨ 24 = 41) => absurd h (by decide)) (fun (h : 24 = 18) => absurd h (by decide)) (fun (h : 24 = 41 ∨ 24 = 42 ∨ 24 = 43) => absurd h (by decide)) r [] (fun y hy => absurd hy List.not_mem_nil) hS⟩
            · exact (Aj_sub (y := (25, n, 0)) hJ (Nat.le_of_ble_eq_true rfl))
            · show m_dp t26 = (dlt 25 + sD r)
              have : dlt 24 = 1 := rfl; have : dlt 25 = 1 := rfl; omega
            · show m_rw t26 = (rho 25 + sR r)
              have : rho 24 = 1 := rfl; have : rho 25 = 1 := rfl; omega
            · show m_md t26 + (mu7 25 + sM r) ≤ 3 * m_at t26 + 7 * (r.length + 1) + 10
              have : mu7 24 = 4 := rfl; have : mu7 25 = 4 := rfl; omega
            · show (wt 25 + sW r) + 6 * (4096 - m_at t26) + 4 * (600 - (r.length + 1)) < (wt 24 + sW r) + 6 * (4096 - m_at t0) + 4 * (600 - (r.length + 1))
              have : wt 24 = 0 := rfl; have : wt 25 = 1 := rfl; omega
          · refine Kp_error C_t21 (by omega) (fun t27 C_t27 X_t27 a_t27 b_t27 d_t27 w_t27 u_t27 v_t27 j_t27 l_t27 => ?_)
            have wb_t27 := w_t27.2
            have w_t27 := Nat.pos_of_ne_zero w_t27.1
            have e_t27 := C_t27.2.2.2.1
            have I_n_t27 := I_n_t21.flat X_t27
            have f_n_t27 := f_n_t21.ex I_n_t21 (X_t27 0)
            have I_m_mdt0_t27 := I_m_mdt0_t21.flat X_t27
            have u_m_mdt0_t27 := u_m_mdt0_t21.ex I_m_mdt0_t21 (X_t27 0)
            have pe_t27 : m_pe t27 = m_pe t0 := j_t27.2.2.2.2.trans pe_t21
            refine Kp_child C_t27 I_m_mdt0_t27.1 I_m_mdt0_t27.2.1 I_m_mdt0_t27.2.2.1 (by omega) (by omega) (by decide) (by decide) (fun t28 C_t28 X_t28 a_t28 b_t28 d_t28 w_t28 u_t28 v_t28 j_t28 l_t28 => ?_)
            have e_t28 := C_t28.2.2.2.1
            have I_n_t28 := I_n_t27.chd X_t28 j_t28
            have f_n_t28 := f_n_t27.ex I_n_t27 (X_t28 0 (Nat.zero_le _))
            have I_m_mdt0_t28 := I_m_mdt0_t27.chd X_t28 j_t28
            have u_m_mdt0_t28 := u_m_mdt0_t27.ex I_m_mdt0_t27 (X_t28 0 (Nat.zero_le _))
            have pe_t28 : m_pe t28 = m_pe t0 := j_t28.2.2.2.2.2.2.2.2.2.trans pe_t27
            have f_m_mdt0_t28 : Fz t28 (m_md t0) := j_t28.2.2.2.2.1
            have I_m_mdt27_t28 : Nq t28 (m_md t27) := Nq.chn j_t28 (by omega) I_m_mdt0_t27 (by decide)
            have u_m_mdt27_t28 : Up t28 (m_md t27) := Or.inl j_t28.2.1
            refine Kp_at C_t28 (fun t29 C_t29 X_t29 a_t29 b_t29 d_t29 w_t29 u_t29 v_t29 j_t29 l_t29 => ?_)
            have e_t29 := C_t29.2.2.2.1
            have I_n_t29 := I_n_t28.flat X_t29
            have f_n_t29 := f_n_t28.ex I_n_t28 (X_t29 0)
            have I_m_mdt0_t29 := I_m_mdt0_t28.flat X_t29
            have f_m_mdt0_t29 := f_m_mdt0_t28.ex I_m_mdt0_t28 (X_t29 0)
            have u_m_mdt0_t29 := u_m_mdt0_t28.ex I_m_mdt0_t28 (X_t29 0)
            have I_m_mdt27_t29 := I_m_mdt27_t28.flat X_t29
            have u_m_mdt27_t29 := u_m_mdt27_t28.ex I_m_mdt27_t28 (X_t29 0)
            have pe_t29 : m_pe t29 = m_pe t0 := j_t29.2.2.2.2.trans pe_t28
            refine Ok_ret (show Ok _ _ _ from ?_)
            refine Ok_ck (show (m_rw t0) ≠ 0 from by omega) ?_
            refine Ok_ck (show ((m_rw t0) - 1) < 64 from by omega) ?_
            refine Ok_ck (show ((m_rw t0) - 1) < 64 from by omega) ?_
            refine Kp_pe C_t29 (show (m_pe t29 ((m_rw t0) - 1)) + 1 ≤ m_at t29 from by have := (C_t0.2.2.2.2.2.1 ((m_rw t0) - 1)).2.2.2 (by omega); rw [pe_t29]; omega) (fun t30 C_t30 X_t30 a_t30 b_t30 d_t30 w_t30 u_t30 v_t30 j_t30 l_t30 => ?_)
            have e_t30 := C_t30.2.2.2.1
            have I_n_t30 := I_n_t29.flat X_t30
            have f_n_t30 := f_n_t29.ex I_n_t29 (X_t30 0)
            have I_m_mdt0_t30 := I_m_mdt0_t29.flat X_t30
            have f_m_mdt0_t30 := f_m_mdt0_t29.ex I_m_mdt0_t29 (X_t30 0)
            have u_m_mdt0_t30 := u_m_mdt0_t29.ex I_m_mdt0_t29 (X_t30 0)
            have I_m_mdt27_t30 := I_m_mdt27_t29.flat X_t30
            have u_m_mdt27_t30 := u_m_mdt27_t29.ex I_m_mdt27_t29 (X_t30 0)
            refine Ok_ret (show Ok _ _ _ from ?_)
            refine Ok_ret (show Ok _ _ _ from ?_)
            exact Or.inl ⟨Nat.ne_of_gt (show 0 < m_wr t30 from by omega), by omega, by omega, C_t30.2.2.2.2.2, by omega⟩
        · try unfold lp_X6_param_169
          refine Ok_ifz0 ?_
          try unfold lp_X6_param_193
          refine Kp_error C_t0 (by omega) (fun t31 C_t31 X_t31 a_t31 b_t31 d_t31 w_t31 u_t31 v_t31 j_t31 l_t31 => ?_)
          have wb_t31 := w_t31.2
          have w_t31 := Nat.pos_of_ne_zero w_t31.1
          have e_t31 := C_t31.2.2.2.1
          have I_n_t31 := I_n_t0.flat X_t31
          have pe_t31 : m_pe t31 = m_pe t0 := j_t31.2.2.2.2
          refine Ok_ret (show Ok _ _ _ from ?_)
          refine Ok_ret (show Ok _ _ _ from ?_)
          exact Or.inl ⟨Nat.ne_of_gt (show 0 < m_wr t31 from by omega), by omega, by omega, C_t31.2.2.2.2.2, by omega⟩
      · refine Kp_ahead C_t0 hT (by omega) ?_
        refine Ok_ife (Nat.lt_trans (lo_lt (C_t0.tk hT) _) (by decide)) (by decide) (fun q32 => ?_) (fun q32 => ?_)
        · try unfold lp_X6_param_90
          try unfold lp_X6_param_97
          refine Ok_ife (Nat.lt_trans (lo_lt (C_t0.tk hT) _) (by decide)) (by decide) (fun q => ?_) (fun q => absurd q17 q)
          refine Ok_ifz1 ?_
          try unfold lp_X6_param_111
          try unfold lp_X6_param_114
          refine Ok_ck (show (m_rw t0) ≠ 0 from by omega) ?_
          refine Ok_ck (show ((m_rw t0) - 1) < 64 from by omega) ?_
          refine Ok_ifz (Nat.lt_trans (C_t0.2.2.2.2.2.1 ((m_rw t0) - 1)).2.2.1 (by decide)) (fun q33 => ?_) (fun q33 => ?_)
          · refine Ok_ife (Nat.lt_trans (lo_lt (C_t0.tk hT) _) (by decide)) (by decide) (fun q => ?_) (fun q => absurd q17 q)
            try unfold lp_X6_param_137
            refine Ok_ife (Nat.lt_trans (lo_lt (C_t0.tk hT) _) (by decide)) (by decide) (fun q => ?_) (fun q => absurd q17 q)
            try unfold lp_X6_param_155
            refine Ok_ifz0 ?_
            try unfold lp_X6_param_198
            refine Kp_child C_t0 I_n_t0.1 I_n_t0.2.1 I_n_t0.2.2.1 (by omega) (by omega) (by decide) (by decide) (fun t34 C_t34 X_t34 a_t34 b_t34 d_t34 w_t34 u_t34 v_t34 j_t34 l_t34 => ?_)
            have e_t34 := C_t34.2.2.2.1
            have I_n_t34 := I_n_t0.chd X_t34 j_t34
            have pe_t34 : m_pe t34 = m_pe t0 := j_t34.2.2.2.2.2.2.2.2.2
            have f_n_t34 : Fz t34 n := j_t34.2.2.2.2.1
            have I_m_mdt0_t34 : Nq t34 (m_md t0) := Nq.chn j_t34 (by omega) I_n_t0 (by decide)
            have u_m_mdt0_t34 : Up t34 (m_md t0) := Or.inl j_t34.2.1
            refine Kp_push C_t34 (by omega) (fun t35 C_t35 X_t35 a_t35 b_t35 d_t35 w_t35 u_t35 v_t35 j_t35 l_t35 => ?_)
            have e_t35 := C_t35.2.2.2.1
            rw [a_t34] at a_t35
            rw [b_t34] at b_t35
            rw [d_t34] at d_t35
            rw [w_t34] at w_t35
            rw [u_t34] at u_t35
            rw [v_t34] at v_t35
            clear d_t34 w_t34 u_t34 v_t34 e_t34 a_t34 b_t34
            have I_n_t35 := I_n_t34.flat X_t35
            have f_n_t35 := f_n_t34.ex I_n_t34 (X_t35 0)
            have I_m_mdt0_t35 := I_m_mdt0_t34.flat X_t35
            have u_m_mdt0_t35 := u_m_mdt0_t34.ex I_m_mdt0_t34 (X_t35 0)
            have pe_t35 : m_pe t35 = m_pe t0 := j_t35.2.2.2.2.trans pe_t34
            refine Ok_ifz1 ?_
            refine Ok_bnc ?_
            try unfold b_X6_name
            refine Kp_look C_t35 hT (by omega) ?_
            refine Ok_ife (Nat.lt_trans (lo_lt (C_t35.tk hT) _) (by decide)) (by decide) (fun q37 => ?_) (fun q37 => ?_)
            · refine Kp_child C_t35 I_m_mdt0_t35.1 I_m_mdt0_t35.2.1 I_m_mdt0_t35.2.2.1 (by omega) (by omega) (by decide) (by decide) (fun t38 C_t38 X_t38 a_t38 b_t38 d_t38 w_t38 u_t38 v_t38 j_t38 l_t38 => ?_)
              have e_t38 := C_t38.2.2.2.1
              rw [a_t35] at a_t38
              rw [b_t35] at b_t38
              rw [d_t35] at d_t38
              rw [w_t35] at w_t38
              rw [u_t35] at u_t38
              rw [v_t35] at v_t38
              clear d_t35 w_t35 u_t35 v_t35 e_t35 a_t35
              have I_n_t38 := I_n_t35.chd X_t38 j_t38
              have f_n_t38 := f_n_t35.ex I_n_t35 (X_t38 0 (Nat.zero_le _))
              have I_m_mdt0_t38 := I_m_mdt0_t35.chd X_t38 j_t38
              have u_m_mdt0_t38 := u_m_mdt0_t35.ex I_m_mdt0_t35 (X_t38 0 (Nat.zero_le _))
              have pe_t38 : m_pe t38 = m_pe t0 := j_t38.2.2.2.2.2.2.2.2.2.trans pe_t35
              have f_m_mdt0_t38 : Fz t38 (m_md t0) := j_t38.2.2.2.2.1
              have I_m_mdt35_t38 : Nq t38 (m_md t35) := Nq.chn j_t38 (by omega) I_m_mdt0_t35 (by decide)
              have u_m_mdt35_t38 : Up t38 (m_md t35) := Or.inl j_t38.2.1
              have y9_t39 : m_at t38 = m_at t0 + 1 → lo t38 (m_at t38) = lo t0 (m_at t0 + 1) := fun h => lo_2 C_t38 C_t0 h
              have z_t39 : m_at t38 < m_ct t38 := lo_ne (Nat.ne_of_gt (show 0 < lo t38 (m_at t38) from by omega))
              refine Kp_at C_t38 (fun t39 C_t39 X_t39 a_t39 b_t39 d_t39 w_t39 u_t39 v_t39 j_t39 l_t39 => ?_)
              have e_t39 := C_t39.2.2.2.1
              rw [a_t38] at a_t39
              rw [b_t38] at b_t39
              rw [d_t38] at d_t39
              rw [w_t38] at w_t39
              rw [u_t38] at u_t39
              rw [v_t38] at v_t39
              rw [a_t38, e_t38] at z_t39
              clear d_t38 w_t38 u_t38 v_t38 e_t38 a_t38 b_t38
              have I_n_t39 := I_n_t38.flat X_t39
              have f_n_t39 := f_n_t38.ex I_n_t38 (X_t39 0)
              have I_m_mdt0_t39 := I_m_mdt0_t38.flat X_t39
              have f_m_mdt0_t39 := f_m_mdt0_t38.ex I_m_mdt0_t38 (X_t39 0)
              have u_m_mdt0_t39 := u_m_mdt0_t38.ex I_m_mdt0_t38 (X_t39 0)
              have I_m_mdt35_t39 := I_m_mdt35_t38.flat X_t39
              have u_m_mdt35_t39 := u_m_mdt35_t38.ex I_m_mdt35_t38 (X_t39 0)
              have pe_t39 : m_pe t39 = m_pe t0 := j_t39.2.2.2.2.trans pe_t38
              refine Ok_ret (show Ok _ _ _ from ?_)
              refine Ok_ck (show (m_rw t0) ≠ 0 from by omega) ?_
              refine Ok_ck (show ((m_rw t0) - 1) < 64 from by omega) ?_
              refine Ok_ck (show ((m_rw t0) - 1) < 64 from by omega) ?_
              refine Kp_pe C_t39 (show (m_pe t39 ((m_rw t0) - 1)) + 1 ≤ m_at t39 from by have := (C_t0.2.2.2.2.2.1 ((m_rw t0) - 1)).2.2.2 (by omega); rw [pe_t39]; omega) (fun t40 C_t40 X_t40 a_t40 b_t40 d_t40 w_t40 u_t40 v_t40 j_t40 l_t40 => ?_)
              have e_t40 := C_t40.2.2.2.1
              rw [a_t39] at a_t40
              rw [b_t39] at b_t40
              rw [d_t39] at d_t40
              rw [w_t39] at w_t40
              rw [u_t39] at u_t40
              rw [v_t39] at v_t40
              clear d_t39 w_t39 u_t39 v_t39 e_t39 a_t39 b_t39
              have I_n_t40 := I_n_t39.flat X_t40
              have f_n_t40 := f_n_t39.ex I_n_t39 (X_t40 0)
              have I_m_mdt0_t40 := I_m_mdt0_t39.flat X_t40
              have f_m_mdt0_t40 := f_m_mdt0_t39.ex I_m_mdt0_t39 (X_t40 0)
              have u_m_mdt0_t40 := u_m_mdt0_t39.ex I_m_mdt0_t39 (X_t40 0)
              have I_m_mdt35_t40 := I_m_mdt35_t39.flat X_t40
              have u_m_mdt35_t40 := u_m_mdt35_t39.ex I_m_mdt35_t39 (X_t40 0)
              refine Ok_ret (show Ok _ _ _ from ?_)
              refine Ok_ret (show Ok _ _ _ from ?_)
              refine Hv_mk (Kv_c (x := (25, n, 0)) rfl hK) (C_t40.1.2.2.2.2.2.2 hTt) C_t40 hT (by omega) (by omega) (by omega) ?_ ?_ ?_ (by omega) ?_ ?_ ?_
              · exact ⟨(Io_n (by decide) (by decide) I_n_t40.1 I_n_t40.2.1 I_n_t40.2.2.1 (fun q => absurd q (by decide)) (fun q => absurd q (by decide)) I_n_t40.2.2.2), (Nd_0 (by decide) Mo_nil), Stk_step (N := n) (pop := (24, n, t)) (new := [(25, n, 0)]) F0 C_t40.1.to2 (fun (h : nk 24 = false) => absurd h (by decide)) (fun q _ h => h (24, n, t) rfl) (fun _ => rfl) (fun y hy hk => ⟨rfl, (Mo_cons (fun q => show n ≤ n from by omega) Mo_nil) y hy hk⟩) (fun (h : 24 = 3 ∨ 24 = 18 ∨ 24 = 41) => absurd h (by decide)) (fun (h : 24 = 18) => absurd h (by decide)) (fun (h : 24 = 41 ∨ 24 = 42 ∨ 24 = 43) => absurd h (by decide)) r [] (fun y hy => absurd hy List.not_mem_nil) hS⟩
              · exact (Aj_sub (y := (25, n, 0)) hJ (Nat.le_of_ble_eq_true rfl))
              · show m_dp t40 = (dlt 25 + sD r)
                have : dlt 24 = 1 := rfl; have : dlt 25 = 1 := rfl; omega
              · show m_rw t40 = (rho 25 + sR r)
                have : rho 24 = 1 := rfl; have : rho 25 = 1 := rfl; omega
              · show m_md t40 + (mu7 25 + sM r) ≤ 3 * m_at t40 + 7 * (r.length + 1) + 10
                have : mu7 24 = 4 := rfl; have : mu7 25 = 4 := rfl; omega
              · show (wt 25 + sW r) + 6 * (4096 - m_at t40) + 4 * (600 - (r.length + 1)) < (wt 24 + sW r) + 6 * (4096 - m_at t0) + 4 * (600 - (r.length + 1))
                have : wt 24 = 0 := rfl; have : wt 25 = 1 := rfl; omega
            · refine Kp_error C_t35 (by omega) (fun t41 C_t41 X_t41 a_t41 b_t41 d_t41 w_t41 u_t41 v_t41 j_t41 l_t41 => ?_)
              have wb_t41 := w_t41.2
              have w_t41 := Nat.pos_of_ne_zero w_t41.1
              have e_t41 := C_t41.2.2.2.1
              have I_n_t41 := I_n_t35.flat X_t41
              have f_n_t41 := f_n_t35.ex I_n_t35 (X_t41 0)
              have I_m_mdt0_t41 := I_m_mdt0_t35.flat X_t41
              have u_m_mdt0_t41 := u_m_mdt0_t35.ex I_m_mdt0_t35 (X_t41 0)
              have pe_t41 : m_pe t41 = m_pe t0 := j_t41.2.2.2.2.trans pe_t35
              refine Kp_child C_t41 I_m_mdt0_t41.1 I_m_mdt0_t41.2.1 I_m_mdt0_t41.2.2.1 (by omega) (by omega) (by decide) (by decide) (fun t42 C_t42 X_t42 a_t42 b_t42 d_t42 w_t42 u_t42 v_t42 j_t42 l_t42 => ?_)
              have e_t42 := C_t42.2.2.2.1
              have I_n_t42 := I_n_t41.chd X_t42 j_t42
              have f_n_t42 := f_n_t41.ex I_n_t41 (X_t42 0 (Nat.zero_le _))
              have I_m_mdt0_t42 := I_m_mdt0_t41.chd X_t42 j_t42
              have u_m_mdt0_t42 := u_m_mdt0_t41.ex I_m_mdt0_t41 (X_t42 0 (Nat.zero_le _))
              have pe_t42 : m_pe t42 = m_pe t0 := j_t42.2.2.2.2.2.2.2.2.2.trans pe_t41
              have f_m_mdt0_t42 : Fz t42 (m_md t0) := j_t42.2.2.2.2.1
              have I_m_mdt41_t42 : Nq t42 (m_md t41) := Nq.chn j_t42 (by omega) I_m_mdt0_t41 (by decide)
              have u_m_mdt41_t42 : Up t42 (m_md t41) := Or.inl j_t42.2.1
              refine Kp_at C_t42 (fun t43 C_t43 X_t43 a_t43 b_t43 d_t43 w_t43 u_t43 v_t43 j_t43 l_t43 => ?_)
              have e_t43 := C_t43.2.2.2.1
              have I_n_t43 := I_n_t42.flat X_t43
              have f_n_t43 := f_n_t42.ex I_n_t42 (X_t43 0)
              have I_m_mdt0_t43 := I_m_mdt0_t42.flat X_t43
              have f_m_mdt0_t43 := f_m_mdt0_t42.ex I_m_mdt0_t42 (X_t43 0)
              have u_m_mdt0_t43 := u_m_mdt0_t42.ex I_m_mdt0_t42 (X_t43 0)
              have I_m_mdt41_t43 := I_m_mdt41_t42.flat X_t43
              have u_m_mdt41_t43 := u_m_mdt41_t42.ex I_m_mdt41_t42 (X_t43 0)
              have pe_t43 : m_pe t43 = m_pe t0 := j_t43.2.2.2.2.trans pe_t42
              refine Ok_ret (show Ok _ _ _ from ?_)
              refine Ok_ck (show (m_rw t0) ≠ 0 from by omega) ?_
              refine Ok_ck (show ((m_rw t0) - 1) < 64 from by omega) ?_
              refine Ok_ck (show ((m_rw t0) - 1) < 64 from by omega) ?_
              refine Kp_pe C_t43 (show (m_pe t43 ((m_rw t0) - 1)) + 1 ≤ m_at t43 from by have := (C_t0.2.2.2.2.2.1 ((m_rw t0) - 1)).2.2.2 (by omega); rw [pe_t43]; omega) (fun t44 C_t44 X_t44 a_t44 b_t44 d_t44 w_t44 u_t44 v_t44 j_t44 l_t44 => ?_)
              have e_t44 := C_t44.2.2.2.1
              have I_n_t44 := I_n_t43.flat X_t44
              have f_n_t44 := f_n_t43.ex I_n_t43 (X_t44 0)
              have I_m_mdt0_t44 := I_m_mdt0_t43.flat X_t44
              have f_m_mdt0_t44 := f_m_mdt0_t43.ex I_m_mdt0_t43 (X_t44 0)
              have u_m_mdt0_t44 := u_m_mdt0_t43.ex I_m_mdt0_t43 (X_t44 0)
              have I_m_mdt41_t44 := I_m_mdt41_t43.flat X_t44
              have u_m_mdt41_t44 := u_m_mdt41_t43.ex I_m_mdt41_t43 (X_t44 0)
              refine Ok_ret (show Ok _ _ _ from ?_)
              refine Ok_ret (show Ok _ _ _ from ?_)
              exact Or.inl ⟨Nat.ne_of_gt (show 0 < m_wr t44 from by omega), by omega, by omega, C_t44.2.2.2.2.2, by omega⟩
          · try unfold lp_X6_param_169
            refine Ok_ifz0 ?_
            try unfold lp_X6_param_193
            refine Kp_error C_t0 (by omega) (fun t45 C_t45 X_t45 a_t45 b_t45 d_t45 w_t45 u_t45 v_t45 j_t45 l_t45 => ?_)
            have wb_t45 := w_t45.2
            have w_t45 := Nat.pos_of_ne_zero w_t45.1
            have e_t45 := C_t45.2.2.2.1
            have I_n_t45 := I_n_t0.flat X_t45
            have pe_t45 : m_pe t45 = m_pe t0 := j_t45.2.2.2.2
            refine Ok_ret (show Ok _ _ _ from ?_)
            refine Ok_ret (show Ok _ _ _ from ?_)
            exact Or.inl ⟨Nat.ne_of_gt (show 0 < m_wr t45 from by omega), by omega, by omega, C_t45.2.2.2.2.2, by omega⟩
        · try unfold lp_X6_param_94
          try unfold lp_X6_param_97
          refine Ok_ife (Nat.lt_trans (lo_lt (C_t0.tk hT) _) (by decide)) (by decide) (fun q => ?_) (fun q => absurd q17 q)
          refine Ok_ifz0 ?_
          try unfold lp_X6_param_114
          refine Ok_ck (show (m_rw t0) ≠ 0 from by omega) ?_
          refine Ok_ck (show ((m_rw t0) - 1) < 64 from by omega) ?_
          refine Ok_ifz (Nat.lt_trans (C_t0.2.2.2.2.2.1 ((m_rw t0) - 1)).2.2.1 (by decide)) (fun q46 => ?_) (fun q46 => ?_)
          · refine Ok_ife (Nat.lt_trans (lo_lt (C_t0.tk hT) _) (by decide)) (by decide) (fun q => ?_) (fun q => absurd q17 q)
            try unfold lp_X6_param_137
            refine Ok_ife (Nat.lt_trans (lo_lt (C_t0.tk hT) _) (by decide)) (by decide) (fun q => ?_) (fun q => absurd q17 q)
            try unfold lp_X6_param_155
            refine Ok_ifz1 ?_
            refine Ok_ck (show (m_rw t0) ≠ 0 from by omega) ?_
            refine Ok_ck (show ((m_rw t0) - 1) < 64 from by omega) ?_
            refine Ok_ifz (Nat.lt_trans (C_t0.2.2.2.2.2.1 ((m_rw t0) - 1)).2.1 (by decide)) (fun q47 => ?_) (fun q47 => ?_)
            · try unfold lp_X6_param_169
              refine Ok_ifz1 ?_
              refine Ok_ck (show (m_rw t0) ≠ 0 from by omega) ?_
              refine Ok_ck (show ((m_rw t0) - 1) < 64 from by omega) ?_
              refine Ok_ifz (Nat.lt_trans (C_t0.2.2.2.2.2.1 ((m_rw t0) - 1)).2.2.1 (by decide)) (fun q => ?_) (fun q => absurd q46 q)
              have z_t48 : m_at t0 < m_ct t0 := lo_ne (Nat.ne_of_gt (show 0 < lo t0 (m_at t0) from by omega))
              refine Kp_at C_t0 (fun t48 C_t48 X_t48 a_t48 b_t48 d_t48 w_t48 u_t48 v_t48 j_t48 l_t48 => ?_)
              have e_t48 := C_t48.2.2.2.1
              have I_n_t48 := I_n_t0.flat X_t48
              have pe_t48 : m_pe t48 = m_pe t0 := j_t48.2.2.2.2
              try unfold lp_X6_param_193
              refine Kp_error C_t48 (by omega) (fun t49 C_t49 X_t49 a_t49 b_t49 d_t49 w_t49 u_t49 v_t49 j_t49 l_t49 => ?_)
              have wb_t49 := w_t49.2
              have w_t49 := Nat.pos_of_ne_zero w_t49.1
              have e_t49 := C_t49.2.2.2.1
              have I_n_t49 := I_n_t48.flat X_t49
              have pe_t49 : m_pe t49 = m_pe t0 := j_t49.2.2.2.2.trans pe_t48
              refine Ok_ret (show Ok _ _ _ from ?_)
              refine Ok_ret (show Ok _ _ _ from ?_)
              exact Or.inl ⟨Nat.ne_of_gt (show 0 < m_wr t49 from by omega), by omega, by omega, C_t49.2.2.2.2.2, by omega⟩
            · try unfold lp_X6_param_198
              refine Kp_child C_t0 I_n_t0.1 I_n_t0.2.1 I_n_t0.2.2.1 (by omega) (by omega) (by decide) (by decide) (fun t50 C_t50 X_t50 a_t50 b_t50 d_t50 w_t50 u_t50 v_t50 j_t50 l_t50 => ?_)
              have e_t50 := C_t50.2.2.2.1
              have I_n_t50 := I_n_t0.chd X_t50 j_t50
              have pe_t50 : m_pe t50 = m_pe t0 := j_t50.2.2.2.2.2.2.2.2.2
              have f_n_t50 : Fz t50 n := j_t50.2.2.2.2.1
              have I_m_mdt0_t50 : Nq t50 (m_md t0) := Nq.chn j_t50 (by omega) I_n_t0 (by decide)
              have u_m_mdt0_t50 : Up t50 (m_md t0) := Or.inl j_t50.2.1
              refine Kp_push C_t50 (by omega) (fun t51 C_t51 X_t51 a_t51 b_t51 d_t51 w_t51 u_t51 v_t51 j_t51 l_t51 => ?_)
              have e_t51 := C_t51.2.2.2.1
              rw [a_t50] at a_t51
              rw [b_t50] at b_t51
              rw [d_t50] at d_t51
              rw [w_t50] at w_t51
              rw [u_t50] at u_t51
              rw [v_t50] at v_t51
              clear d_t50 w_t50 u_t50 v_t50 e_t50 a_t50 b_t50
              have I_n_t51 := I_n_t50.flat X_t51
              have f_n_t51 := f_n_t50.ex I_n_t50 (X_t51 0)
              have I_m_mdt0_t51 := I_m_mdt0_t50.flat X_t51
              have u_m_mdt0_t51 := u_m_mdt0_t50.ex I_m_mdt0_t50 (X_t51 0)
              have pe_t51 : m_pe t51 = m_pe t0 := j_t51.2.2.2.2.trans pe_t50
              refine Ok_ifz0 ?_
              refine Ok_ifz1 ?_
              refine Ok_bnc ?_
              try unfold b_X6_name
              refine Kp_look C_t51 hT (by omega) ?_
              refine Ok_ife (Nat.lt_trans (lo_lt (C_t51.tk hT) _) (by decide)) (by decide) (fun q53 => ?_) (fun q53 => ?_)
              · refine Kp_child C_t51 I_m_mdt0_t51.1 I_m_mdt0_t51.2.1 I_m_mdt0_t51.2.2.1 (by omega) (by omega) (by decide) (by decide) (fun t54 C_t54 X_t54 a_t54 b_t54 d_t54 w_t54 u_t54 v_t54 j_t54 l_t54 => ?_)
                have e_t54 := C_t54.2.2.2.1
                rw [a_t51] at a_t54
                rw [b_t51] at b_t54
                rw [d_t51] at d_t54
                rw [w_t51] at w_t54
                rw [u_t51] at u_t54
                rw [v_t51] at v_t54
                clear d_t51 w_t51 u_t51 v_t51 e_t51 a_t51
                have I_n_t54 := I_n_t51.chd X_t54 j_t54
                have f_n_t54 := f_n_t51.ex I_n_t51 (X_t54 0 (Nat.zero_le _))
                have I_m_mdt0_t54 := I_m_mdt0_t51.chd X_t54 j_t54
                have u_m_mdt0_t54 := u_m_mdt0_t51.ex I_m_mdt0_t51 (X_t54 0 (Nat.zero_le _))
                have pe_t54 : m_pe t54 = m_pe t0 := j_t54.2.2.2.2.2.2.2.2.2.trans pe_t51
                have f_m_mdt0_t54 : Fz t54 (m_md t0) := j_t54.2.2.2.2.1
                have I_m_mdt51_t54 : Nq t54 (m_md t51) := Nq.chn j_t54 (by omega) I_m_mdt0_t51 (by decide)
                have u_m_mdt51_t54 : Up t54 (m_md t51) := Or.inl j_t54.2.1
                have z_t55 : m_at t54 < m_ct t54 := lo_ne (Nat.ne_of_gt (show 0 < lo t54 (m_at t54) from by omega))
                refine Kp_at C_t54 (fun t55 C_t55 X_t55 a_t55 b_t55 d_t55 w_t55 u_t55 v_t55 j_t55 l_t55 => ?_)
                have e_t55 := C_t55.2.2.2.1
                rw [a_t54] at a_t55
                rw [b_t54] at b_t55
                rw [d_t54] at d_t55
                rw [w_t54] at w_t55
                rw [u_t54] at u_t55
                rw [v_t54] at v_t55
                rw [a_t54, e_t54] at z_t55
                clear d_t54 w_t54 u_t54 v_t54 e_t54 a_t54 b_t54
                have I_n_t55 := I_n_t54.flat X_t55
                have f_n_t55 := f_n_t54.ex I_n_t54 (X_t55 0)
                have I_m_mdt0_t55 := I_m_mdt0_t54.flat X_t55
                have f_m_mdt0_t55 := f_m_mdt0_t54.ex I_m_mdt0_t54 (X_t55 0)
                have u_m_mdt0_t55 := u_m_mdt0_t54.ex I_m_mdt0_t54 (X_t55 0)
                have I_m_mdt51_t55 := I_m_mdt51_t54.flat X_t55
                have u_m_mdt51_t55 := u_m_mdt51_t54.ex I_m_mdt51_t54 (X_t55 0)
                have pe_t55 : m_pe t55 = m_pe t0 := j_t55.2.2.2.2.trans pe_t54
                refine Ok_ret (show Ok _ _ _ from ?_)
                refine Ok_ck (show (m_rw t0) ≠ 0 from by omega) ?_
                refine Ok_ck (show ((m_rw t0) - 1) < 64 from by omega) ?_
                refine Kp_pl C_t55 (by decide) (fun t56 C_t56 X_t56 a_t56 b_t56 d_t56 w_t56 u_t56 v_t56 j_t56 l_t56 => ?_)
                have e_t56 := C_t56.2.2.2.1
                rw [a_t55] at a_t56
                rw [b_t55] at b_t56
                rw [d_t55] at d_t56
                rw [w_t55] at w_t56
                rw [u_t55] at u_t56
                rw [v_t55] at v_t56
                clear d_t55 w_t55 u_t55 v_t55 e_t55 a_t55 b_t55
                have I_n_t56 := I_n_t55.flat X_t56
                have f_n_t56 := f_n_t55.ex I_n_t55 (X_t56 0)
                have I_m_mdt0_t56 := I_m_mdt0_t55.flat X_t56
                have f_m_mdt0_t56 := f_m_mdt0_t55.ex I_m_mdt0_t55 (X_t56 0)
                have u_m_mdt0_t56 := u_m_mdt0_t55.ex I_m_mdt0_t55 (X_t56 0)
                have I_m_mdt51_t56 := I_m_mdt51_t55.flat X_t56
                have u_m_mdt51_t56 := u_m_mdt51_t55.ex I_m_mdt51_t55 (X_t56 0)
                have pe_t56 : m_pe t56 = m_pe t0 := j_t56.2.2.2.2.trans pe_t55
                refine Kp_look C_t56 hT (by omega) ?_
                refine Ok_ife (Nat.lt_trans (lo_lt (C_t56.tk hT) _) (by decide)) (by decide) (fun q57 => ?_) (fun q57 => ?_)
                · refine Ok_ck (show (m_rw t0) ≠ 0 from by omega) ?_
                  refine Ok_ck (show ((m_rw t0) - 1) < 64 from by omega) ?_
                  refine Ok_ifz (show m_pe t56 ((m_rw t0) - 1) < 2147483648 from by have := (C_t56.2.2.2.2.2.1 ((m_rw t0) - 1)).2.2.2 (by omega); omega) (fun q58 => ?_) (fun q58 => ?_)
                  · try unfold lp_X6_param_283
                    refine Ok_ck (show (m_rw t0) ≠ 0 from by omega) ?_
                    refine Ok_ck (show ((m_rw t0) - 1) < 64 from by omega) ?_
                    refine Kp_pe C_t56 (Nat.zero_le _) (fun t59 C_t59 X_t59 a_t59 b_t59 d_t59 w_t59 u_t59 v_t59 j_t59 l_t59 => ?_)
                    have e_t59 := C_t59.2.2.2.1
                    rw [a_t56] at a_t59
                    rw [b_t56] at b_t59
                    rw [d_t56] at d_t59
                    rw [w_t56] at w_t59
                    rw [u_t56] at u_t59
                    rw [v_t56] at v_t59
                    clear d_t56 w_t56 u_t56 v_t56 e_t56 a_t56 b_t56
                    have I_n_t59 := I_n_t56.flat X_t59
                    have f_n_t59 := f_n_t56.ex I_n_t56 (X_t59 0)
                    have I_m_mdt0_t59 := I_m_mdt0_t56.flat X_t59
                    have f_m_mdt0_t59 := f_m_mdt0_t56.ex I_m_mdt0_t56 (X_t59 0)
                    have u_m_mdt0_t59 := u_m_mdt0_t56.ex I_m_mdt0_t56 (X_t59 0)
                    have I_m_mdt51_t59 := I_m_mdt51_t56.flat X_t59
                    have u_m_mdt51_t59 := u_m_mdt51_t56.ex I_m_mdt51_t56 (X_t59 0)
                    try unfold lp_X6_param_300
                    refine Kp_look C_t59 hT (by omega) ?_
                    refine Ok_ife (Nat.lt_trans (lo_lt (C_t59.tk hT) _) (by decide)) (by decide) (fun q60 => ?_) (fun q60 => ?_)
                    · refine Kp_child C_t59 I_m_mdt0_t59.1 I_m_mdt0_t59.2.1 I_m_mdt0_t59.2.2.1 (by omega) (by omega) (by decide) (by decide) (fun t61 C_t61 X_t61 a_t61 b_t61 d_t61 w_t61 u_t61 v_t61 j_t61 l_t61 => ?_)
                      have e_t61 := C_t61.2.2.2.1
                      rw [a_t59] at a_t61
                      rw [b_t59] at b_t61
                      rw [d_t59] at d_t61
                      rw [w_t59] at w_t61
                      rw [u_t59] at u_t61
                      rw [v_t59] at v_t61
                      clear d_t59 w_t59 u_t59 v_t59 e_t59 a_t59
                      have I_n_t61 := I_n_t59.chd X_t61 j_t61
                      have f_n_t61 := f_n_t59.ex I_n_t59 (X_t61 0 (Nat.zero_le _))
                      have I_m_mdt0_t61 := I_m_mdt0_t59.chd X_t61 j_t61
                      have f_m_mdt0_t61 := f_m_mdt0_t59.ex I_m_mdt0_t59 (X_t61 0 (Nat.zero_le _))
                      have u_m_mdt0_t61 := u_m_mdt0_t59.ex I_m_mdt0_t59 (X_t61 0 (Nat.zero_le _))
                      have I_m_mdt51_t61 := I_m_mdt51_t59.chd X_t61 j_t61
                      have u_m_mdt51_t61 := u_m_mdt51_t59.ex I_m_mdt51_t59 (X_t61 0 (Nat.zero_le _))
                      have f_m_mdt0_t61 : Fz t61 (m_md t0) := j_t61.2.2.2.2.1
                      have I_m_mdt59_t61 : Nq t61 (m_md t59) := Nq.chn j_t61 (by omega) I_m_mdt0_t59 (by decide)
                      have u_m_mdt59_t61 : Up t61 (m_md t59) := Or.inl j_t61.2.1
                      have z_t62 : m_at t61 < m_ct t61 := lo_ne (Nat.ne_of_gt (show 0 < lo t61 (m_at t61) from by omega))
                      refine Kp_at C_t61 (fun t62 C_t62 X_t62 a_t62 b_t62 d_t62 w_t62 u_t62 v_t62 j_t62 l_t62 => ?_)
                      have e_t62 := C_t62.2.2.2.1
                      rw [a_t61] at a_t62
                      rw [b_t61] at b_t62
                      rw [d_t61] at d_t62
                      rw [w_t61] at w_t62
                      rw [u_t61] at u_t62
                      rw [v_t61] at v_t62
                      rw [a_t61, e_t61] at z_t62
                      clear z_t55
                      clear d_t61 w_t61 u_t61 v_t61 e_t61 a_t61 b_t61
                      have I_n_t62 := I_n_t61.flat X_t62
                      have f_n_t62 := f_n_t61.ex I_n_t61 (X_t62 0)
                      have I_m_mdt0_t62 := I_m_mdt0_t61.flat X_t62
                      have f_m_mdt0_t62 := f_m_mdt0_t61.ex I_m_mdt0_t61 (X_t62 0)
                      have u_m_mdt0_t62 := u_m_mdt0_t61.ex I_m_mdt0_t61 (X_t62 0)
                      have I_m_mdt51_t62 := I_m_mdt51_t61.flat X_t62
                      have u_m_mdt51_t62 := u_m_mdt51_t61.ex I_m_mdt51_t61 (X_t62 0)
                      have I_m_mdt59_t62 := I_m_mdt59_t61.flat X_t62
                      have u_m_mdt59_t62 := u_m_mdt59_t61.ex I_m_mdt59_t61 (X_t62 0)
                      refine Ok_ck (show (m_rw t0) ≠ 0 from by omega) ?_
                      refine Ok_ck (show ((m_rw t0) - 1) < 64 from by omega) ?_
                      refine Kp_en C_t62 (by decide) (fun t63 C_t63 X_t63 a_t63 b_t63 d_t63 w_t63 u_t63 v_t63 j_t63 l_t63 => ?_)
                      have e_t63 := C_t63.2.2.2.1
                      rw [a_t62] at a_t63
                      rw [b_t62] at b_t63
                      rw [d_t62] at d_t63
                      rw [w_t62] at w_t63
                      rw [u_t62] at u_t63
                      rw [v_t62] at v_t63
                      clear d_t62 w_t62 u_t62 v_t62 e_t62 a_t62 b_t62
                      have I_n_t63 := I_n_t62.flat X_t63
                      have f_n_t63 := f_n_t62.ex I_n_t62 (X_t63 0)
                      have I_m_mdt0_t63 := I_m_mdt0_t62.flat X_t63
                      have f_m_mdt0_t63 := f_m_mdt0_t62.ex I_m_mdt0_t62 (X_t63 0)
                      have u_m_mdt0_t63 := u_m_mdt0_t62.ex I_m_mdt0_t62 (X_t63 0)
                      have I_m_mdt51_t63 := I_m_mdt51_t62.flat X_t63
                      have u_m_mdt51_t63 := u_m_mdt51_t62.ex I_m_mdt51_t62 (X_t63 0)
                      have I_m_mdt59_t63 := I_m_mdt59_t62.flat X_t63
                      have u_m_mdt59_t63 := u_m_mdt59_t62.ex I_m_mdt59_t62 (X_t63 0)
                      try unfold lp_X6_param_339
                      refine Kp_push C_t63 (by omega) (fun t64 C_t64 X_t64 a_t64 b_t64 d_t64 w_t64 u_t64 v_t64 j_t64 l_t64 => ?_)
                      have e_t64 := C_t64.2.2.2.1
                      rw [a_t63] at a_t64
                      rw [b_t63] at b_t64
                      rw [d_t63] at d_t64
                      rw [w_t63] at w_t64
                      rw [u_t63] at u_t64
                      rw [v_t63] at v_t64
                      clear d_t63 w_t63 u_t63 v_t63 e_t63 a_t63 b_t63
                      have I_n_t64 := I_n_t63.flat X_t64
                      have f_n_t64 := f_n_t63.ex I_n_t63 (X_t64 0)
                      have I_m_mdt0_t64 := I_m_mdt0_t63.flat X_t64
                      have f_m_mdt0_t64 := f_m_mdt0_t63.ex I_m_mdt0_t63 (X_t64 0)
                      have u_m_mdt0_t64 := u_m_mdt0_t63.ex I_m_mdt0_t63 (X_t64 0)
                      have I_m_mdt51_t64 := I_m_mdt51_t63.flat X_t64
                      have u_m_mdt51_t64 := u_m_mdt51_t63.ex I_m_mdt51_t63 (X_t64 0)
                      have I_m_mdt59_t64 := I_m_mdt59_t63.flat X_t64
                      have u_m_mdt59_t64 := u_m_mdt59_t63.ex I_m_mdt59_t63 (X_t64 0)
                      refine Ok_ret (show Ok _ _ _ from ?_)
                      refine Ok_ret (show Ok _ _ _ from ?_)
                      refine Hv_mk (Kv_c (x := (18, m_md t0, 0)) rfl (Kv_c (x := (25, n, 0)) rfl hK)) (C_t64.1.2.2.2.2.2.2 hTt) C_t64 hT (by omega) (by omega) (by omega) ?_ ?_ ?_ (by omega) ?_ ?_ ?_
                      · exact ⟨(Io_n (by decide) (by decide) I_m_mdt0_t64.1 I_m_mdt0_t64.2.1 I_m_mdt0_t64.2.2.1 (fun q => absurd q (by decide)) (fun q => absurd q (by decide)) I_m_mdt0_t64.2.2.2), (Nd_0 (by decide) Mo_nil), ⟨(Io_n (by decide) (by decide) I_n_t64.1 I_n_t64.2.1 I_n_t64.2.2.1 (fun q => absurd q (by decide)) (fun q => absurd q (by decide)) I_n_t64.2.2.2), (Nd_0 (by decide) (Mo_cons (fun q => show n ≤ m_md t0 from by omega) Mo_nil)), Stk_step (N := n) (pop := (24, n, t)) (new := [(25, n, 0), (18, m_md t0, 0)]) F0 C_t64.1.to2 (fun (h : nk 24 = false) => absurd h (by decide)) (fun q _ h => h (24, n, t) rfl) (fun _ => rfl) (fun y hy hk => ⟨rfl, (Mo_cons (fun q => show n ≤ n from by omega) (Mo_cons (fun q => show n ≤ m_md t0 from by omega) Mo_nil)) y hy hk⟩) (fun (h : 24 = 3 ∨ 24 = 18 ∨ 24 = 41) => absurd h (by decide)) (fun (h : 24 = 18) => absurd h (by decide)) (fun (h : 24 = 41 ∨ 24 = 42 ∨ 24 = 43) => absurd h (by decide)) r [] (fun y hy => absurd hy List.not_mem_nil) hS⟩⟩
                      · exact (Aj_up (x := (18, m_md t0, 0)) (Aj_sub (y := (25, n, 0)) hJ (Nat.le_of_ble_eq_true rfl)) (Or.inl (Nat.le_of_ble_eq_true rfl)))
                      · show m_dp t64 = (dlt 18 + (dlt 25 + sD r))
                        have : dlt 18 = 0 := rfl; have : dlt 24 = 1 := rfl; have : dlt 25 = 1 := rfl; omega
                      · show m_rw t64 = (rho 18 + (rho 25 + sR r))
                        have : rho 18 = 0 := rfl; have : rho 24 = 1 := rfl; have : rho 25 = 1 := rfl; omega
                      · show m_md t64 + (mu7 18 + (mu7 25 + sM r)) ≤ 3 * m_at t64 + 7 * (r.length + 1 + 1) + 10
                        have : mu7 18 = 5 := rfl; have : mu7 24 = 4 := rfl; have : mu7 25 = 4 := rfl; omega
                      · show (wt 18 + (wt 25 + sW r)) + 6 * (4096 - m_at t64) + 4 * (600 - (r.length + 1 + 1)) < (wt 24 + sW r) + 6 * (4096 - m_at t0) + 4 * (600 - (r.length + 1))
                        have : wt 18 = 0 := rfl; have : wt 24 = 0 := rfl; have : wt 25 = 1 := rfl; omega
                    · try unfold lp_X6_param_339
                      refine Kp_push C_t59 (by omega) (fun t65 C_t65 X_t65 a_t65 b_t65 d_t65 w_t65 u_t65 v_t65 j_t65 l_t65 => ?_)
                      have e_t65 := C_t65.2.2.2.1
                      rw [a_t59] at a_t65
                      rw [b_t59] at b_t65
                      rw [d_t59] at d_t65
                      rw [w_t59] at w_t65
                      rw [u_t59] at u_t65
                      rw [v_t59] at v_t65
                      clear d_t59 w_t59 u_t59 v_t59 e_t59 a_t59 b_t59
                      have I_n_t65 := I_n_t59.flat X_t65
                      have f_n_t65 := f_n_t59.ex I_n_t59 (X_t65 0)
                      have I_m_mdt0_t65 := I_m_mdt0_t59.flat X_t65
                      have f_m_mdt0_t65 := f_m_mdt0_t59.ex I_m_mdt0_t59 (X_t65 0)
                      have u_m_mdt0_t65 := u_m_mdt0_t59.ex I_m_mdt0_t59 (X_t65 0)
                      have I_m_mdt51_t65 := I_m_mdt51_t59.flat X_t65
                      have u_m_mdt51_t65 := u_m_mdt51_t59.ex I_m_mdt51_t59 (X_t65 0)
                      refine Ok_ret (show Ok _ _ _ from ?_)
                      refine Ok_ret (show Ok _ _ _ from ?_)
                      refine Hv_mk (Kv_c (x := (18, m_md t0, 0)) rfl (Kv_c (x := (25, n, 0)) rfl hK)) (C_t65.1.2.2.2.2.2.2 hTt) C_t65 hT (by omega) (by omega) (by omega) ?_ ?_ ?_ (by omega) ?_ ?_ ?_
                      · exact ⟨(Io_n (by decide) (by decide) I_m_mdt0_t65.1 I_m_mdt0_t65.2.1 I_m_mdt0_t65.2.2.1 (fun q => absurd q (by decide)) (fun q => absurd q (by decide)) I_m_mdt0_t65.2.2.2), (Nd_0 (by decide) Mo_nil), ⟨(Io_n (by decide) (by decide) I_n_t65.1 I_n_t65.2.1 I_n_t65.2.2.1 (fun q => absurd q (by decide)) (fun q => absurd q (by decide)) I_n_t65.2.2.2), (Nd_0 (by decide) (Mo_cons (fun q => show n ≤ m_md t0 from by omega) Mo_nil)), Stk_step (N := n) (pop := (24, n, t)) (new := [(25, n, 0), (18, m_md t0, 0)]) F0 C_t65.1.to2 (fun (h : nk 24 = false) => absurd h (by decide)) (fun q _ h => h (24, n, t) rfl) (fun _ => rfl) (fun y hy hk => ⟨rfl, (Mo_cons (fun q => show n ≤ n from by omega) (Mo_cons (fun q => show n ≤ m_md t0 from by omega) Mo_nil)) y hy hk⟩) (fun (h : 24 = 3 ∨ 24 = 18 ∨ 24 = 41) => absurd h (by decide)) (fun (h : 24 = 18) => absurd h (by decide)) (fun (h : 24 = 41 ∨ 24 = 42 ∨ 24 = 43) => absurd h (by decide)) r [] (fun y hy => absurd hy List.not_mem_nil) hS⟩⟩
                      · exact (Aj_up (x := (18, m_md t0, 0)) (Aj_sub (y := (25, n, 0)) hJ (Nat.le_of_ble_eq_true rfl)) (Or.inl (Nat.le_of_ble_eq_true rfl)))
                      · show m_dp t65 = (dlt 18 + (dlt 25 + sD r))
                        have : dlt 18 = 0 := rfl; have : dlt 24 = 1 := rfl; have : dlt 25 = 1 := rfl; omega
                      · show m_rw t65 = (rho 18 + (rho 25 + sR r))
                        have : rho 18 = 0 := rfl; have : rho 24 = 1 := rfl; have : rho 25 = 1 := rfl; omega
                      · show m_md t65 + (mu7 18 + (mu7 25 + sM r)) ≤ 3 * m_at t65 + 7 * (r.length + 1 + 1) + 10
                        have : mu7 18 = 5 := rfl; have : mu7 24 = 4 := rfl; have : mu7 25 = 4 := rfl; omega
                      · show (wt 18 + (wt 25 + sW r)) + 6 * (4096 - m_at t65) + 4 * (600 - (r.length + 1 + 1)) < (wt 24 + sW r) + 6 * (4096 - m_at t0) + 4 * (600 - (r.length + 1))
                        have : wt 18 = 0 := rfl; have : wt 24 = 0 := rfl; have : wt 25 = 1 := rfl; omega
                  · refine Kp_error C_t56 (by omega) (fun t66 C_t66 X_t66 a_t66 b_t66 d_t66 w_t66 u_t66 v_t66 j_t66 l_t66 => ?_)
                    have wb_t66 := w_t66.2
                    have w_t66 := Nat.pos_of_ne_zero w_t66.1
                    have e_t66 := C_t66.2.2.2.1
                    have I_n_t66 := I_n_t56.flat X_t66
                    have f_n_t66 := f_n_t56.ex I_n_t56 (X_t66 0)
                    have I_m_mdt0_t66 := I_m_mdt0_t56.flat X_t66
                    have f_m_mdt0_t66 := f_m_mdt0_t56.ex I_m_mdt0_t56 (X_t66 0)
                    have u_m_mdt0_t66 := u_m_mdt0_t56.ex I_m_mdt0_t56 (X_t66 0)
                    have I_m_mdt51_t66 := I_m_mdt51_t56.flat X_t66
                    have u_m_mdt51_t66 := u_m_mdt51_t56.ex I_m_mdt51_t56 (X_t66 0)
                    have pe_t66 : m_pe t66 = m_pe t0 := j_t66.2.2.2.2.trans pe_t56
                    try unfold lp_X6_param_283
                    refine Ok_ck (show (m_rw t0) ≠ 0 from by omega) ?_
                    refine Ok_ck (show ((m_rw t0) - 1) < 64 from by omega) ?_
                    refine Kp_pe C_t66 (Nat.zero_le _) (fun t67 C_t67 X_t67 a_t67 b_t67 d_t67 w_t67 u_t67 v_t67 j_t67 l_t67 => ?_)
                    have e_t67 := C_t67.2.2.2.1
                    have I_n_t67 := I_n_t66.flat X_t67
                    have f_n_t67 := f_n_t66.ex I_n_t66 (X_t67 0)
                    have I_m_mdt0_t67 := I_m_mdt0_t66.flat X_t67
                    have f_m_mdt0_t67 := f_m_mdt0_t66.ex I_m_mdt0_t66 (X_t67 0)
                    have u_m_mdt0_t67 := u_m_mdt0_t66.ex I_m_mdt0_t66 (X_t67 0)
                    have I_m_mdt51_t67 := I_m_mdt51_t66.flat X_t67
                    have u_m_mdt51_t67 := u_m_mdt51_t66.ex I_m_mdt51_t66 (X_t67 0)
                    try unfold lp_X6_param_300
                    refine Kp_look C_t67 hT (by omega) ?_
                    refine Ok_ife (Nat.lt_trans (lo_lt (C_t67.tk hT) _) (by decide)) (by decide) (fun q68 => ?_) (fun q68 => ?_)
                    · refine Kp_child C_t67 I_m_mdt0_t67.1 I_m_mdt0_t67.2.1 I_m_mdt0_t67.2.2.1 (by omega) (by omega) (by decide) (by decide) (fun t69 C_t69 X_t69 a_t69 b_t69 d_t69 w_t69 u_t69 v_t69 j_t69 l_t69 => ?_)
                      have e_t69 := C_t69.2.2.2.1
                      have I_n_t69 := I_n_t67.chd X_t69 j_t69
                      have f_n_t69 := f_n_t67.ex I_n_t67 (X_t69 0 (Nat.zero_le _))
                      have I_m_mdt0_t69 := I_m_mdt0_t67.chd X_t69 j_t69
                      have f_m_mdt0_t69 := f_m_mdt0_t67.ex I_m_mdt0_t67 (X_t69 0 (Nat.zero_le _))
                      have u_m_mdt0_t69 := u_m_mdt0_t67.ex I_m_mdt0_t67 (X_t69 0 (Nat.zero_le _))
                      have I_m_mdt51_t69 := I_m_mdt51_t67.chd X_t69 j_t69
                      have u_m_mdt51_t69 := u_m_mdt51_t67.ex I_m_mdt51_t67 (X_t69 0 (Nat.zero_le _))
                      have f_m_mdt0_t69 : Fz t69 (m_md t0) := j_t69.2.2.2.2.1
                      have I_m_mdt67_t69 : Nq t69 (m_md t67) := Nq.chn j_t69 (by omega) I_m_mdt0_t67 (by decide)
                      have u_m_mdt67_t69 : Up t69 (m_md t67) := Or.inl j_t69.2.1
                      refine Kp_at C_t69 (fun t70 C_t70 X_t70 a_t70 b_t70 d_t70 w_t70 u_t70 v_t70 j_t70 l_t70 => ?_)
                      have e_t70 := C_t70.2.2.2.1
                      have I_n_t70 := I_n_t69.flat X_t70
                      have f_n_t70 := f_n_t69.ex I_n_t69 (X_t70 0)
                      have I_m_mdt0_t70 := I_m_mdt0_t69.flat X_t70
                      have f_m_mdt0_t70 := f_m_mdt0_t69.ex I_m_mdt0_t69 (X_t70 0)
                      have u_m_mdt0_t70 := u_m_mdt0_t69.ex I_m_mdt0_t69 (X_t70 0)
                      have I_m_mdt51_t70 := I_m_mdt51_t69.flat X_t70
                      have u_m_mdt51_t70 := u_m_mdt51_t69.ex I_m_mdt51_t69 (X_t70 0)
                      have I_m_mdt67_t70 := I_m_mdt67_t69.flat X_t70
                      have u_m_mdt67_t70 := u_m_mdt67_t69.ex I_m_mdt67_t69 (X_t70 0)
                      refine Ok_ck (show (m_rw t0) ≠ 0 from by omega) ?_
                      refine Ok_ck (show ((m_rw t0) - 1) < 64 from by omega) ?_
                      refine Kp_en C_t70 (by decide) (fun t71 C_t71 X_t71 a_t71 b_t71 d_t71 w_t71 u_t71 v_t71 j_t71 l_t71 => ?_)
                      have e_t71 := C_t71.2.2.2.1
                      have I_n_t71 := I_n_t70.flat X_t71
                      have f_n_t71 := f_n_t70.ex I_n_t70 (X_t71 0)
                      have I_m_mdt0_t71 := I_m_mdt0_t70.flat X_t71
                      have f_m_mdt0_t71 := f_m_mdt0_t70.ex I_m_mdt0_t70 (X_t71 0)
                      have u_m_mdt0_t71 := u_m_mdt0_t70.ex I_m_mdt0_t70 (X_t71 0)
                      have I_m_mdt51_t71 := I_m_mdt51_t70.flat X_t71
                      have u_m_mdt51_t71 := u_m_mdt51_t70.ex I_m_mdt51_t70 (X_t71 0)
                      have I_m_mdt67_t71 := I_m_mdt67_t70.flat X_t71
                      have u_m_mdt67_t71 := u_m_mdt67_t70.ex I_m_mdt67_t70 (X_t71 0)
                      try unfold lp_X6_param_339
                      refine Kp_push C_t71 (by omega) (fun t72 C_t72 X_t72 a_t72 b_t72 d_t72 w_t72 u_t72 v_t72 j_t72 l_t72 => ?_)
                      have e_t72 := C_t72.2.2.2.1
                      have I_n_t72 := I_n_t71.flat X_t72
                      have f_n_t72 := f_n_t71.ex I_n_t71 (X_t72 0)
                      have I_m_mdt0_t72 := I_m_mdt0_t71.flat X_t72
                      have f_m_mdt0_t72 := f_m_mdt0_t71.ex I_m_mdt0_t71 (X_t72 0)
                      have u_m_mdt0_t72 := u_m_mdt0_t71.ex I_m_mdt0_t71 (X_t72 0)
                      have I_m_mdt51_t72 := I_m_mdt51_t71.flat X_t72
                      have u_m_mdt51_t72 := u_m_mdt51_t71.ex I_m_mdt51_t71 (X_t72 0)
                      have I_m_mdt67_t72 := I_m_mdt67_t71.flat X_t72
                      have u_m_mdt67_t72 := u_m_mdt67_t71.ex I_m_mdt67_t71 (X_t72 0)
                      refine Ok_ret (show Ok _ _ _ from ?_)
                      refine Ok_ret (show Ok _ _ _ from ?_)
                      exact Or.inl ⟨Nat.ne_of_gt (show 0 < m_wr t72 from by omega), by omega, by omega, C_t72.2.2.2.2.2, by omega⟩
                    · try unfold lp_X6_param_339
                      refine Kp_push C_t67 (by omega) (fun t73 C_t73 X_t73 a_t73 b_t73 d_t73 w_t73 u_t73 v_t73 j_t73 l_t73 => ?_)
                      have e_t73 := C_t73.2.2.2.1
                      have I_n_t73 := I_n_t67.flat X_t73
                      have f_n_t73 := f_n_t67.ex I_n_t67 (X_t73 0)
                      have I_m_mdt0_t73 := I_m_mdt0_t67.flat X_t73
                      have f_m_mdt0_t73 := f_m_mdt0_t67.ex I_m_mdt0_t67 (X_t73 0)
                      have u_m_mdt0_t73 := u_m_mdt0_t67.ex I_m_mdt0_t67 (X_t73 0)
                      have I_m_mdt51_t73 := I_m_mdt51_t67.flat X_t73
                      have u_m_mdt51_t73 := u_m_mdt51_t67.ex I_m_mdt51_t67 (X_t73 0)
                      refine Ok_ret (show Ok _ _ _ from ?_)
                      refine Ok_ret (show Ok _ _ _ from ?_)
                      exact Or.inl ⟨Nat.ne_of_gt (show 0 < m_wr t73 from by omega), by omega, by omega, C_t73.2.2.2.2.2, by omega⟩
                · try unfold lp_X6_param_283
                  refine Ok_ck (show (m_rw t0) ≠ 0 from by omega) ?_
                  refine Ok_ck (show ((m_rw t0) - 1) < 64 from by omega) ?_
                  refine Kp_pe C_t56 (Nat.zero_le _) (fun t74 C_t74 X_t74 a_t74 b_t74 d_t74 w_t74 u_t74 v_t74 j_t74 l_t74 => ?_)
                  have e_t74 := C_t74.2.2.2.1
                  rw [a_t56] at a_t74
                  rw [b_t56] at b_t74
                  rw [d_t56] at d_t74
                  rw [w_t56] at w_t74
                  rw [u_t56] at u_t74
                  rw [v_t56] at v_t74
                  clear d_t56 w_t56 u_t56 v_t56 e_t56 a_t56 b_t56
                  have I_n_t74 := I_n_t56.flat X_t74
                  have f_n_t74 := f_n_t56.ex I_n_t56 (X_t74 0)
                  have I_m_mdt0_t74 := I_m_mdt0_t56.flat X_t74
                  have f_m_mdt0_t74 := f_m_mdt0_t56.ex I_m_mdt0_t56 (X_t74 0)
                  have u_m_mdt0_t74 := u_m_mdt0_t56.ex I_m_mdt0_t56 (X_t74 0)
                  have I_m_mdt51_t74 := I_m_mdt51_t56.flat X_t74
                  have u_m_mdt51_t74 := u_m_mdt51_t56.ex I_m_mdt51_t56 (X_t74 0)
                  try unfold lp_X6_param_300
                  refine Kp_look C_t74 hT (by omega) ?_
                  refine Ok_ife (Nat.lt_trans (lo_lt (C_t74.tk hT) _) (by decide)) (by decide) (fun q75 => ?_) (fun q75 => ?_)
                  · refine Kp_child C_t74 I_m_mdt0_t74.1 I_m_mdt0_t74.2.1 I_m_mdt0_t74.2.2.1 (by omega) (by omega) (by decide) (by decide) (fun t76 C_t76 X_t76 a_t76 b_t76 d_t76 w_t76 u_t76 v_t76 j_t76 l_t76 => ?_)
                    have e_t76 := C_t76.2.2.2.1
                    rw [a_t74] at a_t76
                    rw [b_t74] at b_t76
                    rw [d_t74] at d_t76
                    rw [w_t74] at w_t76
                    rw [u_t74] at u_t76
                    rw [v_t74] at v_t76
                    clear d_t74 w_t74 u_t74 v_t74 e_t74 a_t74
                    have I_n_t76 := I_n_t74.chd X_t76 j_t76
                    have f_n_t76 := f_n_t74.ex I_n_t74 (X_t76 0 (Nat.zero_le _))
                    have I_m_mdt0_t76 := I_m_mdt0_t74.chd X_t76 j_t76
                    have f_m_mdt0_t76 := f_m_mdt0_t74.ex I_m_mdt0_t74 (X_t76 0 (Nat.zero_le _))
                    have u_m_mdt0_t76 := u_m_mdt0_t74.ex I_m_mdt0_t74 (X_t76 0 (Nat.zero_le _))
                    have I_m_mdt51_t76 := I_m_mdt51_t74.chd X_t76 j_t76
                    have u_m_mdt51_t76 := u_m_mdt51_t74.ex I_m_mdt51_t74 (X_t76 0 (Nat.zero_le _))
                    have f_m_mdt0_t76 : Fz t76 (m_md t0) := j_t76.2.2.2.2.1
                    have I_m_mdt74_t76 : Nq t76 (m_md t74) := Nq.chn j_t76 (by omega) I_m_mdt0_t74 (by decide)
                    have u_m_mdt74_t76 : Up t76 (m_md t74) := Or.inl j_t76.2.1
                    have z_t77 : m_at t76 < m_ct t76 := lo_ne (Nat.ne_of_gt (show 0 < lo t76 (m_at t76) from by omega))
                    refine Kp_at C_t76 (fun t77 C_t77 X_t77 a_t77 b_t77 d_t77 w_t77 u_t77 v_t77 j_t77 l_t77 => ?_)
                    have e_t77 := C_t77.2.2.2.1
                    rw [a_t76] at a_t77
                    rw [b_t76] at b_t77
                    rw [d_t76] at d_t77
                    rw [w_t76] at w_t77
                    rw [u_t76] at u_t77
                    rw [v_t76] at v_t77
                    rw [a_t76, e_t76] at z_t77
                    clear z_t55
                    clear d_t76 w_t76 u_t76 v_t76 e_t76 a_t76 b_t76
                    have I_n_t77 := I_n_t76.flat X_t77
                    have f_n_t77 := f_n_t76.ex I_n_t76 (X_t77 0)
                    have I_m_mdt0_t77 := I_m_mdt0_t76.flat X_t77
                    have f_m_mdt0_t77 := f_m_mdt0_t76.ex I_m_mdt0_t76 (X_t77 0)
                    have u_m_mdt0_t77 := u_m_mdt0_t76.ex I_m_mdt0_t76 (X_t77 0)
                    have I_m_mdt51_t77 := I_m_mdt51_t76.flat X_t77
                    have u_m_mdt51_t77 := u_m_mdt51_t76.ex I_m_mdt51_t76 (X_t77 0)
                    have I_m_mdt74_t77 := I_m_mdt74_t76.flat X_t77
                    have u_m_mdt74_t77 := u_m_mdt74_t76.ex I_m_mdt74_t76 (X_t77 0)
                    refine Ok_ck (show (m_rw t0) ≠ 0 from by omega) ?_
                    refine Ok_ck (show ((m_rw t0) - 1) < 64 from by omega) ?_
                    refine Kp_en C_t77 (by decide) (fun t78 C_t78 X_t78 a_t78 b_t78 d_t78 w_t78 u_t78 v_t78 j_t78 l_t78 => ?_)
                    have e_t78 := C_t78.2.2.2.1
                    rw [a_t77] at a_t78
                    rw [b_t77] at b_t78
                    rw [d_t77] at d_t78
                    rw [w_t77] at w_t78
                    rw [u_t77] at u_t78
                    rw [v_t77] at v_t78
                    clear d_t77 w_t77 u_t77 v_t77 e_t77 a_t77 b_t77
                    have I_n_t78 := I_n_t77.flat X_t78
                    have f_n_t78 := f_n_t77.ex I_n_t77 (X_t78 0)
                    have I_m_mdt0_t78 := I_m_mdt0_t77.flat X_t78
                    have f_m_mdt0_t78 := f_m_mdt0_t77.ex I_m_mdt0_t77 (X_t78 0)
                    have u_m_mdt0_t78 := u_m_mdt0_t77.ex I_m_mdt0_t77 (X_t78 0)
                    have I_m_mdt51_t78 := I_m_mdt51_t77.flat X_t78
                    have u_m_mdt51_t78 := u_m_mdt51_t77.ex I_m_mdt51_t77 (X_t78 0)
                    have I_m_mdt74_t78 := I_m_mdt74_t77.flat X_t78
                    have u_m_mdt74_t78 := u_m_mdt74_t77.ex I_m_mdt74_t77 (X_t78 0)
                    try unfold lp_X6_param_339
                    refine Kp_push C_t78 (by omega) (fun t79 C_t79 X_t79 a_t79 b_t79 d_t79 w_t79 u_t79 v_t79 j_t79 l_t79 => ?_)
                    have e_t79 := C_t79.2.2.2.1
                    rw [a_t78] at a_t79
                    rw [b_t78] at b_t79
                    rw [d_t78] at d_t79
                    rw [w_t78] at w_t79
                    rw [u_t78] at u_t79
                    rw [v_t78] at v_t79
                    clear d_t78 w_t78 u_t78 v_t78 e_t78 a_t78 b_t78
                    have I_n_t79 := I_n_t78.flat X_t79
                    have f_n_t79 := f_n_t78.ex I_n_t78 (X_t79 0)
                    have I_m_mdt0_t79 := I_m_mdt0_t78.flat X_t79
                    have f_m_mdt0_t79 := f_m_mdt0_t78.ex I_m_mdt0_t78 (X_t79 0)
                    have u_m_mdt0_t79 := u_m_mdt0_t78.ex I_m_mdt0_t78 (X_t79 0)
                    have I_m_mdt51_t79 := I_m_mdt51_t78.flat X_t79
                    have u_m_mdt51_t79 := u_m_mdt51_t78.ex I_m_mdt51_t78 (X_t79 0)
                    have I_m_mdt74_t79 := I_m_mdt74_t78.flat X_t79
                    have u_m_mdt74_t79 := u_m_mdt74_t78.ex I_m_mdt74_t78 (X_t79 0)
                    refine Ok_ret (show Ok _ _ _ from ?_)
                    refine Ok_ret (show Ok _ _ _ from ?_)
                    refine Hv_mk (Kv_c (x := (18, m_md t0, 0)) rfl (Kv_c (x := (25, n, 0)) rfl hK)) (C_t79.1.2.2.2.2.2.2 hTt) C_t79 hT (by omega) (by omega) (by omega) ?_ ?_ ?_ (by omega) ?_ ?_ ?_
                    · exact ⟨(Io_n (by decide) (by decide) I_m_mdt0_t79.1 I_m_mdt0_t79.2.1 I_m_mdt0_t79.2.2.1 (fun q => absurd q (by decide)) (fun q => absurd q (by decide)) I_m_mdt0_t79.2.2.2), (Nd_0 (by decide) Mo_nil), ⟨(Io_n (by decide) (by decide) I_n_t79.1 I_n_t79.2.1 I_n_t79.2.2.1 (fun q => absurd q (by decide)) (fun q => absurd q (by decide)) I_n_t79.2.2.2), (Nd_0 (by decide) (Mo_cons (fun q => show n ≤ m_md t0 from by omega) Mo_nil)), Stk_step (N := n) (pop := (24, n, t)) (new := [(25, n, 0), (18, m_md t0, 0)]) F0 C_t79.1.to2 (fun (h : nk 24 = false) => absurd h (by decide)) (fun q _ h => h (24, n, t) rfl) (fun _ => rfl) (fun y hy hk => ⟨rfl, (Mo_cons (fun q => show n ≤ n from by omega) (Mo_cons (fun q => show n ≤ m_md t0 from by omega) Mo_nil)) y hy hk⟩) (fun (h : 24 = 3 ∨ 24 = 18 ∨ 24 = 41) => absurd h (by decide)) (fun (h : 24 = 18) => absurd h (by decide)) (fun (h : 24 = 41 ∨ 24 = 42 ∨ 24 = 43) => absurd h (by decide)) r [] (fun y hy => absurd hy List.not_mem_nil) hS⟩⟩
                    · exact (Aj_up (x := (18, m_md t0, 0)) (Aj_sub (y := (25, n, 0)) hJ (Nat.le_of_ble_eq_true rfl)) (Or.inl (Nat.le_of_ble_eq_true rfl)))
                    · show m_dp t79 = (dlt 18 + (dlt 25 + sD r))
                      have : dlt 18 = 0 := rfl; have : dlt 24 = 1 := rfl; have : dlt 25 = 1 := rfl; omega
                    · show m_rw t79 = (rho 18 + (rho 25 + sR r))
                      have : rho 18 = 0 := rfl; have : rho 24 = 1 := rfl; have : rho 25 = 1 := rfl; omega
                    · show m_md t79 + (mu7 18 + (mu7 25 + sM r)) ≤ 3 * m_at t79 + 7 * (r.length + 1 + 1) + 10
                      have : mu7 18 = 5 := rfl; have : mu7 24 = 4 := rfl; have : mu7 25 = 4 := rfl; omega
                    · show (wt 18 + (wt 25 + sW r)) + 6 * (4096 - m_at t79) + 4 * (600 - (r.length + 1 + 1)) < (wt 24 + sW r) + 6 * (4096 - m_at t0) + 4 * (600 - (r.length + 1))
                      have : wt 18 = 0 := rfl; have : wt 24 = 0 := rfl; have : wt 25 = 1 := rfl; omega
                  · try unfold lp_X6_param_339
                    refine Kp_push C_t74 (by omega) (fun t80 C_t80 X_t80 a_t80 b_t80 d_t80 w_t80 u_t80 v_t80 j_t80 l_t80 => ?_)
                    have e_t80 := C_t80.2.2.2.1
                    rw [a_t74] at a_t80
                    rw [b_t74] at b_t80
                    rw [d_t74] at d_t80
                    rw [w_t74] at w_t80
                    rw [u_t74] at u_t80
                    rw [v_t74] at v_t80
                    clear d_t74 w_t74 u_t74 v_t74 e_t74 a_t74 b_t74
                    have I_n_t80 := I_n_t74.flat X_t80
                    have f_n_t80 := f_n_t74.ex I_n_t74 (X_t80 0)
                    have I_m_mdt0_t80 := I_m_mdt0_t74.flat X_t80
                    have f_m_mdt0_t80 := f_m_mdt0_t74.ex I_m_mdt0_t74 (X_t80 0)
                    have u_m_mdt0_t80 := u_m_mdt0_t74.ex I_m_mdt0_t74 (X_t80 0)
                    have I_m_mdt51_t80 := I_m_mdt51_t74.flat X_t80
                    have u_m_mdt51_t80 := u_m_mdt51_t74.ex I_m_mdt51_t74 (X_t80 0)
                    refine Ok_ret (show Ok _ _ _ from ?_)
                    refine Ok_ret (show Ok _ _ _ from ?_)
                    refine Hv_mk (Kv_c (x := (18, m_md t0, 0)) rfl (Kv_c (x := (25, n, 0)) rfl hK)) (C_t80.1.2.2.2.2.2.2 hTt) C_t80 hT (by omega) (by omega) (by omega) ?_ ?_ ?_ (by omega) ?_ ?_ ?_
                    · exact ⟨(Io_n (by decide) (by decide) I_m_mdt0_t80.1 I_m_mdt0_t80.2.1 I_m_mdt0_t80.2.2.1 (fun q => absurd q (by decide)) (fun q => absurd q (by decide)) I_m_mdt0_t80.2.2.2), (Nd_0 (by decide) Mo_nil), ⟨(Io_n (by decide) (by decide) I_n_t80.1 I_n_t80.2.1 I_n_t80.2.2.1 (fun q => absurd q (by decide)) (fun q => absurd q (by decide)) I_n_t80.2.2.2), (Nd_0 (by decide) (Mo_cons (fun q => show n ≤ m_md t0 from by omega) Mo_nil)), Stk_step (N := n) (pop := (24, n, t)) (new := [(25, n, 0), (18, m_md t0, 0)]) F0 C_t80.1.to2 (fun (h : nk 24 = false) => absurd h (by decide)) (fun q _ h => h (24, n, t) rfl) (fun _ => rfl) (fun y hy hk => ⟨rfl, (Mo_cons (fun q => show n ≤ n from by omega) (Mo_cons (fun q => show n ≤ m_md t0 from by omega) Mo_nil)) y hy hk⟩) (fun (h : 24 = 3 ∨ 24 = 18 ∨ 24 = 41) => absurd h (by decide)) (fun (h : 24 = 18) => absurd h (by decide)) (fun (h : 24 = 41 ∨ 24 = 42 ∨ 24 = 43) => absurd h (by decide)) r [] (fun y hy => absurd hy List.not_mem_nil) hS⟩⟩
                    · exact (Aj_up (x := (18, m_md t0, 0)) (Aj_sub (y := (25, n, 0)) hJ (Nat.le_of_ble_eq_true rfl)) (Or.inl (Nat.le_of_ble_eq_true rfl)))
                    · show m_dp t80 = (dlt 18 + (dlt 25 + sD r))
                      have : dlt 18 = 0 := rfl; have : dlt 24 = 1 := rfl; have : dlt 25 = 1 := rfl; omega
                    · show m_rw t80 = (rho 18 + (rho 25 + sR r))
                      have : rho 18 = 0 := rfl; have : rho 24 = 1 := rfl; have : rho 25 = 1 := rfl; omega
                    · show m_md t80 + (mu7 18 + (mu7 25 + sM r)) ≤ 3 * m_at t80 + 7 * (r.length + 1 + 1) + 10
                      have : mu7 18 = 5 := rfl; have : mu7 24 = 4 := rfl; have : mu7 25 = 4 := rfl; omega
                    · show (wt 18 + (wt 25 + sW r)) + 6 * (4096 - m_at t80) + 4 * (600 - (r.length + 1 + 1)) < (wt 24 + sW r) + 6 * (4096 - m_at t0) + 4 * (600 - (r.length + 1))
                      have : wt 18 = 0 := rfl; have : wt 24 = 0 := rfl; have : wt 25 = 1 := rfl; omega
              · refine Kp_error C_t51 (by omega) (fun t81 C_t81 X_t81 a_t81 b_t81 d_t81 w_t81 u_t81 v_t81 j_t81 l_t81 => ?_)
                have wb_t81 := w_t81.2
                have w_t81 := Nat.pos_of_ne_zero w_t81.1
                have e_t81 := C_t81.2.2.2.1
                have I_n_t81 := I_n_t51.flat X_t81
                have f_n_t81 := f_n_t51.ex I_n_t51 (X_t81 0)
                have I_m_mdt0_t81 := I_m_mdt0_t51.flat X_t81
                have u_m_mdt0_t81 := u_m_mdt0_t51.ex I_m_mdt0_t51 (X_t81 0)
                have pe_t81 : m_pe t81 = m_pe t0 := j_t81.2.2.2.2.trans pe_t51
                refine Kp_child C_t81 I_m_mdt0_t81.1 I_m_mdt0_t81.2.1 I_m_mdt0_t81.2.2.1 (by omega) (by omega) (by decide) (by decide) (fun t82 C_t82 X_t82 a_t82 b_t82 d_t82 w_t82 u_t82 v_t82 j_t82 l_t82 => ?_)
                have e_t82 := C_t82.2.2.2.1
                have I_n_t82 := I_n_t81.chd X_t82 j_t82
                have f_n_t82 := f_n_t81.ex I_n_t81 (X_t82 0 (Nat.zero_le _))
                have I_m_mdt0_t82 := I_m_mdt0_t81.chd X_t82 j_t82
                have u_m_mdt0_t82 := u_m_mdt0_t81.ex I_m_mdt0_t81 (X_t82 0 (Nat.zero_le _))
                have pe_t82 : m_pe t82 = m_pe t0 := j_t82.2.2.2.2.2.2.2.2.2.trans pe_t81
                have f_m_mdt0_t82 : Fz t82 (m_md t0) := j_t82.2.2.2.2.1
                have I_m_mdt81_t82 : Nq t82 (m_md t81) := Nq.chn j_t82 (by omega) I_m_mdt0_t81 (by decide)
                have u_m_mdt81_t82 : Up t82 (m_md t81) := Or.inl j_t82.2.1
                refine Kp_at C_t82 (fun t83 C_t83 X_t83 a_t83 b_t83 d_t83 w_t83 u_t83 v_t83 j_t83 l_t83 => ?_)
                have e_t83 := C_t83.2.2.2.1
                have I_n_t83 := I_n_t82.flat X_t83
                have f_n_t83 := f_n_t82.ex I_n_t82 (X_t83 0)
                have I_m_mdt0_t83 := I_m_mdt0_t82.flat X_t83
                have f_m_mdt0_t83 := f_m_mdt0_t82.ex I_m_mdt0_t82 (X_t83 0)
                have u_m_mdt0_t83 := u_m_mdt0_t82.ex I_m_mdt0_t82 (X_t83 0)
                have I_m_mdt81_t83 := I_m_mdt81_t82.flat X_t83
                have u_m_mdt81_t83 := u_m_mdt81_t82.ex I_m_mdt81_t82 (X_t83 0)
                have pe_t83 : m_pe t83 = m_pe t0 := j_t83.2.2.2.2.trans pe_t82
                refine Ok_ret (show Ok _ _ _ from ?_)
                refine Ok_ck (show (m_rw t0) ≠ 0 from by omega) ?_
                refine Ok_ck (show ((m_rw t0) - 1) < 64 from by omega) ?_
                refine Kp_pl C_t83 (by decide) (fun t84 C_t84 X_t84 a_t84 b_t84 d_t84 w_t84 u_t84 v_t84 j_t84 l_t84 => ?_)
                have e_t84 := C_t84.2.2.2.1
                have I_n_t84 := I_n_t83.flat X_t84
                have f_n_t84 := f_n_t83.ex I_n_t83 (X_t84 0)
                have I_m_mdt0_t84 := I_m_mdt0_t83.flat X_t84
                have f_m_mdt0_t84 := f_m_mdt0_t83.ex I_m_mdt0_t83 (X_t84 0)
                have u_m_mdt0_t84 := u_m_mdt0_t83.ex I_m_mdt0_t83 (X_t84 0)
                have I_m_mdt81_t84 := I_m_mdt81_t83.flat X_t84
                have u_m_mdt81_t84 := u_m_mdt81_t83.ex I_m_mdt81_t83 (X_t84 0)
                have pe_t84 : m_pe t84 = m_pe t0 := j_t84.2.2.2.2.trans pe_t83
                refine Kp_look C_t84 hT (by omega) ?_
                refine Ok_ife (Nat.lt_trans (lo_lt (C_t84.tk hT) _) (by decide)) (by decide) (fun q85 => ?_) (fun q85 => ?_)
                · refine Ok_ck (show (m_rw t0) ≠ 0 from by omega) ?_
                  refine Ok_ck (show ((m_rw t0) - 1) < 64 from by omega) ?_
                  refine Ok_ifz (show m_pe t84 ((m_rw t0) - 1) < 2147483648 from by have := (C_t84.2.2.2.2.2.1 ((m_rw t0) - 1)).2.2.2 (by omega); omega) (fun q86 => ?_) (fun q86 => ?_)
                  · try unfold lp_X6_param_283
                    refine Ok_ck (show (m_rw t0) ≠ 0 from by omega) ?_
                    refine Ok_ck (show ((m_rw t0) - 1) < 64 from by omega) ?_
                    refine Kp_pe C_t84 (Nat.zero_le _) (fun t87 C_t87 X_t87 a_t87 b_t87 d_t87 w_t87 u_t87 v_t87 j_t87 l_t87 => ?_)
                    have e_t87 := C_t87.2.2.2.1
                    have I_n_t87 := I_n_t84.flat X_t87
                    have f_n_t87 := f_n_t84.ex I_n_t84 (X_t87 0)
                    have I_m_mdt0_t87 := I_m_mdt0_t84.flat X_t87
                    have f_m_mdt0_t87 := f_m_mdt0_t84.ex I_m_mdt0_t84 (X_t87 0)
                    have u_m_mdt0_t87 := u_m_mdt0_t84.ex I_m_mdt0_t84 (X_t87 0)
                    have I_m_mdt81_t87 := I_m_mdt81_t84.flat X_t87
                    have u_m_mdt81_t87 := u_m_mdt81_t84.ex I_m_mdt81_t84 (X_t87 0)
                    try unfold lp_X6_param_300
                    refine Kp_look C_t87 hT (by omega) ?_
                    refine Ok_ife (Nat.lt_trans (lo_lt (C_t87.tk hT) _) (by decide)) (by decide) (fun q88 => ?_) (fun q88 => ?_)
                    · refine Kp_child C_t87 I_m_mdt0_t87.1 I_m_mdt0_t87.2.1 I_m_mdt0_t87.2.2.1 (by omega) (by omega) (by decide) (by decide) (fun t89 C_t89 X_t89 a_t89 b_t89 d_t89 w_t89 u_t89 v_t89 j_t89 l_t89 => ?_)
                      have e_t89 := C_t89.2.2.2.1
                      have I_n_t89 := I_n_t87.chd X_t89 j_t89
                      have f_n_t89 := f_n_t87.ex I_n_t87 (X_t89 0 (Nat.zero_le _))
                      have I_m_mdt0_t89 := I_m_mdt0_t87.chd X_t89 j_t89
                      have f_m_mdt0_t89 := f_m_mdt0_t87.ex I_m_mdt0_t87 (X_t89 0 (Nat.zero_le _))
                      have u_m_mdt0_t89 := u_m_mdt0_t87.ex I_m_mdt0_t87 (X_t89 0 (Nat.zero_le _))
                      have I_m_mdt81_t89 := I_m_mdt81_t87.chd X_t89 j_t89
                      have u_m_mdt81_t89 := u_m_mdt81_t87.ex I_m_mdt81_t87 (X_t89 0 (Nat.zero_le _))
                      have f_m_mdt0_t89 : Fz t89 (m_md t0) := j_t89.2.2.2.2.1
                      have I_m_mdt87_t89 : Nq t89 (m_md t87) := Nq.chn j_t89 (by omega) I_m_mdt0_t87 (by decide)
                      have u_m_mdt87_t89 : Up t89 (m_md t87) := Or.inl j_t89.2.1
                      refine Kp_at C_t89 (fun t90 C_t90 X_t90 a_t90 b_t90 d_t90 w_t90 u_t90 v_t90 j_t90 l_t90 => ?_)
                      have e_t90 := C_t90.2.2.2.1
                      have I_n_t90 := I_n_t89.flat X_t90
                      have f_n_t90 := f_n_t89.ex I_n_t89 (X_t90 0)
                      have I_m_mdt0_t90 := I_m_mdt0_t89.flat X_t90
                      have f_m_mdt0_t90 := f_m_mdt0_t89.ex I_m_mdt0_t89 (X_t90 0)
                      have u_m_mdt0_t90 := u_m_mdt0_t89.ex I_m_mdt0_t89 (X_t90 0)
                      have I_m_mdt81_t90 := I_m_mdt81_t89.flat X_t90
                      have u_m_mdt81_t90 := u_m_mdt81_t89.ex I_m_mdt81_t89 (X_t90 0)
                      have I_m_mdt87_t90 := I_m_mdt87_t89.flat X_t90
                      have u_m_mdt87_t90 := u_m_mdt87_t89.ex I_m_mdt87_t89 (X_t90 0)
                      refine Ok_ck (show (m_rw t0) ≠ 0 from by omega) ?_
                      refine Ok_ck (show ((m_rw t0) - 1) < 64 from by omega) ?_
                      refine Kp_en C_t90 (by decide) (fun t91 C_t91 X_t91 a_t91 b_t91 d_t91 w_t91 u_t91 v_t91 j_t91 l_t91 => ?_)
                      have e_t91 := C_t91.2.2.2.1
                      have I_n_t91 := I_n_t90.flat X_t91
                      have f_n_t91 := f_n_t90.ex I_n_t90 (X_t91 0)
                      have I_m_mdt0_t91 := I_m_mdt0_t90.flat X_t91
                      have f_m_mdt0_t91 := f_m_mdt0_t90.ex I_m_mdt0_t90 (X_t91 0)
                      have u_m_mdt0_t91 := u_m_mdt0_t90.ex I_m_mdt0_t90 (X_t91 0)
                      have I_m_mdt81_t91 := I_m_mdt81_t90.flat X_t91
                      have u_m_mdt81_t91 := u_m_mdt81_t90.ex I_m_mdt81_t90 (X_t91 0)
                      have I_m_mdt87_t91 := I_m_mdt87_t90.flat X_t91
                      have u_m_mdt87_t91 := u_m_mdt87_t90.ex I_m_mdt87_t90 (X_t91 0)
                      try unfold lp_X6_param_339
                      refine Kp_push C_t91 (by omega) (fun t92 C_t92 X_t92 a_t92 b_t92 d_t92 w_t92 u_t92 v_t92 j_t92 l_t92 => ?_)
                      have e_t92 := C_t92.2.2.2.1
                      have I_n_t92 := I_n_t91.flat X_t92
                      have f_n_t92 := f_n_t91.ex I_n_t91 (X_t92 0)
                      have I_m_mdt0_t92 := I_m_mdt0_t91.flat X_t92
                      have f_m_mdt0_t92 := f_m_mdt0_t91.ex I_m_mdt0_t91 (X_t92 0)
                      have u_m_mdt0_t92 := u_m_mdt0_t91.ex I_m_mdt0_t91 (X_t92 0)
                      have I_m_mdt81_t92 := I_m_mdt81_t91.flat X_t92
                      have u_m_mdt81_t92 := u_m_mdt81_t91.ex I_m_mdt81_t91 (X_t92 0)
                      have I_m_mdt87_t92 := I_m_mdt87_t91.flat X_t92
                      have u_m_mdt87_t92 := u_m_mdt87_t91.ex I_m_mdt87_t91 (X_t92 0)
                      refine Ok_ret (show Ok _ _ _ from ?_)
                      refine Ok_ret (show Ok _ _ _ from ?_)
                      exact Or.inl ⟨Nat.ne_of_gt (show 0 < m_wr t92 from by omega), by omega, by omega, C_t92.2.2.2.2.2, by omega⟩
                    · try unfold lp_X6_param_339
                      refine Kp_push C_t87 (by omega) (fun t93 C_t93 X_t93 a_t93 b_t93 d_t93 w_t93 u_t93 v_t93 j_t93 l_t93 => ?_)
                      have e_t93 := C_t93.2.2.2.1
                      have I_n_t93 := I_n_t87.flat X_t93
                      have f_n_t93 := f_n_t87.ex I_n_t87 (X_t93 0)
                      have I_m_mdt0_t93 := I_m_mdt0_t87.flat X_t93
                      have f_m_mdt0_t93 := f_m_mdt0_t87.ex I_m_mdt0_t87 (X_t93 0)
                      have u_m_mdt0_t93 := u_m_mdt0_t87.ex I_m_mdt0_t87 (X_t93 0)
                      have I_m_mdt81_t93 := I_m_mdt81_t87.flat X_t93
                      have u_m_mdt81_t93 := u_m_mdt81_t87.ex I_m_mdt81_t87 (X_t93 0)
                      refine Ok_ret (show Ok _ _ _ from ?_)
                      refine Ok_ret (show Ok _ _ _ from ?_)
                      exact Or.inl ⟨Nat.ne_of_gt (show 0 < m_wr t93 from by omega), by omega, by omega, C_t93.2.2.2.2.2, by omega⟩
                  · refine Kp_error C_t84 (by omega) (fun t94 C_t94 X_t94 a_t94 b_t94 d_t94 w_t94 u_t94 v_t94 j_t94 l_t94 => ?_)
                    have wb_t94 := w_t94.2
                    have w_t94 := Nat.pos_of_ne_zero w_t94.1
                    have e_t94 := C_t94.2.2.2.1
                    have I_n_t94 := I_n_t84.flat X_t94
                    have f_n_t94 := f_n_t84.ex I_n_t84 (X_t94 0)
                    have I_m_mdt0_t94 := I_m_mdt0_t84.flat X_t94
                    have f_m_mdt0_t94 := f_m_mdt0_t84.ex I_m_mdt0_t84 (X_t94 0)
                    have u_m_mdt0_t94 := u_m_mdt0_t84.ex I_m_mdt0_t84 (X_t94 0)
                    have I_m_mdt81_t94 := I_m_mdt81_t84.flat X_t94
                    have u_m_mdt81_t94 := u_m_mdt81_t84.ex I_m_mdt81_t84 (X_t94 0)
                    have pe_t94 : m_pe t94 = m_pe t0 := j_t94.2.2.2.2.trans pe_t84
                    try unfold lp_X6_param_283
                    refine Ok_ck (show (m_rw t0) ≠ 0 from by omega) ?_
                    refine Ok_ck (show ((m_rw t0) - 1) < 64 from by omega) ?_
                    refine Kp_pe C_t94 (Nat.zero_le _) (fun t95 C_t95 X_t95 a_t95 b_t95 d_t95 w_t95 u_t95 v_t95 j_t95 l_t95 => ?_)
                    have e_t95 := C_t95.2.2.2.1
                    have I_n_t95 := I_n_t94.flat X_t95
                    have f_n_t95 := f_n_t94.ex I_n_t94 (X_t95 0)
                    have I_m_mdt0_t95 := I_m_mdt0_t94.flat X_t95
                    have f_m_mdt0_t95 := f_m_mdt0_t94.ex I_m_mdt0_t94 (X_t95 0)
                    have u_m_mdt0_t95 := u_m_mdt0_t94.ex I_m_mdt0_t94 (X_t95 0)
                    have I_m_mdt81_t95 := I_m_mdt81_t94.flat X_t95
                    have u_m_mdt81_t95 := u_m_mdt81_t94.ex I_m_mdt81_t94 (X_t95 0)
                    try unfold lp_X6_param_300
                    refine Kp_look C_t95 hT (by omega) ?_
                    refine Ok_ife (Nat.lt_trans (lo_lt (C_t95.tk hT) _) (by decide)) (by decide) (fun q96 => ?_) (fun q96 => ?_)
                    · refine Kp_child C_t95 I_m_mdt0_t95.1 I_m_mdt0_t95.2.1 I_m_mdt0_t95.2.2.1 (by omega) (by omega) (by decide) (by decide) (fun t97 C_t97 X_t97 a_t97 b_t97 d_t97 w_t97 u_t97 v_t97 j_t97 l_t97 => ?_)
                      have e_t97 := C_t97.2.2.2.1
                      have I_n_t97 := I_n_t95.chd X_t97 j_t97
                      have f_n_t97 := f_n_t95.ex I_n_t95 (X_t97 0 (Nat.zero_le _))
                      have I_m_mdt0_t97 := I_m_mdt0_t95.chd X_t97 j_t97
                      have f_m_mdt0_t97 := f_m_mdt0_t95.ex I_m_mdt0_t95 (X_t97 0 (Nat.zero_le _))
                      have u_m_mdt0_t97 := u_m_mdt0_t95.ex I_m_mdt0_t95 (X_t97 0 (Nat.zero_le _))
                      have I_m_mdt81_t97 := I_m_mdt81_t95.chd X_t97 j_t97
                      have u_m_mdt81_t97 := u_m_mdt81_t95.ex I_m_mdt81_t95 (X_t97 0 (Nat.zero_le _))
                      have f_m_mdt0_t97 : Fz t97 (m_md t0) := j_t97.2.2.2.2.1
                      have I_m_mdt95_t97 : Nq t97 (m_md t95) := Nq.chn j_t97 (by omega) I_m_mdt0_t95 (by decide)
                      have u_m_mdt95_t97 : Up t97 (m_md t95) := Or.inl j_t97.2.1
                      refine Kp_at C_t97 (fun t98 C_t98 X_t98 a_t98 b_t98 d_t98 w_t98 u_t98 v_t98 j_t98 l_t98 => ?_)
                      have e_t98 := C_t98.2.2.2.1
                      have I_n_t98 := I_n_t97.flat X_t98
                      have f_n_t98 := f_n_t97.ex I_n_t97 (X_t98 0)
                      have I_m_mdt0_t98 := I_m_mdt0_t97.flat X_t98
                      have f_m_mdt0_t98 := f_m_mdt0_t97.ex I_m_mdt0_t97 (X_t98 0)
                      have u_m_mdt0_t98 := u_m_mdt0_t97.ex I_m_mdt0_t97 (X_t98 0)
                      have I_m_mdt81_t98 := I_m_mdt81_t97.flat X_t98
                      have u_m_mdt81_t98 := u_m_mdt81_t97.ex I_m_mdt81_t97 (X_t98 0)
                      have I_m_mdt95_t98 := I_m_mdt95_t97.flat X_t98
                      have u_m_mdt95_t98 := u_m_mdt95_t97.ex I_m_mdt95_t97 (X_t98 0)
                      refine Ok_ck (show (m_rw t0) ≠ 0 from by omega) ?_
                      refine Ok_ck (show ((m_rw t0) - 1) < 64 from by omega) ?_
                      refine Kp_en C_t98 (by decide) (fun t99 C_t99 X_t99 a_t99 b_t99 d_t99 w_t99 u_t99 v_t99 j_t99 l_t99 => ?_)
                      have e_t99 := C_t99.2.2.2.1
                      have I_n_t99 := I_n_t98.flat X_t99
                      have f_n_t99 := f_n_t98.ex I_n_t98 (X_t99 0)
                      have I_m_mdt0_t99 := I_m_mdt0_t98.flat X_t99
                      have f_m_mdt0_t99 := f_m_mdt0_t98.ex I_m_mdt0_t98 (X_t99 0)
                      have u_m_mdt0_t99 := u_m_mdt0_t98.ex I_m_mdt0_t98 (X_t99 0)
                      have I_m_mdt81_t99 := I_m_mdt81_t98.flat X_t99
                      have u_m_mdt81_t99 := u_m_mdt81_t98.ex I_m_mdt81_t98 (X_t99 0)
                      have I_m_mdt95_t99 := I_m_mdt95_t98.flat X_t99
                      have u_m_mdt95_t99 := u_m_mdt95_t98.ex I_m_mdt95_t98 (X_t99 0)
                      try unfold lp_X6_param_339
                      refine Kp_push C_t99 (by omega) (fun t100 C_t100 X_t100 a_t100 b_t100 d_t100 w_t100 u_t100 v_t100 j_t100 l_t100 => ?_)
                      have e_t100 := C_t100.2.2.2.1
                      have I_n_t100 := I_n_t99.flat X_t100
                      have f_n_t100 := f_n_t99.ex I_n_t99 (X_t100 0)
                      have I_m_mdt0_t100 := I_m_mdt0_t99.flat X_t100
                      have f_m_mdt0_t100 := f_m_mdt0_t99.ex I_m_mdt0_t99 (X_t100 0)
                      have u_m_mdt0_t100 := u_m_mdt0_t99.ex I_m_mdt0_t99 (X_t100 0)
                      have I_m_mdt81_t100 := I_m_mdt81_t99.flat X_t100
                      have u_m_mdt81_t100 := u_m_mdt81_t99.ex I_m_mdt81_t99 (X_t100 0)
                      have I_m_mdt95_t100 := I_m_mdt95_t99.flat X_t100
                      have u_m_mdt95_t100 := u_m_mdt95_t99.ex I_m_mdt95_t99 (X_t100 0)
                      refine Ok_ret (show Ok _ _ _ from ?_)
                      refine Ok_ret (show Ok _ _ _ from ?_)
                      exact Or.inl ⟨Nat.ne_of_gt (show 0 < m_wr t100 from by omega), by omega, by omega, C_t100.2.2.2.2.2, by omega⟩
                    · try unfold lp_X6_param_339
                      refine Kp_push C_t95 (by omega) (fun t101 C_t101 X_t101 a_t101 b_t101 d_t101 w_t101 u_t101 v_t101 j_t101 l_t101 => ?_)
                      have e_t101 := C_t101.2.2.2.1
                      have I_n_t101 := I_n_t95.flat X_t101
                      have f_n_t101 := f_n_t95.ex I_n_t95 (X_t101 0)
                      have I_m_mdt0_t101 := I_m_mdt0_t95.flat X_t101
                      have f_m_mdt0_t101 := f_m_mdt0_t95.ex I_m_mdt0_t95 (X_t101 0)
                      have u_m_mdt0_t101 := u_m_mdt0_t95.ex I_m_mdt0_t95 (X_t101 0)
                      have I_m_mdt81_t101 := I_m_mdt81_t95.flat X_t101
                      have u_m_mdt81_t101 := u_m_mdt81_t95.ex I_m_mdt81_t95 (X_t101 0)
                      refine Ok_ret (show Ok _ _ _ from ?_)
                      refine Ok_ret (show Ok _ _ _ from ?_)
                      exact Or.inl ⟨Nat.ne_of_gt (show 0 < m_wr t101 from by omega), by omega, by omega, C_t101.2.2.2.2.2, by omega⟩
                · try unfold lp_X6_param_283
                  refine Ok_ck (show (m_rw t0) ≠ 0 from by omega) ?_
                  refine Ok_ck (show ((m_rw t0) - 1) < 64 from by omega) ?_
                  refine Kp_pe C_t84 (Nat.zero_le _) (fun t102 C_t102 X_t102 a_t102 b_t102 d_t102 w_t102 u_t102 v_t102 j_t102 l_t102 => ?_)
                  have e_t102 := C_t102.2.2.2.1
                  have I_n_t102 := I_n_t84.flat X_t102
                  have f_n_t102 := f_n_t84.ex I_n_t84 (X_t102 0)
                  have I_m_mdt0_t102 := I_m_mdt0_t84.flat X_t102
                  have f_m_mdt0_t102 := f_m_mdt0_t84.ex I_m_mdt0_t84 (X_t102 0)
                  have u_m_mdt0_t102 := u_m_mdt0_t84.ex I_m_mdt0_t84 (X_t102 0)
                  have I_m_mdt81_t102 := I_m_mdt81_t84.flat X_t102
                  have u_m_mdt81_t102 := u_m_mdt81_t84.ex I_m_mdt81_t84 (X_t102 0)
                  try unfold lp_X6_param_300
                  refine Kp_look C_t102 hT (by omega) ?_
                  refine Ok_ife (Nat.lt_trans (lo_lt (C_t102.tk hT) _) (by decide)) (by decide) (fun q103 => ?_) (fun q103 => ?_)
                  · refine Kp_child C_t102 I_m_mdt0_t102.1 I_m_mdt0_t102.2.1 I_m_mdt0_t102.2.2.1 (by omega) (by omega) (by decide) (by decide) (fun t104 C_t104 X_t104 a_t104 b_t104 d_t104 w_t104 u_t104 v_t104 j_t104 l_t104 => ?_)
                    have e_t104 := C_t104.2.2.2.1
                    have I_n_t104 := I_n_t102.chd X_t104 j_t104
                    have f_n_t104 := f_n_t102.ex I_n_t102 (X_t104 0 (Nat.zero_le _))
                    have I_m_mdt0_t104 := I_m_mdt0_t102.chd X_t104 j_t104
                    have f_m_mdt0_t104 := f_m_mdt0_t102.ex I_m_mdt0_t102 (X_t104 0 (Nat.zero_le _))
                    have u_m_mdt0_t104 := u_m_mdt0_t102.ex I_m_mdt0_t102 (X_t104 0 (Nat.zero_le _))
                    have I_m_mdt81_t104 := I_m_mdt81_t102.chd X_t104 j_t104
                    have u_m_mdt81_t104 := u_m_mdt81_t102.ex I_m_mdt81_t102 (X_t104 0 (Nat.zero_le _))
                    have f_m_mdt0_t104 : Fz t104 (m_md t0) := j_t104.2.2.2.2.1
                    have I_m_mdt102_t104 : Nq t104 (m_md t102) := Nq.chn j_t104 (by omega) I_m_mdt0_t102 (by decide)
                    have u_m_mdt102_t104 : Up t104 (m_md t102) := Or.inl j_t104.2.1
                    refine Kp_at C_t104 (fun t105 C_t105 X_t105 a_t105 b_t105 d_t105 w_t105 u_t105 v_t105 j_t105 l_t105 => ?_)
                    have e_t105 := C_t105.2.2.2.1
                    have I_n_t105 := I_n_t104.flat X_t105
                    have f_n_t105 := f_n_t104.ex I_n_t104 (X_t105 0)
                    have I_m_mdt0_t105 := I_m_mdt0_t104.flat X_t105
                    have f_m_mdt0_t105 := f_m_mdt0_t104.ex I_m_mdt0_t104 (X_t105 0)
                    have u_m_mdt0_t105 := u_m_mdt0_t104.ex I_m_mdt0_t104 (X_t105 0)
                    have I_m_mdt81_t105 := I_m_mdt81_t104.flat X_t105
                    have u_m_mdt81_t105 := u_m_mdt81_t104.ex I_m_mdt81_t104 (X_t105 0)
                    have I_m_mdt102_t105 := I_m_mdt102_t104.flat X_t105
                    have u_m_mdt102_t105 := u_m_mdt102_t104.ex I_m_mdt102_t104 (X_t105 0)
                    refine Ok_ck (show (m_rw t0) ≠ 0 from by omega) ?_
                    refine Ok_ck (show ((m_rw t0) - 1) < 64 from by omega) ?_
                    refine Kp_en C_t105 (by decide) (fun t106 C_t106 X_t106 a_t106 b_t106 d_t106 w_t106 u_t106 v_t106 j_t106 l_t106 => ?_)
                    have e_t106 := C_t106.2.2.2.1
                    have I_n_t106 := I_n_t105.flat X_t106
                    have f_n_t106 := f_n_t105.ex I_n_t105 (X_t106 0)
                    have I_m_mdt0_t106 := I_m_mdt0_t105.flat X_t106
                    have f_m_mdt0_t106 := f_m_mdt0_t105.ex I_m_mdt0_t105 (X_t106 0)
                    have u_m_mdt0_t106 := u_m_mdt0_t105.ex I_m_mdt0_t105 (X_t106 0)
                    have I_m_mdt81_t106 := I_m_mdt81_t105.flat X_t106
                    have u_m_mdt81_t106 := u_m_mdt81_t105.ex I_m_mdt81_t105 (X_t106 0)
                    have I_m_mdt102_t106 := I_m_mdt102_t105.flat X_t106
                    have u_m_mdt102_t106 := u_m_mdt102_t105.ex I_m_mdt102_t105 (X_t106 0)
                    try unfold lp_X6_param_339
                    refine Kp_push C_t106 (by omega) (fun t107 C_t107 X_t107 a_t107 b_t107 d_t107 w_t107 u_t107 v_t107 j_t107 l_t107 => ?_)
                    have e_t107 := C_t107.2.2.2.1
                    have I_n_t107 := I_n_t106.flat X_t107
                    have f_n_t107 := f_n_t106.ex I_n_t106 (X_t107 0)
                    have I_m_mdt0_t107 := I_m_mdt0_t106.flat X_t107
                    have f_m_mdt0_t107 := f_m_mdt0_t106.ex I_m_mdt0_t106 (X_t107 0)
                    have u_m_mdt0_t107 := u_m_mdt0_t106.ex I_m_mdt0_t106 (X_t107 0)
                    have I_m_mdt81_t107 := I_m_mdt81_t106.flat X_t107
                    have u_m_mdt81_t107 := u_m_mdt81_t106.ex I_m_mdt81_t106 (X_t107 0)
                    have I_m_mdt102_t107 := I_m_mdt102_t106.flat X_t107
                    have u_m_mdt102_t107 := u_m_mdt102_t106.ex I_m_mdt102_t106 (X_t107 0)
                    refine Ok_ret (show Ok _ _ _ from ?_)
                    refine Ok_ret (show Ok _ _ _ from ?_)
                    exact Or.inl ⟨Nat.ne_of_gt (show 0 < m_wr t107 from by omega), by omega, by omega, C_t107.2.2.2.2.2, by omega⟩
                  · try unfold lp_X6_param_339
                    refine Kp_push C_t102 (by omega) (fun t108 C_t108 X_t108 a_t108 b_t108 d_t108 w_t108 u_t108 v_t108 j_t108 l_t108 => ?_)
                    have e_t108 := C_t108.2.2.2.1
                    have I_n_t108 := I_n_t102.flat X_t108
                    have f_n_t108 := f_n_t102.ex I_n_t102 (X_t108 0)
                    have I_m_mdt0_t108 := I_m_mdt0_t102.flat X_t108
                    have f_m_mdt0_t108 := f_m_mdt0_t102.ex I_m_mdt0_t102 (X_t108 0)
                    have u_m_mdt0_t108 := u_m_mdt0_t102.ex I_m_mdt0_t102 (X_t108 0)
                    have I_m_mdt81_t108 := I_m_mdt81_t102.flat X_t108
                    have u_m_mdt81_t108 := u_m_mdt81_t102.ex I_m_mdt81_t102 (X_t108 0)
                    refine Ok_ret (show Ok _ _ _ from ?_)
                    refine Ok_ret (show Ok _ _ _ from ?_)
                    exact Or.inl ⟨Nat.ne_of_gt (show 0 < m_wr t108 from by omega), by omega, by omega, C_t108.2.2.2.2.2, by omega⟩
          · try unfold lp_X6_param_169
            refine Ok_ifz1 ?_
            refine Ok_ck (show (m_rw t0) ≠ 0 from by omega) ?_
            refine Ok_ck (show ((m_rw t0) - 1) < 64 from by omega) ?_
            refine Ok_ifz (Nat.lt_trans (C_t0.2.2.2.2.2.1 ((m_rw t0) - 1)).2.2.1 (by decide)) (fun q => absurd q q46) (fun q => ?_)
            try unfold lp_X6_param_193
            refine Kp_error C_t0 (by omega) (fun t109 C_t109 X_t109 a_t109 b_t109 d_t109 w_t109 u_t109 v_t109 j_t109 l_t109 => ?_)
            have wb_t109 := w_t109.2
            have w_t109 := Nat.pos_of_ne_zero w_t109.1
            have e_t109 := C_t109.2.2.2.1
            have I_n_t109 := I_n_t0.flat X_t109
            have pe_t109 : m_pe t109 = m_pe t0 := j_t109.2.2.2.2
            refine Ok_ret (show Ok _ _ _ from ?_)
            refine Ok_ret (show Ok _ _ _ from ?_)
            exact Or.inl ⟨Nat.ne_of_gt (show 0 < m_wr t109 from by omega), by omega, by omega, C_t109.2.2.2.2.2, by omega⟩
    · try unfold lp_X6_param_94
      try unfold lp_X6_param_97
      refine Ok_ife (Nat.lt_trans (lo_lt (C_t0.tk hT) _) (by decide)) (by decide) (fun q => absurd q q17) (fun q => ?_)
      try unfold lp_X6_param_111
      try unfold lp_X6_param_114
      refine Ok_ck (show (m_rw t0) ≠ 0 from by omega) ?_
      refine Ok_ck (show ((m_rw t0) - 1) < 64 from by omega) ?_
      refine Ok_ifz (Nat.lt_trans (C_t0.2.2.2.2.2.1 ((m_rw t0) - 1)).2.2.1 (by decide)) (fun q110 => ?_) (fun q110 => ?_)
      · refine Ok_ife (Nat.lt_trans (lo_lt (C_t0.tk hT) _) (by decide)) (by decide) (fun q => absurd q q17) (fun q => ?_)
        refine Ok_ck (show (m_rw t0) ≠ 0 from by omega) ?_
        refine Ok_ck (show ((m_rw t0) - 1) < 64 from by omega) ?_
        refine Ok_ifz (Nat.lt_trans (C_t0.2.2.2.2.2.1 ((m_rw t0) - 1)).1 (by decide)) (fun q111 => ?_) (fun q111 => ?_)
        · try unfold lp_X6_param_169
          refine Ok_ifz0 ?_
          try unfold lp_X6_param_193
          refine Kp_error C_t0 (by omega) (fun t112 C_t112 X_t112 a_t112 b_t112 d_t112 w_t112 u_t112 v_t112 j_t112 l_t112 => ?_)
          have wb_t112 := w_t112.2
          have w_t112 := Nat.pos_of_ne_zero w_t112.1
          have e_t112 := C_t112.2.2.2.1
          have I_n_t112 := I_n_t0.flat X_t112
          have pe_t112 : m_pe t112 = m_pe t0 := j_t112.2.2.2.2
          refine Ok_ret (show Ok _ _ _ from ?_)
          refine Ok_ret (show Ok _ _ _ from ?_)
          exact Or.inl ⟨Nat.ne_of_gt (show 0 < m_wr t112 from by omega), by omega, by omega, C_t112.2.2.2.2.2, by omega⟩
        · try unfold lp_X6_param_137
          refine Ok_ife (Nat.lt_trans (lo_lt (C_t0.tk hT) _) (by decide)) (by decide) (fun q => absurd q q17) (fun q => ?_)
          refine Ok_ife (Nat.lt_trans (lo_lt (C_t0.tk hT) _) (by decide)) (by decide) (fun q113 => ?_) (fun q113 => ?_)
          · try unfold lp_X6_param_155
            refine Ok_ifz0 ?_
            try unfold lp_X6_param_198
            refine Kp_child C_t0 I_n_t0.1 I_n_t0.2.1 I_n_t0.2.2.1 (by omega) (by omega) (by decide) (by decide) (fun t114 C_t114 X_t114 a_t114 b_t114 d_t114 w_t114 u_t114 v_t114 j_t114 l_t114 => ?_)
            have e_t114 := C_t114.2.2.2.1
            have I_n_t114 := I_n_t0.chd X_t114 j_t114
            have pe_t114 : m_pe t114 = m_pe t0 := j_t114.2.2.2.2.2.2.2.2.2
            have f_n_t114 : Fz t114 n := j_t114.2.2.2.2.1
            have I_m_mdt0_t114 : Nq t114 (m_md t0) := Nq.chn j_t114 (by omega) I_n_t0 (by decide)
            have u_m_mdt0_t114 : Up t114 (m_md t0) := Or.inl j_t114.2.1
            refine Kp_push C_t114 (by omega) (fun t115 C_t115 X_t115 a_t115 b_t115 d_t115 w_t115 u_t115 v_t115 j_t115 l_t115 => ?_)
            have e_t115 := C_t115.2.2.2.1
            rw [a_t114] at a_t115
            rw [b_t114] at b_t115
            rw [d_t114] at d_t115
            rw [w_t114] at w_t115
            rw [u_t114] at u_t115
            rw [v_t114] at v_t115
            clear d_t114 w_t114 u_t114 v_t114 e_t114 a_t114 b_t114
            have I_n_t115 := I_n_t114.flat X_t115
            have f_n_t115 := f_n_t114.ex I_n_t114 (X_t115 0)
            have I_m_mdt0_t115 := I_m_mdt0_t114.flat X_t115
            have u_m_mdt0_t115 := u_m_mdt0_t114.ex I_m_mdt0_t114 (X_t115 0)
            have pe_t115 : m_pe t115 = m_pe t0 := j_t115.2.2.2.2.trans pe_t114
            refine Ok_ifz0 ?_
            refine Ok_ifz0 ?_
            refine Ok_ck (show (m_rw t0) ≠ 0 from by omega) ?_
            refine Ok_ck (show ((m_rw t0) - 1) < 64 from by omega) ?_
            refine Kp_nm C_t115 (by decide) (fun t116 C_t116 X_t116 a_t116 b_t116 d_t116 w_t116 u_t116 v_t116 j_t116 l_t116 => ?_)
            have e_t116 := C_t116.2.2.2.1
            rw [a_t115] at a_t116
            rw [b_t115] at b_t116
            rw [d_t115] at d_t116
            rw [w_t115] at w_t116
            rw [u_t115] at u_t116
            rw [v_t115] at v_t116
            clear d_t115 w_t115 u_t115 v_t115 e_t115 a_t115 b_t115
            have I_n_t116 := I_n_t115.flat X_t116
            have f_n_t116 := f_n_t115.ex I_n_t115 (X_t116 0)
            have I_m_mdt0_t116 := I_m_mdt0_t115.flat X_t116
            have u_m_mdt0_t116 := u_m_mdt0_t115.ex I_m_mdt0_t115 (X_t116 0)
            have pe_t116 : m_pe t116 = m_pe t0 := j_t116.2.2.2.2.trans pe_t115
            try unfold lp_X6_param_300
            refine Kp_look C_t116 hT (by omega) ?_
            refine Ok_ife (Nat.lt_trans (lo_lt (C_t116.tk hT) _) (by decide)) (by decide) (fun q117 => ?_) (fun q117 => ?_)
            · refine Kp_child C_t116 I_m_mdt0_t116.1 I_m_mdt0_t116.2.1 I_m_mdt0_t116.2.2.1 (by omega) (by omega) (by decide) (by decide) (fun t118 C_t118 X_t118 a_t118 b_t118 d_t118 w_t118 u_t118 v_t118 j_t118 l_t118 => ?_)
              have e_t118 := C_t118.2.2.2.1
              rw [a_t116] at a_t118
              rw [b_t116] at b_t118
              rw [d_t116] at d_t118
              rw [w_t116] at w_t118
              rw [u_t116] at u_t118
              rw [v_t116] at v_t118
              clear d_t116 w_t116 u_t116 v_t116 e_t116 a_t116
              have I_n_t118 := I_n_t116.chd X_t118 j_t118
              have f_n_t118 := f_n_t116.ex I_n_t116 (X_t118 0 (Nat.zero_le _))
              have I_m_mdt0_t118 := I_m_mdt0_t116.chd X_t118 j_t118
              have u_m_mdt0_t118 := u_m_mdt0_t116.ex I_m_mdt0_t116 (X_t118 0 (Nat.zero_le _))
              have pe_t118 : m_pe t118 = m_pe t0 := j_t118.2.2.2.2.2.2.2.2.2.trans pe_t116
              have f_m_mdt0_t118 : Fz t118 (m_md t0) := j_t118.2.2.2.2.1
              have I_m_mdt116_t118 : Nq t118 (m_md t116) := Nq.chn j_t118 (by omega) I_m_mdt0_t116 (by decide)
              have u_m_mdt116_t118 : Up t118 (m_md t116) := Or.inl j_t118.2.1
              have z_t119 : m_at t118 < m_ct t118 := lo_ne (Nat.ne_of_gt (show 0 < lo t118 (m_at t118) from by omega))
              refine Kp_at C_t118 (fun t119 C_t119 X_t119 a_t119 b_t119 d_t119 w_t119 u_t119 v_t119 j_t119 l_t119 => ?_)
              have e_t119 := C_t119.2.2.2.1
              rw [a_t118] at a_t119
              rw [b_t118] at b_t119
              rw [d_t118] at d_t119
              rw [w_t118] at w_t119
              rw [u_t118] at u_t119
              rw [v_t118] at v_t119
              rw [a_t118, e_t118] at z_t119
              clear d_t118 w_t118 u_t118 v_t118 e_t118 a_t118 b_t118
              have I_n_t119 := I_n_t118.flat X_t119
              have f_n_t119 := f_n_t118.ex I_n_t118 (X_t119 0)
              have I_m_mdt0_t119 := I_m_mdt0_t118.flat X_t119
              have f_m_mdt0_t119 := f_m_mdt0_t118.ex I_m_mdt0_t118 (X_t119 0)
              have u_m_mdt0_t119 := u_m_mdt0_t118.ex I_m_mdt0_t118 (X_t119 0)
              have I_m_mdt116_t119 := I_m_mdt116_t118.flat X_t119
              have u_m_mdt116_t119 := u_m_mdt116_t118.ex I_m_mdt116_t118 (X_t119 0)
              have pe_t119 : m_pe t119 = m_pe t0 := j_t119.2.2.2.2.trans pe_t118
              refine Ok_ck (show (m_rw t0) ≠ 0 from by omega) ?_
              refine Ok_ck (show ((m_rw t0) - 1) < 64 from by omega) ?_
              refine Kp_en C_t119 (by decide) (fun t120 C_t120 X_t120 a_t120 b_t120 d_t120 w_t120 u_t120 v_t120 j_t120 l_t120 => ?_)
              have e_t120 := C_t120.2.2.2.1
              rw [a_t119] at a_t120
              rw [b_t119] at b_t120
              rw [d_t119] at d_t120
              rw [w_t119] at w_t120
              rw [u_t119] at u_t120
              rw [v_t119] at v_t120
              clear d_t119 w_t119 u_t119 v_t119 e_t119 a_t119 b_t119
              have I_n_t120 := I_n_t119.flat X_t120
              have f_n_t120 := f_n_t119.ex I_n_t119 (X_t120 0)
              have I_m_mdt0_t120 := I_m_mdt0_t119.flat X_t120
              have f_m_mdt0_t120 := f_m_mdt0_t119.ex I_m_mdt0_t119 (X_t120 0)
              have u_m_mdt0_t120 := u_m_mdt0_t119.ex I_m_mdt0_t119 (X_t120 0)
              have I_m_mdt116_t120 := I_m_mdt116_t119.flat X_t120
              have u_m_mdt116_t120 := u_m_mdt116_t119.ex I_m_mdt116_t119 (X_t120 0)
              have pe_t120 : m_pe t120 = m_pe t0 := j_t120.2.2.2.2.trans pe_t119
              try unfold lp_X6_param_339
              refine Kp_push C_t120 (by omega) (fun t121 C_t121 X_t121 a_t121 b_t121 d_t121 w_t121 u_t121 v_t121 j_t121 l_t121 => ?_)
              have e_t121 := C_t121.2.2.2.1
              rw [a_t120] at a_t121
              rw [b_t120] at b_t121
              rw [d_t120] at d_t121
              rw [w_t120] at w_t121
              rw [u_t120] at u_t121
              rw [v_t120] at v_t121
              clear d_t120 w_t120 u_t120 v_t120 e_t120 a_t120 b_t120
              have I_n_t121 := I_n_t120.flat X_t121
              have f_n_t121 := f_n_t120.ex I_n_t120 (X_t121 0)
              have I_m_mdt0_t121 := I_m_mdt0_t120.flat X_t121
              have f_m_mdt0_t121 := f_m_mdt0_t120.ex I_m_mdt0_t120 (X_t121 0)
              have u_m_mdt0_t121 := u_m_mdt0_t120.ex I_m_mdt0_t120 (X_t121 0)
              have I_m_mdt116_t121 := I_m_mdt116_t120.flat X_t121
              have u_m_mdt116_t121 := u_m_mdt116_t120.ex I_m_mdt116_t120 (X_t121 0)
              have pe_t121 : m_pe t121 = m_pe t0 := j_t121.2.2.2.2.trans pe_t120
              refine Ok_ret (show Ok _ _ _ from ?_)
              refine Ok_ret (show Ok _ _ _ from ?_)
              refine Hv_mk (Kv_c (x := (18, m_md t0, 0)) rfl (Kv_c (x := (25, n, 0)) rfl hK)) (C_t121.1.2.2.2.2.2.2 hTt) C_t121 hT (by omega) (by omega) (by omega) ?_ ?_ ?_ (by omega) ?_ ?_ ?_
              · exact ⟨(Io_n (by decide) (by decide) I_m_mdt0_t121.1 I_m_mdt0_t121.2.1 I_m_mdt0_t121.2.2.1 (fun q => absurd q (by decide)) (fun q => absurd q (by decide)) I_m_mdt0_t121.2.2.2), (Nd_0 (by decide) Mo_nil), ⟨(Io_n (by decide) (by decide) I_n_t121.1 I_n_t121.2.1 I_n_t121.2.2.1 (fun q => absurd q (by decide)) (fun q => absurd q (by decide)) I_n_t121.2.2.2), (Nd_0 (by decide) (Mo_cons (fun q => show n ≤ m_md t0 from by omega) Mo_nil)), Stk_step (N := n) (pop := (24, n, t)) (new := [(25, n, 0), (18, m_md t0, 0)]) F0 C_t121.1.to2 (fun (h : nk 24 = false) => absurd h (by decide)) (fun q _ h => h (24, n, t) rfl) (fun _ => rfl) (fun y hy hk => ⟨rfl, (Mo_cons (fun q => show n ≤ n from by omega) (Mo_cons (fun q => show n ≤ m_md t0 from by omega) Mo_nil)) y hy hk⟩) (fun (h : 24 = 3 ∨ 24 = 18 ∨ 24 = 41) => absurd h (by decide)) (fun (h : 24 = 18) => absurd h (by decide)) (fun (h : 24 = 41 ∨ 24 = 42 ∨ 24 = 43) => absurd h (by decide)) r [] (fun y hy => absurd hy List.not_mem_nil) hS⟩⟩
              · exact (Aj_up (x := (18, m_md t0, 0)) (Aj_sub (y := (25, n, 0)) hJ (Nat.le_of_ble_eq_true rfl)) (Or.inl (Nat.le_of_ble_eq_true rfl)))
              · show m_dp t121 = (dlt 18 + (dlt 25 + sD r))
                have : dlt 18 = 0 := rfl; have : dlt 24 = 1 := rfl; have : dlt 25 = 1 := rfl; omega
              · show m_rw t121 = (rho 18 + (rho 25 + sR r))
                have : rho 18 = 0 := rfl; have : rho 24 = 1 := rfl; have : rho 25 = 1 := rfl; omega
              · show m_md t121 + (mu7 18 + (mu7 25 + sM r)) ≤ 3 * m_at t121 + 7 * (r.length + 1 + 1) + 10
                have : mu7 18 = 5 := rfl; have : mu7 24 = 4 := rfl; have : mu7 25 = 4 := rfl; omega
              · show (wt 18 + (wt 25 + sW r)) + 6 * (4096 - m_at t121) + 4 * (600 - (r.length + 1 + 1)) < (wt 24 + sW r) + 6 * (4096 - m_at t0) + 4 * (600 - (r.length + 1))
                have : wt 18 = 0 := rfl; have : wt 24 = 0 := rfl; have : wt 25 = 1 := rfl; omega
            · try unfold lp_X6_param_339
              refine Kp_push C_t116 (by omega) (fun t122 C_t122 X_t122 a_t122 b_t122 d_t122 w_t122 u_t122 v_t122 j_t122 l_t122 => ?_)
              have e_t122 := C_t122.2.2.2.1
              rw [a_t116] at a_t122
              rw [b_t116] at b_t122
              rw [d_t116] at d_t122
              rw [w_t116] at w_t122
              rw [u_t116] at u_t122
              rw [v_t116] at v_t122
              clear d_t116 w_t116 u_t116 v_t116 e_t116 a_t116 b_t116
              have I_n_t122 := I_n_t116.flat X_t122
              have f_n_t122 := f_n_t116.ex I_n_t116 (X_t122 0)
              have I_m_mdt0_t122 := I_m_mdt0_t116.flat X_t122
              have u_m_mdt0_t122 := u_m_mdt0_t116.ex I_m_mdt0_t116 (X_t122 0)
              have pe_t122 : m_pe t122 = m_pe t0 := j_t122.2.2.2.2.trans pe_t116
              refine Ok_ret (show Ok _ _ _ from ?_)
              refine Ok_ret (show Ok _ _ _ from ?_)
              refine Hv_mk (Kv_c (x := (18, m_md t0, 0)) rfl (Kv_c (x := (25, n, 0)) rfl hK)) (C_t122.1.2.2.2.2.2.2 hTt) C_t122 hT (by omega) (by omega) (by omega) ?_ ?_ ?_ (by omega) ?_ ?_ ?_
              · exact ⟨(Io_n (by decide) (by decide) I_m_mdt0_t122.1 I_m_mdt0_t122.2.1 I_m_mdt0_t122.2.2.1 (fun q => absurd q (by decide)) (fun q => absurd q (by decide)) I_m_mdt0_t122.2.2.2), (Nd_0 (by decide) Mo_nil), ⟨(Io_n (by decide) (by decide) I_n_t122.1 I_n_t122.2.1 I_n_t122.2.2.1 (fun q => absurd q (by decide)) (fun q => absurd q (by decide)) I_n_t122.2.2.2), (Nd_0 (by decide) (Mo_cons (fun q => show n ≤ m_md t0 from by omega) Mo_nil)), Stk_step (N := n) (pop := (24, n, t)) (new := [(25, n, 0), (18, m_md t0, 0)]) F0 C_t122.1.to2 (fun (h : nk 24 = false) => absurd h (by decide)) (fun q _ h => h (24, n, t) rfl) (fun _ => rfl) (fun y hy hk => ⟨rfl, (Mo_cons (fun q => show n ≤ n from by omega) (Mo_cons (fun q => show n ≤ m_md t0 from by omega) Mo_nil)) y hy hk⟩) (fun (h : 24 = 3 ∨ 24 = 18 ∨ 24 = 41) => absurd h (by decide)) (fun (h : 24 = 18) => absurd h (by decide)) (fun (h : 24 = 41 ∨ 24 = 42 ∨ 24 = 43) => absurd h (by decide)) r [] (fun y hy => absurd hy List.not_mem_nil) hS⟩⟩
              · exact (Aj_up (x := (18, m_md t0, 0)) (Aj_sub (y := (25, n, 0)) hJ (Nat.le_of_ble_eq_true rfl)) (Or.inl (Nat.le_of_ble_eq_true rfl)))
              · show m_dp t122 = (dlt 18 + (dlt 25 + sD r))
                have : dlt 18 = 0 := rfl; have : dlt 24 = 1 := rfl; have : dlt 25 = 1 := rfl; omega
              · show m_rw t122 = (rho 18 + (rho 25 + sR r))
                have : rho 18 = 0 := rfl; have : rho 24 = 1 := rfl; have : rho 25 = 1 := rfl; omega
              · show m_md t122 + (mu7 18 + (mu7 25 + sM r)) ≤ 3 * m_at t122 + 7 * (r.length + 1 + 1) + 10
                have : mu7 18 = 5 := rfl; have : mu7 24 = 4 := rfl; have : mu7 25 = 4 := rfl; omega
              · show (wt 18 + (wt 25 + sW r)) + 6 * (4096 - m_at t122) + 4 * (600 - (r.length + 1 + 1)) < (wt 24 + sW r) + 6 * (4096 - m_at t0) + 4 * (600 - (r.length + 1))
                have : wt 18 = 0 := rfl; have : wt 24 = 0 := rfl; have : wt 25 = 1 := rfl; omega
          · refine Ok_ck (Nat.lt_trans (lo_lt (C_t0.tk hT) _) (by decide)) ?_
            refine Ok_ifz (f6_beginsType _) (fun q123 => ?_) (fun q123 => ?_)
            · try unfold lp_X6_param_169
              refine Ok_ifz0 ?_
              try unfold lp_X6_param_193
              refine Kp_error C_t0 (by omega) (fun t124 C_t124 X_t124 a_t124 b_t124 d_t124 w_t124 u_t124 v_t124 j_t124 l_t124 => ?_)
              have wb_t124 := w_t124.2
              have w_t124 := Nat.pos_of_ne_zero w_t124.1
              have e_t124 := C_t124.2.2.2.1
              have I_n_t124 := I_n_t0.flat X_t124
              have pe_t124 : m_pe t124 = m_pe t0 := j_t124.2.2.2.2
              refine Ok_ret (show Ok _ _ _ from ?_)
              refine Ok_ret (show Ok _ _ _ from ?_)
              exact Or.inl ⟨Nat.ne_of_gt (show 0 < m_wr t124 from by omega), by omega, by omega, C_t124.2.2.2.2.2, by omega⟩
            · have q123n := Nat.pos_of_ne_zero (n6_beginsType q123)
              try unfold lp_X6_param_155
              refine Ok_ifz0 ?_
              try unfold lp_X6_param_198
              refine Kp_child C_t0 I_n_t0.1 I_n_t0.2.1 I_n_t0.2.2.1 (by omega) (by omega) (by decide) (by decide) (fun t125 C_t125 X_t125 a_t125 b_t125 d_t125 w_t125 u_t125 v_t125 j_t125 l_t125 => ?_)
              have e_t125 := C_t125.2.2.2.1
              have I_n_t125 := I_n_t0.chd X_t125 j_t125
              have pe_t125 : m_pe t125 = m_pe t0 := j_t125.2.2.2.2.2.2.2.2.2
              have f_n_t125 : Fz t125 n := j_t125.2.2.2.2.1
              have I_m_mdt0_t125 : Nq t125 (m_md t0) := Nq.chn j_t125 (by omega) I_n_t0 (by decide)
              have u_m_mdt0_t125 : Up t125 (m_md t0) := Or.inl j_t125.2.1
              refine Kp_push C_t125 (by omega) (fun t126 C_t126 X_t126 a_t126 b_t126 d_t126 w_t126 u_t126 v_t126 j_t126 l_t126 => ?_)
              have e_t126 := C_t126.2.2.2.1
              rw [a_t125] at a_t126
              rw [b_t125] at b_t126
              rw [d_t125] at d_t126
              rw [w_t125] at w_t126
              rw [u_t125] at u_t126
              rw [v_t125] at v_t126
              clear d_t125 w_t125 u_t125 v_t125 e_t125 a_t125 b_t125
              have I_n_t126 := I_n_t125.flat X_t126
              have f_n_t126 := f_n_t125.ex I_n_t125 (X_t126 0)
              have I_m_mdt0_t126 := I_m_mdt0_t125.flat X_t126
              have u_m_mdt0_t126 := u_m_mdt0_t125.ex I_m_mdt0_t125 (X_t126 0)
              have pe_t126 : m_pe t126 = m_pe t0 := j_t126.2.2.2.2.trans pe_t125
              refine Ok_ifz0 ?_
              refine Ok_ifz0 ?_
              refine Ok_ck (show (m_rw t0) ≠ 0 from by omega) ?_
              refine Ok_ck (show ((m_rw t0) - 1) < 64 from by omega) ?_
              refine Kp_nm C_t126 (by decide) (fun t127 C_t127 X_t127 a_t127 b_t127 d_t127 w_t127 u_t127 v_t127 j_t127 l_t127 => ?_)
              have e_t127 := C_t127.2.2.2.1
              rw [a_t126] at a_t127
              rw [b_t126] at b_t127
              rw [d_t126] at d_t127
              rw [w_t126] at w_t127
              rw [u_t126] at u_t127
              rw [v_t126] at v_t127
              clear d_t126 w_t126 u_t126 v_t126 e_t126 a_t126 b_t126
              have I_n_t127 := I_n_t126.flat X_t127
              have f_n_t127 := f_n_t126.ex I_n_t126 (X_t127 0)
              have I_m_mdt0_t127 := I_m_mdt0_t126.flat X_t127
              have u_m_mdt0_t127 := u_m_mdt0_t126.ex I_m_mdt0_t126 (X_t127 0)
              have pe_t127 : m_pe t127 = m_pe t0 := j_t127.2.2.2.2.trans pe_t126
              try unfold lp_X6_param_300
              refine Kp_look C_t127 hT (by omega) ?_
              refine Ok_ife (Nat.lt_trans (lo_lt (C_t127.tk hT) _) (by decide)) (by decide) (fun q128 => ?_) (fun q128 => ?_)
              · refine Kp_child C_t127 I_m_mdt0_t127.1 I_m_mdt0_t127.2.1 I_m_mdt0_t127.2.2.1 (by omega) (by omega) (by decide) (by decide) (fun t129 C_t129 X_t129 a_t129 b_t129 d_t129 w_t129 u_t129 v_t129 j_t129 l_t129 => ?_)
                have e_t129 := C_t129.2.2.2.1
                rw [a_t127] at a_t129
                rw [b_t127] at b_t129
                rw [d_t127] at d_t129
                rw [w_t127] at w_t129
                rw [u_t127] at u_t129
                rw [v_t127] at v_t129
                clear d_t127 w_t127 u_t127 v_t127 e_t127 a_t127
                have I_n_t129 := I_n_t127.chd X_t129 j_t129
                have f_n_t129 := f_n_t127.ex I_n_t127 (X_t129 0 (Nat.zero_le _))
                have I_m_mdt0_t129 := I_m_mdt0_t127.chd X_t129 j_t129
                have u_m_mdt0_t129 := u_m_mdt0_t127.ex I_m_mdt0_t127 (X_t129 0 (Nat.zero_le _))
                have pe_t129 : m_pe t129 = m_pe t0 := j_t129.2.2.2.2.2.2.2.2.2.trans pe_t127
                have f_m_mdt0_t129 : Fz t129 (m_md t0) := j_t129.2.2.2.2.1
                have I_m_mdt127_t129 : Nq t129 (m_md t127) := Nq.chn j_t129 (by omega) I_m_mdt0_t127 (by decide)
                have u_m_mdt127_t129 : Up t129 (m_md t127) := Or.inl j_t129.2.1
                have z_t130 : m_at t129 < m_ct t129 := lo_ne (Nat.ne_of_gt (show 0 < lo t129 (m_at t129) from by omega))
                refine Kp_at C_t129 (fun t130 C_t130 X_t130 a_t130 b_t130 d_t130 w_t130 u_t130 v_t130 j_t130 l_t130 => ?_)
                have e_t130 := C_t130.2.2.2.1
                rw [a_t129] at a_t130
                rw [b_t129] at b_t130
                rw [d_t129] at d_t130
                rw [w_t129] at w_t130
                rw [u_t129] at u_t130
                rw [v_t129] at v_t130
                rw [a_t129, e_t129] at z_t130
                clear d_t129 w_t129 u_t129 v_t129 e_t129 a_t129 b_t129
                have I_n_t130 := I_n_t129.flat X_t130
                have f_n_t130 := f_n_t129.ex I_n_t129 (X_t130 0)
                have I_m_mdt0_t130 := I_m_mdt0_t129.flat X_t130
                have f_m_mdt0_t130 := f_m_mdt0_t129.ex I_m_mdt0_t129 (X_t130 0)
                have u_m_mdt0_t130 := u_m_mdt0_t129.ex I_m_mdt0_t129 (X_t130 0)
                have I_m_mdt127_t130 := I_m_mdt127_t129.flat X_t130
                have u_m_mdt127_t130 := u_m_mdt127_t129.ex I_m_mdt127_t129 (X_t130 0)
                have pe_t130 : m_pe t130 = m_pe t0 := j_t130.2.2.2.2.trans pe_t129
                refine Ok_ck (show (m_rw t0) ≠ 0 from by omega) ?_
                refine Ok_ck (show ((m_rw t0) - 1) < 64 from by omega) ?_
                refine Kp_en C_t130 (by decide) (fun t131 C_t131 X_t131 a_t131 b_t131 d_t131 w_t131 u_t131 v_t131 j_t131 l_t131 => ?_)
                have e_t131 := C_t131.2.2.2.1
                rw [a_t130] at a_t131
                rw [b_t130] at b_t131
                rw [d_t130] at d_t131
                rw [w_t130] at w_t131
                rw [u_t130] at u_t131
                rw [v_t130] at v_t131
                clear d_t130 w_t130 u_t130 v_t130 e_t130 a_t130 b_t130
                have I_n_t131 := I_n_t130.flat X_t131
                have f_n_t131 := f_n_t130.ex I_n_t130 (X_t131 0)
                have I_m_mdt0_t131 := I_m_mdt0_t130.flat X_t131
                have f_m_mdt0_t131 := f_m_mdt0_t130.ex I_m_mdt0_t130 (X_t131 0)
                have u_m_mdt0_t131 := u_m_mdt0_t130.ex I_m_mdt0_t130 (X_t131 0)
                have I_m_mdt127_t131 := I_m_mdt127_t130.flat X_t131
                have u_m_mdt127_t131 := u_m_mdt127_t130.ex I_m_mdt127_t130 (X_t131 0)
                have pe_t131 : m_pe t131 = m_pe t0 := j_t131.2.2.2.2.trans pe_t130
                try unfold lp_X6_param_339
                refine Kp_push C_t131 (by omega) (fun t132 C_t132 X_t132 a_t132 b_t132 d_t132 w_t132 u_t132 v_t132 j_t132 l_t132 => ?_)
                have e_t132 := C_t132.2.2.2.1
                rw [a_t131] at a_t132
                rw [b_t131] at b_t132
                rw [d_t131] at d_t132
                rw [w_t131] at w_t132
                rw [u_t131] at u_t132
                rw [v_t131] at v_t132
                clear d_t131 w_t131 u_t131 v_t131 e_t131 a_t131 b_t131
                have I_n_t132 := I_n_t131.flat X_t132
                have f_n_t132 := f_n_t131.ex I_n_t131 (X_t132 0)
                have I_m_mdt0_t132 := I_m_mdt0_t131.flat X_t132
                have f_m_mdt0_t132 := f_m_mdt0_t131.ex I_m_mdt0_t131 (X_t132 0)
                have u_m_mdt0_t132 := u_m_mdt0_t131.ex I_m_mdt0_t131 (X_t132 0)
                have I_m_mdt127_t132 := I_m_mdt127_t131.flat X_t132
                have u_m_mdt127_t132 := u_m_mdt127_t131.ex I_m_mdt127_t131 (X_t132 0)
                have pe_t132 : m_pe t132 = m_pe t0 := j_t132.2.2.2.2.trans pe_t131
                refine Ok_ret (show Ok _ _ _ from ?_)
                refine Ok_ret (show Ok _ _ _ from ?_)
                refine Hv_mk (Kv_c (x := (18, m_md t0, 0)) rfl (Kv_c (x := (25, n, 0)) rfl hK)) (C_t132.1.2.2.2.2.2.2 hTt) C_t132 hT (by omega) (by omega) (by omega) ?_ ?_ ?_ (by omega) ?_ ?_ ?_
                · exact ⟨(Io_n (by decide) (by decide) I_m_mdt0_t132.1 I_m_mdt0_t132.2.1 I_m_mdt0_t132.2.2.1 (fun q => absurd q (by decide)) (fun q => absurd q (by decide)) I_m_mdt0_t132.2.2.2), (Nd_0 (by decide) Mo_nil), ⟨(Io_n (by decide) (by decide) I_n_t132.1 I_n_t132.2.1 I_n_t132.2.2.1 (fun q => absurd q (by decide)) (fun q => absurd q (by decide)) I_n_t132.2.2.2), (Nd_0 (by decide) (Mo_cons (fun q => show n ≤ m_md t0 from by omega) Mo_nil)), Stk_step (N := n) (pop := (24, n, t)) (new := [(25, n, 0), (18, m_md t0, 0)]) F0 C_t132.1.to2 (fun (h : nk 24 = false) => absurd h (by decide)) (fun q _ h => h (24, n, t) rfl) (fun _ => rfl) (fun y hy hk => ⟨rfl, (Mo_cons (fun q => show n ≤ n from by omega) (Mo_cons (fun q => show n ≤ m_md t0 from by omega) Mo_nil)) y hy hk⟩) (fun (h : 24 = 3 ∨ 24 = 18 ∨ 24 = 41) => absurd h (by decide)) (fun (h : 24 = 18) => absurd h (by decide)) (fun (h : 24 = 41 ∨ 24 = 42 ∨ 24 = 43) => absurd h (by decide)) r [] (fun y hy => absurd hy List.not_mem_nil) hS⟩⟩
                · exact (Aj_up (x := (18, m_md t0, 0)) (Aj_sub (y := (25, n, 0)) hJ (Nat.le_of_ble_eq_true rfl)) (Or.inl (Nat.le_of_ble_eq_true rfl)))
                · show m_dp t132 = (dlt 18 + (dlt 25 + sD r))
                  have : dlt 18 = 0 := rfl; have : dlt 24 = 1 := rfl; have : dlt 25 = 1 := rfl; omega
                · show m_rw t132 = (rho 18 + (rho 25 + sR r))
                  have : rho 18 = 0 := rfl; have : rho 24 = 1 := rfl; have : rho 25 = 1 := rfl; omega
                · show m_md t132 + (mu7 18 + (mu7 25 + sM r)) ≤ 3 * m_at t132 + 7 * (r.length + 1 + 1) + 10
                  have : mu7 18 = 5 := rfl; have : mu7 24 = 4 := rfl; have : mu7 25 = 4 := rfl; omega
                · show (wt 18 + (wt 25 + sW r)) + 6 * (4096 - m_at t132) + 4 * (600 - (r.length + 1 + 1)) < (wt 24 + sW r) + 6 * (4096 - m_at t0) + 4 * (600 - (r.length + 1))
                  have : wt 18 = 0 := rfl; have : wt 24 = 0 := rfl; have : wt 25 = 1 := rfl; omega
              · try unfold lp_X6_param_339
                refine Kp_push C_t127 (by omega) (fun t133 C_t133 X_t133 a_t133 b_t133 d_t133 w_t133 u_t133 v_t133 j_t133 l_t133 => ?_)
                have e_t133 := C_t133.2.2.2.1
                rw [a_t127] at a_t133
                rw [b_t127] at b_t133
                rw [d_t127] at d_t133
                rw [w_t127] at w_t133
                rw [u_t127] at u_t133
                rw [v_t127] at v_t133
                clear d_t127 w_t127 u_t127 v_t127 e_t127 a_t127 b_t127
                have I_n_t133 := I_n_t127.flat X_t133
                have f_n_t133 := f_n_t127.ex I_n_t127 (X_t133 0)
                have I_m_mdt0_t133 := I_m_mdt0_t127.flat X_t133
                have u_m_mdt0_t133 := u_m_mdt0_t127.ex I_m_mdt0_t127 (X_t133 0)
                have pe_t133 : m_pe t133 = m_pe t0 := j_t133.2.2.2.2.trans pe_t127
                refine Ok_ret (show Ok _ _ _ from ?_)
                refine Ok_ret (show Ok _ _ _ from ?_)
                refine Hv_mk (Kv_c (x := (18, m_md t0, 0)) rfl (Kv_c (x := (25, n, 0)) rfl hK)) (C_t133.1.2.2.2.2.2.2 hTt) C_t133 hT (by omega) (by omega) (by omega) ?_ ?_ ?_ (by omega) ?_ ?_ ?_
                · exact ⟨(Io_n (by decide) (by decide) I_m_mdt0_t133.1 I_m_mdt0_t133.2.1 I_m_mdt0_t133.2.2.1 (fun q => absurd q (by decide)) (fun q => absurd q (by decide)) I_m_mdt0_t133.2.2.2), (Nd_0 (by decide) Mo_nil), ⟨(Io_n (by decide) (by decide) I_n_t133.1 I_n_t133.2.1 I_n_t133.2.2.1 (fun q => absurd q (by decide)) (fun q => absurd q (by decide)) I_n_t133.2.2.2), (Nd_0 (by decide) (Mo_cons (fun q => show n ≤ m_md t0 from by omega) Mo_nil)), Stk_step (N := n) (pop := (24, n, t)) (new := [(25, n, 0), (18, m_md t0, 0)]) F0 C_t133.1.to2 (fun (h : nk 24 = false) => absurd h (by decide)) (fun q _ h => h (24, n, t) rfl) (fun _ => rfl) (fun y hy hk => ⟨rfl, (Mo_cons (fun q => show n ≤ n from by omega) (Mo_cons (fun q => show n ≤ m_md t0 from by omega) Mo_nil)) y hy hk⟩) (fun (h : 24 = 3 ∨ 24 = 18 ∨ 24 = 41) => absurd h (by decide)) (fun (h : 24 = 18) => absurd h (by decide)) (fun (h : 24 = 41 ∨ 24 = 42 ∨ 24 = 43) => absurd h (by decide)) r [] (fun y hy => absurd hy List.not_mem_nil) hS⟩⟩
                · exact (Aj_up (x := (18, m_md t0, 0)) (Aj_sub (y := (25, n, 0)) hJ (Nat.le_of_ble_eq_true rfl)) (Or.inl (Nat.le_of_ble_eq_true rfl)))
                · show m_dp t133 = (dlt 18 + (dlt 25 + sD r))
                  have : dlt 18 = 0 := rfl; have : dlt 24 = 1 := rfl; have : dlt 25 = 1 := rfl; omega
                · show m_rw t133 = (rho 18 + (rho 25 + sR r))
                  have : rho 18 = 0 := rfl; have : rho 24 = 1 := rfl; have : rho 25 = 1 := rfl; omega
                · show m_md t133 + (mu7 18 + (mu7 25 + sM r)) ≤ 3 * m_at t133 + 7 * (r.length + 1 + 1) + 10
                  have : mu7 18 = 5 := rfl; have : mu7 24 = 4 := rfl; have : mu7 25 = 4 := rfl; omega
                · show (wt 18 + (wt 25 + sW r)) + 6 * (4096 - m_at t133) + 4 * (600 - (r.length + 1 + 1)) < (wt 24 + sW r) + 6 * (4096 - m_at t0) + 4 * (600 - (r.length + 1))
                  have : wt 18 = 0 := rfl; have : wt 24 = 0 := rfl; have : wt 25 = 1 := rfl; omega
      · try unfold lp_X6_param_169
        refine Ok_ifz0 ?_
        try unfold lp_X6_param_193
        refine Kp_error C_t0 (by omega) (fun t134 C_t134 X_t134 a_t134 b_t134 d_t134 w_t134 u_t134 v_t134 j_t134 l_t134 => ?_)
        have wb_t134 := w_t134.2
        have w_t134 := Nat.pos_of_ne_zero w_t134.1
        have e_t134 := C_t134.2.2.2.1
        have I_n_t134 := I_n_t0.flat X_t134
        have pe_t134 : m_pe t134 = m_pe t0 := j_t134.2.2.2.2
        refine Ok_ret (show Ok _ _ _ from ?_)
        refine Ok_ret (show Ok _ _ _ from ?_)
        exact Or.inl ⟨Nat.ne_of_gt (show 0 < m_wr t134 from by omega), by omega, by omega, C_t134.2.2.2.2.2, by omega⟩

