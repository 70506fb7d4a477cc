/-! The steps of the reference, one by one. -/
theorem S_54_o {t0 : Mm} {n t : Nat} {r : List It} (H : Hp t0 (54, n, t) r) {E : Mm → Prop} (hk0 : lo t0 (m_at t0) ≠ 13) (hk1 : lo t0 (m_at t0) ≠ 33) (hk2 : lo t0 (m_at t0) ≠ 34) (hk3 : lo t0 (m_at t0) ≠ 20) : Ok (Qh (mz t0 ((54, n, t) :: r))) E (b_X6_step 54 n t t0) := by
  obtain ⟨hK, hT, hc, hw0, ha, hC, hS, hJ, hdp, hdl, hrw, hmd, htd, hln, hm16, hI, hD, hTt⟩ := Hp_out H
  have C_t0 := hC n
  have F0 := C_t0.2.1
  have I_n_t0 : Nq t0 n := ⟨(hI.2.1 rfl).1, (hI.2.1 rfl).2.1, (hI.2.1 rfl).2.2, hI.2.2.2 rfl⟩
  have m_n_t0 := I_n_t0.1
  have ht : t < 4096 := hI.1.1 (show 54 ≠ 42 by decide) (show 54 ≠ 48 by decide)
  have hdp : m_dp t0 = dlt 54 + sD r := hdp
  have hrw : m_rw t0 = rho 54 + sR r := hrw
  have hmd : m_md t0 + mu7 54 + sM r ≤ 3 * m_at t0 + 7 * r.length + 17 := hmd
  have hand : t &&& 1 ≤ 1 := Nat.and_le_right
  have h01 : (0 &&& 1 : Nat) = 0 := rfl
  have h02 : (1 : Nat) * 256 = 256 := rfl
  have hq1 : dlt 54 = 0 := rfl
  have hq2 : rho 54 = 0 := rfl
  have hq3 : mu7 54 = 7 := rfl
  unfold b_X6_step
  refine Ok_ifl (by decide) (by decide) (fun _ => ?_) (fun q => absurd (by decide) q)
  refine Ok_ifl (by decide) (by decide) (fun q => absurd q (by decide)) (fun _ => ?_)
  refine Ok_ifl (by decide) (by decide) (fun q => absurd q (by decide)) (fun _ => ?_)
  refine Ok_ifl (by decide) (by decide) (fun q => absurd q (by decide)) (fun _ => ?_)
  refine Ok_bnc ?_
  try unfold b_X6_stating
  refine Ok_ck (by decide) ?_
  refine Ok_ife (by decide) (by decide) (fun q => absurd q (by decide)) (fun _ => ?_)
  refine Ok_ife (by decide) (by decide) (fun q => absurd q (by decide)) (fun _ => ?_)
  refine Ok_ife (by decide) (by decide) (fun q => absurd q (by decide)) (fun _ => ?_)
  refine Ok_ife (by decide) (by decide) (fun q => absurd q (by decide)) (fun _ => ?_)
  refine Ok_ife (by decide) (by decide) (fun q => absurd q (by decide)) (fun _ => ?_)
  refine Ok_ife (by decide) (by decide) (fun q => absurd q (by decide)) (fun _ => ?_)
  refine Ok_ife (by decide) (by decide) (fun q => absurd q (by decide)) (fun _ => ?_)
  refine Ok_ife (by decide) (by decide) (fun q => absurd q (by decide)) (fun _ => ?_)
  refine Ok_ife (by decide) (by decide) (fun q => absurd q (by decide)) (fun _ => ?_)
  refine Ok_ife (by decide) (by decide) (fun q => absurd q (by decide)) (fun _ => ?_)
  refine Ok_ife (by decide) (by decide) (fun q => absurd q (by decide)) (fun _ => ?_)
  refine Ok_ife (by decide) (by decide) (fun q => absurd q (by decide)) (fun _ => ?_)
  refine Ok_ife (by decide) (by decide) (fun q => absurd q (by decide)) (fun _ => ?_)
  refine Ok_ife (by decide) (by decide) (fun _ => ?_) (fun q => absurd (by decide) q)
  refine Ok_bnc ?_
  try unfold b_X6_tops
  refine Ok_ifl (show m_at t0 < 2147483648 from by omega) (show m_ct t0 < 2147483648 from by omega) (fun q3 => ?_) (fun q3 => ?_)
  · refine Kp_look C_t0 hT (by omega) ?_
    refine Kp_push C_t0 (by omega) (fun t4 C_t4 X_t4 a_t4 b_t4 d_t4 w_t4 u_t4 v_t4 j_t4 l_t4 => ?_)
    have e_t4 := C_t4.2.2.2.1
    have I_n_t4 := I_n_t0.flat X_t4
    refine Ok_ife (Nat.lt_trans (lo_lt (C_t0.tk hT) _) (by decide)) (by decide) (fun q => absurd q hk0) (fun q => ?_)
    refine Ok_ife (Nat.lt_trans (lo_lt (C_t0.tk hT) _) (by decide)) (by decide) (fun q => absurd q hk1) (fun q => ?_)
    refine Ok_ife (Nat.lt_trans (lo_lt (C_t0.tk hT) _) (by decide)) (by decide) (fun q => absurd q hk2) (fun q => ?_)
    refine Ok_ife (Nat.lt_trans (lo_lt (C_t0.tk hT) _) (by decide)) (by decide) (fun q => absurd q hk3) (fun q => ?_)
    refine Kp_error C_t4 (by omega) (fun t5 C_t5 X_t5 a_t5 b_t5 d_t5 w_t5 u_t5 v_t5 j_t5 l_t5 => ?_)
    have wb_t5 := w_t5.2
    have w_t5 := Nat.pos_of_ne_zero w_t5.1
    have e_t5 := C_t5.2.2.2.1
    have I_n_t5 := I_n_t4.flat X_t5
    refine Ok_ret (show Ok _ _ _ from ?_)
    refine Ok_ret (show Ok _ _ _ from ?_)
    exact Or.inl ⟨Nat.ne_of_gt (show 0 < m_wr t5 from by omega), by omega, by omega, C_t5.2.2.2.2.2, by omega⟩
  · refine Ok_ret (show Ok _ _ _ from ?_)
    refine Ok_ret (show Ok _ _ _ from ?_)
    refine Hv_mk hK (C_t0.1.2.2.2.2.2.2 hTt) C_t0 hT (by omega) (by omega) (by omega) ?_ ?_ ?_ (by omega) ?_ ?_ ?_
    · exact Stk_step (N := n) (pop := (54, n, t)) (new := []) F0 C_t0.1.to2 (fun (h : nk 54 = false) => absurd h (by decide)) (fun q _ h => h (54, n, t) rfl) (fun _ => rfl) (fun y hy hk => ⟨rfl, Mo_nil (n := n) y hy hk⟩) (fun (h : 54 = 3 ∨ 54 = 18 ∨ 54 = 41) => absurd h (by decide)) (fun (h : 54 = 18) => absurd h (by decide)) (fun (h : 54 = 41 ∨ 54 = 42 ∨ 54 = 43) => absurd h (by decide)) r [] (fun y hy => absurd hy List.not_mem_nil) hS
    · exact Aj_tl hJ
    · show m_dp t0 = sD r
      have : dlt 54 = 0 := rfl; omega
    · show m_rw t0 = sR r
      have : rho 54 = 0 := rfl; omega
    · show m_md t0 + sM r ≤ 3 * m_at t0 + 7 * (r.length) + 10
      have : mu7 54 = 7 := rfl; omega
    · show sW r + 6 * (4096 - m_at t0) + 4 * (600 - (r.length)) < (wt 54 + sW r) + 6 * (4096 - m_at t0) + 4 * (600 - (r.length + 1))
      have : wt 54 = 5 := rfl; omega

theorem S_54 {t0 : Mm} {n t : Nat} {r : List It} (H : Hp t0 (54, n, t) r) {E : Mm → Prop} : Ok (Qh (mz t0 ((54, n, t) :: r))) E (b_X6_step 54 n t t0) := by
  by_cases h13 : lo t0 (m_at t0) = 13
  · exact S_54_t13 H h13
  by_cases h33 : lo t0 (m_at t0) = 33
  · exact S_54_t33 H h33
  by_cases h34 : lo t0 (m_at t0) = 34
  · exact S_54_t34 H h34
  by_cases h20 : lo t0 (m_at t0) = 20
  · exact S_54_t20 H h20
  exact S_54_o H h13 h33 h34 h20

theorem S_55 {t0 : Mm} {n t : Nat} {r : List It} (H : Hp t0 (55, n, t) r) {E : Mm → Prop} : Ok (Qh (mz t0 ((55, n, t) :: r))) E (b_X6_step 55 n t t0) := by
  obtain ⟨hK, hT, hc, hw0, ha, hC, hS, hJ, hdp, hdl, hrw, hmd, htd, hln, hm16, hI, hD, hTt⟩ := Hp_out H
  have C_t0 := hC n
  have F0 := C_t0.2.1
  have I_n_t0 : Nq t0 n := ⟨(hI.2.1 rfl).1, (hI.2.1 rfl).2.1, (hI.2.1 rfl).2.2, hI.2.2.2 rfl⟩
  have m_n_t0 := I_n_t0.1
  have ht : t < 4096 := hI.1.1 (show 55 ≠ 42 by decide) (show 55 ≠ 48 by decide)
  have hdp : m_dp t0 = dlt 55 + sD r := hdp
  have hrw : m_rw t0 = rho 55 + sR r := hrw
  have hmd : m_md t0 + mu7 55 + sM r ≤ 3 * m_at t0 + 7 * r.length + 17 := hmd
  have hand : t &&& 1 ≤ 1 := Nat.and_le_right
  have h01 : (0 &&& 1 : Nat) = 0 := rfl
  have h02 : (1 : Nat) * 256 = 256 := rfl
  have hq1 : dlt 55 = 0 := rfl
  have hq2 : rho 55 = 0 := rfl
  have hq3 : mu7 55 = 4 := rfl
  unfold b_X6_step
  refine Ok_ifl (by decide) (by decide) (fun _ => ?_) (fun q => absurd (by decide) q)
  refine Ok_ifl (by decide) (by decide) (fun q => absurd q (by decide)) (fun _ => ?_)
  refine Ok_ifl (by decide) (by decide) (fun q => absurd q (by decide)) (fun _ => ?_)
  refine Ok_ifl (by decide) (by decide) (fun q => absurd q (by decide)) (fun _ => ?_)
  refine Ok_bnc ?_
  try unfold b_X6_stating
  refine Ok_ck (by decide) ?_
  refine Ok_ife (by decide) (by decide) (fun q => absurd q (by decide)) (fun _ => ?_)
  refine Ok_ife (by decide) (by decide) (fun q => absurd q (by decide)) (fun _ => ?_)
  refine Ok_ife (by decide) (by decide) (fun q => absurd q (by decide)) (fun _ => ?_)
  refine Ok_ife (by decide) (by decide) (fun q => absurd q (by decide)) (fun _ => ?_)
  refine Ok_ife (by decide) (by decide) (fun q => absurd q (by decide)) (fun _ => ?_)
  refine Ok_ife (by decide) (by decide) (fun q => absurd q (by decide)) (fun _ => ?_)
  refine Ok_ife (by decide) (by decide) (fun q => absurd q (by decide)) (fun _ => ?_)
  refine Ok_ife (by decide) (by decide) (fun q => absurd q (by decide)) (fun _ => ?_)
  refine Ok_ife (by decide) (by decide) (fun q => absurd q (by decide)) (fun _ => ?_)
  refine Ok_ife (by decide) (by decide) (fun q => absurd q (by decide)) (fun _ => ?_)
  refine Ok_ife (by decide) (by decide) (fun q => absurd q (by decide)) (fun _ => ?_)
  refine Ok_ife (by decide) (by decide) (fun q => absurd q (by decide)) (fun _ => ?_)
  refine Ok_ife (by decide) (by decide) (fun q => absurd q (by decide)) (fun _ => ?_)
  refine Ok_ife (by decide) (by decide) (fun q => absurd q (by decide)) (fun _ => ?_)
  refine Ok_ife (by decide) (by decide) (fun _ => ?_) (fun q => absurd (by decide) q)
  refine Kp_pass C_t0 hT (by omega) (by decide) (by omega) (fun t2 C_t2 X_t2 a_t2 b_t2 d_t2 w_t2 u_t2 v_t2 j_t2 l_t2 => ?_)
  have e_t2 := C_t2.2.2.2.1
  rcases w_t2 with ⟨w_t2, y_t2⟩ | ⟨w_t2, wb_t2⟩
  · have z_t2 : m_at t0 < m_ct t0 := lo_ne (Nat.ne_of_gt (show 0 < lo t0 (m_at t0) from by omega))
    have I_n_t2 := I_n_t0.flat X_t2
    refine Kp_push C_t2 (by omega) (fun t3 C_t3 X_t3 a_t3 b_t3 d_t3 w_t3 u_t3 v_t3 j_t3 l_t3 => ?_)
    have e_t3 := C_t3.2.2.2.1
    rw [a_t2] at a_t3
    rw [b_t2] at b_t3
    rw [d_t2] at d_t3
    rw [w_t2] at w_t3
    rw [u_t2] at u_t3
    rw [v_t2] at v_t3
    clear d_t2 w_t2 u_t2 v_t2 e_t2 a_t2 b_t2
    have I_n_t3 := I_n_t2.flat X_t3
    refine Ok_ret (show Ok _ _ _ from ?_)
    refine Hv_mk (Kv_c (x := (54, n, 0)) rfl hK) (C_t3.1.2.2.2.2.2.2 hTt) C_t3 hT (by omega) (by omega) (by omega) ?_ ?_ ?_ (by omega) ?_ ?_ ?_
    · exact ⟨(Io_n (by decide) (by decide) I_n_t3.1 I_n_t3.2.1 I_n_t3.2.2.1 (fun q => absurd q (by decide)) (fun q => absurd q (by decide)) I_n_t3.2.2.2), (Nd_0 (by decide) Mo_nil), Stk_step (N := n) (pop := (55, n, t)) (new := [(54, n, 0)]) F0 C_t3.1.to2 (fun (h : nk 55 = false) => absurd h (by decide)) (fun q _ h => h (55, n, t) rfl) (fun _ => rfl) (fun y hy hk => ⟨rfl, (Mo_cons (fun q => show n ≤ n from by omega) Mo_nil) y hy hk⟩) (fun (h : 55 = 3 ∨ 55 = 18 ∨ 55 = 41) => absurd h (by decide)) (fun (h : 55 = 18) => absurd h (by decide)) (fun (h : 55 = 41 ∨ 55 = 42 ∨ 55 = 43) => absurd h (by decide)) r [] (fun y hy => absurd hy List.not_mem_nil) hS⟩
    · exact (Aj_sub (y := (54, n, 0)) hJ (Nat.le_of_ble_eq_true rfl))
    · show m_dp t3 = (dlt 54 + sD r)
      have : dlt 54 = 0 := rfl; have : dlt 55 = 0 := rfl; omega
    · show m_rw t3 = (rho 54 + sR r)
      have : rho 54 = 0 := rfl; have : rho 55 = 0 := rfl; omega
    · show m_md t3 + (mu7 54 + sM r) ≤ 3 * m_at t3 + 7 * (r.length + 1) + 10
      have : mu7 54 = 7 := rfl; have : mu7 55 = 4 := rfl; omega
    · show (wt 54 + sW r) + 6 * (4096 - m_at t3) + 4 * (600 - (r.length + 1)) < (wt 55 + sW r) + 6 * (4096 - m_at t0) + 4 * (600 - (r.length + 1))
      have : wt 54 = 5 := rfl; have : wt 55 = 0 := rfl; omega
  · have w_t2 := Nat.pos_of_ne_zero w_t2
    have I_n_t2 := I_n_t0.flat X_t2
    refine Kp_push C_t2 (by omega) (fun t4 C_t4 X_t4 a_t4 b_t4 d_t4 w_t4 u_t4 v_t4 j_t4 l_t4 => ?_)
    have e_t4 := C_t4.2.2.2.1
    have I_n_t4 := I_n_t2.flat X_t4
    refine Ok_ret (show Ok _ _ _ from ?_)
    exact Or.inl ⟨Nat.ne_of_gt (show 0 < m_wr t4 from by omega), by omega, by omega, C_t4.2.2.2.2.2, by omega⟩

theorem S_57 {t0 : Mm} {n t : Nat} {r : List It} (H : Hp t0 (57, n, t) r) {E : Mm → Prop} : Ok (Qh (mz t0 ((57, n, t) :: r))) E (b_X6_step 57 n t t0) := by
  obtain ⟨hK, hT, hc, hw0, ha, hC, hS, hJ, hdp, hdl, hrw, hmd, htd, hln, hm16, hI, hD, hTt⟩ := Hp_out H
  have C_t0 := hC n
  have F0 := C_t0.2.1
  have I_n_t0 : Nq t0 n := ⟨(hI.2.1 rfl).1, (hI.2.1 rfl).2.1, (hI.2.1 rfl).2.2, hI.2.2.2 rfl⟩
  have m_n_t0 := I_n_t0.1
  have ht : t < 4096 := hI.1.1 (show 57 ≠ 42 by decide) (show 57 ≠ 48 by decide)
  have hdp : m_dp t0 = dlt 57 + sD r := hdp
  have hrw : m_rw t0 = rho 57 + sR r := hrw
  have hmd : m_md t0 + mu7 57 + sM r ≤ 3 * m_at t0 + 7 * r.length + 17 := hmd
  have hand : t &&& 1 ≤ 1 := Nat.and_le_right
  have h01 : (0 &&& 1 : Nat) = 0 := rfl
  have h02 : (1 : Nat) * 256 = 256 := rfl
  have hq1 : dlt 57 = 0 := rfl
  have hq2 : rho 57 = 0 := rfl
  have hq3 : mu7 57 = 5 := rfl
  unfold b_X6_step
  refine Ok_ifl (by decide) (by decide) (fun _ => ?_) (fun q => absurd (by decide) q)
  refine Ok_ifl (by decide) (by decide) (fun q => absurd q (by decide)) (fun _ => ?_)
  refine Ok_ifl (by decide) (by decide) (fun q => absurd q (by decide)) (fun _ => ?_)
  refine Ok_ifl (by decide) (by decide) (fun q => absurd q (by decide)) (fun _ => ?_)
  refine Ok_bnc ?_
  try unfold b_X6_stating
  refine Ok_ck (by decide) ?_
  refine Ok_ife (by decide) (by decide) (fun q => absurd q (by decide)) (fun _ => ?_)
  refine Ok_ife (by decide) (by decide) (fun q => absurd q (by decide)) (fun _ => ?_)
  refine Ok_ife (by decide) (by decide) (fun q => absurd q (by decide)) (fun _ => ?_)
  refine Ok_ife (by decide) (by decide) (fun q => absurd q (by decide)) (fun _ => ?_)
  refine Ok_ife (by decide) (by decide) (fun q => absurd q (by decide)) (fun _ => ?_)
  refine Ok_ife (by decide) (by decide) (fun q => absurd q (by decide)) (fun _ => ?_)
  refine Ok_ife (by decide) (by decide) (fun q => absurd q (by decide)) (fun _ => ?_)
  refine Ok_ife (by decide) (by decide) (fun q => absurd q (by decide)) (fun _ => ?_)
  refine Ok_ife (by decide) (by decide) (fun q => absurd q (by decide)) (fun _ => ?_)
  refine Ok_ife (by decide) (by decide) (fun q => absurd q (by decide)) (fun _ => ?_)
  refine Ok_ife (by decide) (by decide) (fun q => absurd q (by decide)) (fun _ => ?_)
  refine Ok_ife (by decide) (by decide) (fun q => absurd q (by decide)) (fun _ => ?_)
  refine Ok_ife (by decide) (by decide) (fun q => absurd q (by decide)) (fun _ => ?_)
  refine Ok_ife (by decide) (by decide) (fun q => absurd q (by decide)) (fun _ => ?_)
  refine Ok_ife (by decide) (by decide) (fun q => absurd q (by decide)) (fun _ => ?_)
  refine Ok_ife (by decide) (by decide) (fun q => absurd q (by decide)) (fun _ => ?_)
  refine Ok_ife (by decide) (by decide) (fun _ => ?_) (fun q => absurd (by decide) q)
  refine Ok_bnc ?_
  try unfold b_X6_name
  refine Kp_look C_t0 hT (by omega) ?_
  refine Ok_ife (Nat.lt_trans (lo_lt (C_t0.tk hT) _) (by decide)) (by decide) (fun q3 => ?_) (fun q3 => ?_)
  · refine Kp_child C_t0 I_n_t0.1 I_n_t0.2.1 I_n_t0.2.2.1 (by omega) (by omega) (by decide) (by decide) (fun t4 C_t4 X_t4 a_t4 b_t4 d_t4 w_t4 u_t4 v_t4 j_t4 l_t4 => ?_)
    have e_t4 := C_t4.2.2.2.1
    have I_n_t4 := I_n_t0.chd X_t4 j_t4
    have f_n_t4 : Fz t4 n := j_t4.2.2.2.2.1
    have I_m_mdt0_t4 : Nq t4 (m_md t0) := Nq.chn j_t4 (by omega) I_n_t0 (by decide)
    have u_m_mdt0_t4 : Up t4 (m_md t0) := Or.inl j_t4.2.1
    have z_t5 : m_at t4 < m_ct t4 := lo_ne (Nat.ne_of_gt (show 0 < lo t4 (m_at t4) from by omega))
    refine Kp_at C_t4 (fun t5 C_t5 X_t5 a_t5 b_t5 d_t5 w_t5 u_t5 v_t5 j_t5 l_t5 => ?_)
    have e_t5 := C_t5.2.2.2.1
    rw [a_t4] at a_t5
    rw [b_t4] at b_t5
    rw [d_t4] at d_t5
    rw [w_t4] at w_t5
    rw [u_t4] at u_t5
    rw [v_t4] at v_t5
    rw [a_t4, e_t4] at z_t5
    clear d_t4 w_t4 u_t4 v_t4 e_t4 a_t4 b_t4
    have I_n_t5 := I_n_t4.flat X_t5
    have f_n_t5 := f_n_t4.ex I_n_t4 (X_t5 0)
    have I_m_mdt0_t5 := I_m_mdt0_t4.flat X_t5
    have u_m_mdt0_t5 := u_m_mdt0_t4.ex I_m_mdt0_t4 (X_t5 0)
    refine Ok_ret (show Ok _ _ _ from ?_)
    refine Ok_ret (show Ok _ _ _ from ?_)
    refine Hv_mk hK (C_t5.1.2.2.2.2.2.2 hTt) C_t5 hT (by omega) (by omega) (by omega) ?_ ?_ ?_ (by omega) ?_ ?_ ?_
    · exact Stk_step (N := n) (pop := (57, n, t)) (new := []) F0 C_t5.1.to2 (fun (h : nk 57 = false) => absurd h (by decide)) (fun q _ h => h (57, n, t) rfl) (fun _ => rfl) (fun y hy hk => ⟨rfl, Mo_nil (n := n) y hy hk⟩) (fun (h : 57 = 3 ∨ 57 = 18 ∨ 57 = 41) => absurd h (by decide)) (fun (h : 57 = 18) => absurd h (by decide)) (fun (h : 57 = 41 ∨ 57 = 42 ∨ 57 = 43) => absurd h (by decide)) r [] (fun y hy => absurd hy List.not_mem_nil) hS
    · exact Aj_tl hJ
    · show m_dp t5 = sD r
      have : dlt 57 = 0 := rfl; omega
    · show m_rw t5 = sR r
      have : rho 57 = 0 := rfl; omega
    · show m_md t5 + sM r ≤ 3 * m_at t5 + 7 * (r.length) + 10
      have : mu7 57 = 5 := rfl; omega
    · show sW r + 6 * (4096 - m_at t5) + 4 * (600 - (r.length)) < (wt 57 + sW r) + 6 * (4096 - m_at t0) + 4 * (600 - (r.length + 1))
      have : wt 57 = 0 := rfl; omega
  · refine Kp_error C_t0 (by omega) (fun t6 C_t6 X_t6 a_t6 b_t6 d_t6 w_t6 u_t6 v_t6 j_t6 l_t6 => ?_)
    have wb_t6 := w_t6.2
    have w_t6 := Nat.pos_of_ne_zero w_t6.1
    have e_t6 := C_t6.2.2.2.1
    have I_n_t6 := I_n_t0.flat X_t6
    refine Kp_child C_t6 I_n_t6.1 I_n_t6.2.1 I_n_t6.2.2.1 (by omega) (by omega) (by decide) (by decide) (fun t7 C_t7 X_t7 a_t7 b_t7 d_t7 w_t7 u_t7 v_t7 j_t7 l_t7 => ?_)
    have e_t7 := C_t7.2.2.2.1
    have I_n_t7 := I_n_t6.chd X_t7 j_t7
    have f_n_t7 : Fz t7 n := j_t7.2.2.2.2.1
    have I_m_mdt6_t7 : Nq t7 (m_md t6) := Nq.chn j_t7 (by omega) I_n_t6 (by decide)
    have u_m_mdt6_t7 : Up t7 (m_md t6) := Or.inl j_t7.2.1
    refine Kp_at C_t7 (fun t8 C_t8 X_t8 a_t8 b_t8 d_t8 w_t8 u_t8 v_t8 j_t8 l_t8 => ?_)
    have e_t8 := C_t8.2.2.2.1
    have I_n_t8 := I_n_t7.flat X_t8
    have f_n_t8 := f_n_t7.ex I_n_t7 (X_t8 0)
    have I_m_mdt6_t8 := I_m_mdt6_t7.flat X_t8
    have u_m_mdt6_t8 := u_m_mdt6_t7.ex I_m_mdt6_t7 (X_t8 0)
    refine Ok_ret (show Ok _ _ _ from ?_)
    refine Ok_ret (show Ok _ _ _ from ?_)
    exact Or.inl ⟨Nat.ne_of_gt (show 0 < m_wr t8 from by omega), by omega, by omega, C_t8.2.2.2.2.2, by omega⟩

theorem S_58 {t0 : Mm} {n t : Nat} {r : List It} (H : Hp t0 (58, n, t) r) {E : Mm → Prop} : Ok (Qh (mz t0 ((58, n, t) :: r))) E (b_X6_step 58 n t t0) := by
  obtain ⟨hK, hT, hc, hw0, ha, hC, hS, hJ, hdp, hdl, hrw, hmd, htd, hln, hm16, hI, hD, hTt⟩ := Hp_out H
  have C_t0 := hC n
  have F0 := C_t0.2.1
  have I_n_t0 : Nq t0 n := ⟨(hI.2.1 rfl).1, (hI.2.1 rfl).2.1, (hI.2.1 rfl).2.2, hI.2.2.2 rfl⟩
  have m_n_t0 := I_n_t0.1
  have ht : t < 4096 := hI.1.1 (show 58 ≠ 42 by decide) (show 58 ≠ 48 by decide)
  have hdp : m_dp t0 = dlt 58 + sD r := hdp
  have hrw : m_rw t0 = rho 58 + sR r := hrw
  have hmd : m_md t0 + mu7 58 + sM r ≤ 3 * m_at t0 + 7 * r.length + 17 := hmd
  have hand : t &&& 1 ≤ 1 := Nat.and_le_right
  have h01 : (0 &&& 1 : Nat) = 0 := rfl
  have h02 : (1 : Nat) * 256 = 256 := rfl
  have hq1 : dlt 58 = 0 := rfl
  have hq2 : rho 58 = 0 := rfl
  have hq3 : mu7 58 = 7 := rfl
  unfold b_X6_step
  refine Ok_ifl (by decide) (by decide) (fun _ => ?_) (fun q => absurd (by decide) q)
  refine Ok_ifl (by decide) (by decide) (fun q => absurd q (by decide)) (fun _ => ?_)
  refine Ok_ifl (by decide) (by decide) (fun q => absurd q (by decide)) (fun _ => ?_)
  refine Ok_ifl (by decide) (by decide) (fun q => absurd q (by decide)) (fun _ => ?_)
  refine Ok_bnc ?_
  try unfold b_X6_stating
  refine Ok_ck (by decide) ?_
  refine Ok_ife (by decide) (by decide) (fun q => absurd q (by decide)) (fun _ => ?_)
  refine Ok_ife (by decide) (by decide) (fun q => absurd q (by decide)) (fun _ => ?_)
  refine Ok_ife (by decide) (by decide) (fun q => absurd q (by decide)) (fun _ => ?_)
  refine Ok_ife (by decide) (by decide) (fun q => absurd q (by decide)) (fun _ => ?_)
  refine Ok_ife (by decide) (by decide) (fun q => absurd q (by decide)) (fun _ => ?_)
  refine Ok_ife (by decide) (by decide) (fun q => absurd q (by decide)) (fun _ => ?_)
  refine Ok_ife (by decide) (by decide) (fun q => absurd q (by decide)) (fun _ => ?_)
  refine Ok_ife (by decide) (by decide) (fun q => absurd q (by decide)) (fun _ => ?_)
  refine Ok_ife (by decide) (by decide) (fun q => absurd q (by decide)) (fun _ => ?_)
  refine Ok_ife (by decide) (by decide) (fun q => absurd q (by decide)) (fun _ => ?_)
  refine Ok_ife (by decide) (by decide) (fun q => absurd q (by decide)) (fun _ => ?_)
  refine Ok_ife (by decide) (by decide) (fun q => absurd q (by decide)) (fun _ => ?_)
  refine Ok_ife (by decide) (by decide) (fun q => absurd q (by decide)) (fun _ => ?_)
  refine Ok_ife (by decide) (by decide) (fun q => absurd q (by decide)) (fun _ => ?_)
  refine Ok_ife (by decide) (by decide) (fun q => absurd q (by decide)) (fun _ => ?_)
  refine Ok_ife (by decide) (by decide) (fun q => absurd q (by decide)) (fun _ => ?_)
  refine Ok_ife (by decide) (by decide) (fun q => absurd q (by decide)) (fun _ => ?_)
  refine Ok_bnc ?_
  try unfold b_X6_valued
  refine Kp_look C_t0 hT (by omega) ?_
  refine Ok_ife (Nat.lt_trans (lo_lt (C_t0.tk hT) _) (by decide)) (by decide) (fun q3 => ?_) (fun q3 => ?_)
  · refine Kp_pass C_t0 hT (by omega) (by decide) (by omega) (fun t4 C_t4 X_t4 a_t4 b_t4 d_t4 w_t4 u_t4 v_t4 j_t4 l_t4 => ?_)
    have e_t4 := C_t4.2.2.2.1
    rcases w_t4 with ⟨w_t4, y_t4⟩ | ⟨w_t4, wb_t4⟩
    · have z_t4 : m_at t0 < m_ct t0 := lo_ne (Nat.ne_of_gt (show 0 < lo t0 (m_at t0) from by omega))
      have I_n_t4 := I_n_t0.flat X_t4
      refine Ok_bnc ?_
      try unfold b_X6_exprs
      refine Kp_child C_t4 I_n_t4.1 I_n_t4.2.1 I_n_t4.2.2.1 (by omega) (by omega) (by decide) (by decide) (fun t6 C_t6 X_t6 a_t6 b_t6 d_t6 w_t6 u_t6 v_t6 j_t6 l_t6 => ?_)
      have e_t6 := C_t6.2.2.2.1
      rw [a_t4] at a_t6
      rw [b_t4] at b_t6
      rw [d_t4] at d_t6
      rw [w_t4] at w_t6
      rw [u_t4] at u_t6
      rw [v_t4] at v_t6
      clear d_t4 w_t4 u_t4 v_t4 e_t4 a_t4
      have I_n_t6 := I_n_t4.chd X_t6 j_t6
      have f_n_t6 : Fz t6 n := j_t6.2.2.2.2.1
      have I_m_mdt4_t6 : Nq t6 (m_md t4) := Nq.chn j_t6 (by omega) I_n_t4 (by decide)
      have u_m_mdt4_t6 : Up t6 (m_md t4) := Or.inl j_t6.2.1
      refine Kp_push C_t6 (by omega) (fun t7 C_t7 X_t7 a_t7 b_t7 d_t7 w_t7 u_t7 v_t7 j_t7 l_t7 => ?_)
      have e_t7 := C_t7.2.2.2.1
      rw [a_t6] at a_t7
      rw [b_t6] at b_t7
      rw [d_t6] at d_t7
      rw [w_t6] at w_t7
      rw [u_t6] at u_t7
      rw [v_t6] at v_t7
      clear d_t6 w_t6 u_t6 v_t6 e_t6 a_t6 b_t6
      have I_n_t7 := I_n_t6.flat X_t7
      have f_n_t7 := f_n_t6.ex I_n_t6 (X_t7 0)
      have I_m_mdt4_t7 := I_m_mdt4_t6.flat X_t7
      have u_m_mdt4_t7 := u_m_mdt4_t6.ex I_m_mdt4_t6 (X_t7 0)
      refine Ok_bnc ?_
      try unfold b_X6_expression
      refine Kp_push C_t7 (by omega) (fun t9 C_t9 X_t9 a_t9 b_t9 d_t9 w_t9 u_t9 v_t9 j_t9 l_t9 => ?_)
      have e_t9 := C_t9.2.2.2.1
      rw [a_t7] at a_t9
      rw [b_t7] at b_t9
      rw [d_t7] at d_t9
      rw [w_t7] at w_t9
      rw [u_t7] at u_t9
      rw [v_t7] at v_t9
      clear d_t7 w_t7 u_t7 v_t7 e_t7 a_t7 b_t7
      have I_n_t9 := I_n_t7.flat X_t9
      have f_n_t9 := f_n_t7.ex I_n_t7 (X_t9 0)
      have I_m_mdt4_t9 := I_m_mdt4_t7.flat X_t9
      have u_m_mdt4_t9 := u_m_mdt4_t7.ex I_m_mdt4_t7 (X_t9 0)
      refine Kp_push C_t9 (by omega) (fun t10 C_t10 X_t10 a_t10 b_t10 d_t10 w_t10 u_t10 v_t10 j_t10 l_t10 => ?_)
      have e_t10 := C_t10.2.2.2.1
      rw [a_t9] at a_t10
      rw [b_t9] at b_t10
      rw [d_t9] at d_t10
      rw [w_t9] at w_t10
      rw [u_t9] at u_t10
      rw [v_t9] at v_t10
      clear d_t9 w_t9 u_t9 v_t9 e_t9 a_t9 b_t9
      have I_n_t10 := I_n_t9.flat X_t10
      have f_n_t10 := f_n_t9.ex I_n_t9 (X_t10 0)
      have I_m_mdt4_t10 := I_m_mdt4_t9.flat X_t10
      have u_m_mdt4_t10 := u_m_mdt4_t9.ex I_m_mdt4_t9 (X_t10 0)
      refine Ok_ret (show Ok _ _ _ from ?_)
      refine Ok_ret (show Ok _ _ _ from ?_)
      refine Ok_ret (show Ok _ _ _ from ?_)
      refine Ok_ret (show Ok _ _ _ from ?_)
      refine Hv_mk (Kv_c (x := (3, m_md t4, 0 &&& 1)) rfl (Kv_c (x := (2, m_md t4, (0 &&& 1) ||| (1 * 256))) rfl (Kv_c (x := (32, m_md t4, 0 &&& 1)) rfl hK))) (C_t10.1.2.2.2.2.2.2 hTt) C_t10 hT (by omega) (by omega) (by omega) ?_ ?_ ?_ (by omega) ?_ ?_ ?_
      · exact ⟨(Io_n (by decide) (show 0 &&& 1 < 4096 from by omega) I_m_mdt4_t10.1 I_m_mdt4_t10.2.1 I_m_mdt4_t10.2.2.1 (fun q => absurd q (by decide)) (fun q => absurd q (by decide)) I_m_mdt4_t10.2.2.2), (Nd_0 (by decide) Mo_nil), ⟨(Io_2 (by have := or_256 (b := 1) (show (0 &&& 1) < 256 from by omega); omega) (by have := or_256 (b := 1) (show (0 &&& 1) < 256 from by omega); omega) (by have := or_256 (b := 1) (show (0 &&& 1) < 256 from by omega); omega) I_m_mdt4_t10.1 I_m_mdt4_t10.2.1 I_m_mdt4_t10.2.2.1 I_m_mdt4_t10.2.2.2), (Nd_A (by decide) (Mo_cons (fun q => show m_md t4 ≤ m_md t4 from by omega) Mo_nil) (Or.inr ⟨(3, m_md t4, 0 &&& 1), List.mem_cons_self, rfl, Or.inl rfl⟩)), ⟨(Io_n (by decide) (show 0 &&& 1 < 4096 from by omega) I_m_mdt4_t10.1 I_m_mdt4_t10.2.1 I_m_mdt4_t10.2.2.1 (fun q => absurd q (by decide)) (fun q => absurd q (by decide)) I_m_mdt4_t10.2.2.2), (Nd_0 (by decide) (Mo_cons (fun q => show m_md t4 ≤ m_md t4 from by omega) (Mo_cons (fun q => show m_md t4 ≤ m_md t4 from by omega) Mo_nil))), Stk_step (N := n) (pop := (58, n, t)) (new := [(32, m_md t4, 0 &&& 1), (2, m_md t4, (0 &&& 1) ||| (1 * 256)), (3, m_md t4, 0 &&& 1)]) F0 C_t10.1.to2 (fun (h : nk 58 = false) => absurd h (by decide)) (fun q _ h => h (58, n, t) rfl) (fun _ => rfl) (fun y hy hk => ⟨rfl, (Mo_cons (fun q => show n ≤ m_md t4 from by omega) (Mo_cons (fun q => show n ≤ m_md t4 from by omega) (Mo_cons (fun q => show n ≤ m_md t4 from by omega) Mo_nil))) y hy hk⟩) (fun (h : 58 = 3 ∨ 58 = 18 ∨ 58 = 41) => absurd h (by decide)) (fun (h : 58 = 18) => absurd h (by decide)) (fun (h : 58 = 41 ∨ 58 = 42 ∨ 58 = 43) => absurd h (by decide)) r [] (fun y hy => absurd hy List.not_mem_nil) hS⟩⟩⟩
      · exact (Aj_up (x := (3, m_md t4, 0 &&& 1)) (Aj_up (x := (2, m_md t4, (0 &&& 1) ||| (1 * 256))) (Aj_sub (y := (32, m_md t4, 0 &&& 1)) hJ (Nat.le_of_ble_eq_true rfl)) (Or.inr (show 9 - ((0 &&& 1) ||| (1 * 256)) / 256 < 9 from by have := or_256 (b := 1) (show (0 &&& 1) < 256 from by omega); omega))) (Or.inr (show 2 < 9 - ((0 &&& 1) ||| (1 * 256)) / 256 from by have := or_256 (b := 1) (show (0 &&& 1) < 256 from by omega); omega)))
      · show m_dp t10 = (dlt 3 + (dlt 2 + (dlt 32 + sD r)))
        have : dlt 2 = 0 := rfl; have : dlt 3 = 0 := rfl; have : dlt 32 = 0 := rfl; have : dlt 58 = 0 := rfl; omega
      · show m_rw t10 = (rho 3 + (rho 2 + (rho 32 + sR r)))
        have : rho 2 = 0 := rfl; have : rho 3 = 0 := rfl; have : rho 32 = 0 := rfl; have : rho 58 = 0 := rfl; omega
      · show m_md t10 + (mu7 3 + (mu7 2 + (mu7 32 + sM r))) ≤ 3 * m_at t10 + 7 * (r.length + 1 + 1 + 1) + 10
        have : mu7 2 = 7 := rfl; have : mu7 3 = 5 := rfl; have : mu7 32 = 7 := rfl; have : mu7 58 = 7 := rfl; omega
      · show (wt 3 + (wt 2 + (wt 32 + sW r))) + 6 * (4096 - m_at t10) + 4 * (600 - (r.length + 1 + 1 + 1)) < (wt 58 + sW r) + 6 * (4096 - m_at t0) + 4 * (600 - (r.length + 1))
        have : wt 2 = 5 := rfl; have : wt 3 = 3 := rfl; have : wt 32 = 5 := rfl; have : wt 58 = 5 := rfl; omega
    · have w_t4 := Nat.pos_of_ne_zero w_t4
      have I_n_t4 := I_n_t0.flat X_t4
      refine Ok_bnc ?_
      try unfold b_X6_exprs
      refine Kp_child C_t4 I_n_t4.1 I_n_t4.2.1 I_n_t4.2.2.1 (by omega) (by omega) (by decide) (by decide) (fun t12 C_t12 X_t12 a_t12 b_t12 d_t12 w_t12 u_t12 v_t12 j_t12 l_t12 => ?_)
      have e_t12 := C_t12.2.2.2.1
      have I_n_t12 := I_n_t4.chd X_t12 j_t12
      have f_n_t12 : Fz t12 n := j_t12.2.2.2.2.1
      have I_m_mdt4_t12 : Nq t12 (m_md t4) := Nq.chn j_t12 (by omega) I_n_t4 (by decide)
      have u_m_mdt4_t12 : Up t12 (m_md t4) := Or.inl j_t12.2.1
      refine Kp_push C_t12 (by omega) (fun t13 C_t13 X_t13 a_t13 b_t13 d_t13 w_t13 u_t13 v_t13 j_t13 l_t13 => ?_)
      have e_t13 := C_t13.2.2.2.1
      have I_n_t13 := I_n_t12.flat X_t13
      have f_n_t13 := f_n_t12.ex I_n_t12 (X_t13 0)
      have I_m_mdt4_t13 := I_m_mdt4_t12.flat X_t13
      have u_m_mdt4_t13 := u_m_mdt4_t12.ex I_m_mdt4_t12 (X_t13 0)
      refine Ok_bnc ?_
      try unfold b_X6_expression
      refine Kp_push C_t13 (by omega) (fun t15 C_t15 X_t15 a_t15 b_t15 d_t15 w_t15 u_t15 v_t15 j_t15 l_t15 => ?_)
      have e_t15 := C_t15.2.2.2.1
      have I_n_t15 := I_n_t13.flat X_t15
      have f_n_t15 := f_n_t13.ex I_n_t13 (X_t15 0)
      have I_m_mdt4_t15 := I_m_mdt4_t13.flat X_t15
      have u_m_mdt4_t15 := u_m_mdt4_t13.ex I_m_mdt4_t13 (X_t15 0)
      refine Kp_push C_t15 (by omega) (fun t16 C_t16 X_t16 a_t16 b_t16 d_t16 w_t16 u_t16 v_t16 j_t16 l_t16 => ?_)
      have e_t16 := C_t16.2.2.2.1
      have I_n_t16 := I_n_t15.flat X_t16
      have f_n_t16 := f_n_t15.ex I_n_t15 (X_t16 0)
      have I_m_mdt4_t16 := I_m_mdt4_t15.flat X_t16
      have u_m_mdt4_t16 := u_m_mdt4_t15.ex I_m_mdt4_t15 (X_t16 0)
      refine Ok_ret (show Ok _ _ _ from ?_)
      refine Ok_ret (show Ok _ _ _ from ?_)
      refine Ok_ret (show Ok _ _ _ from ?_)
      refine Ok_ret (show Ok _ _ _ from ?_)
      exact Or.inl ⟨Nat.ne_of_gt (show 0 < m_wr t16 from by omega), by omega, by omega, C_t16.2.2.2.2.2, by omega⟩
  · refine Ok_ife (show t < 2147483648 from by omega) (by decide) (fun q17 => ?_) (fun q17 => ?_)
    · refine Kp_pass C_t0 hT (by omega) (by decide) (by omega) (fun t18 C_t18 X_t18 a_t18 b_t18 d_t18 w_t18 u_t18 v_t18 j_t18 l_t18 => ?_)
      have e_t18 := C_t18.2.2.2.1
      rcases w_t18 with ⟨w_t18, y_t18⟩ | ⟨w_t18, wb_t18⟩
      · have z_t18 : m_at t0 < m_ct t0 := lo_ne (Nat.ne_of_gt (show 0 < lo t0 (m_at t0) from by omega))
        have I_n_t18 := I_n_t0.flat X_t18
        refine Ok_bnc ?_
        try unfold b_X6_exprs
        refine Kp_child C_t18 I_n_t18.1 I_n_t18.2.1 I_n_t18.2.2.1 (by omega) (by omega) (by decide) (by decide) (fun t20 C_t20 X_t20 a_t20 b_t20 d_t20 w_t20 u_t20 v_t20 j_t20 l_t20 => ?_)
        have e_t20 := C_t20.2.2.2.1
        rw [a_t18] at a_t20
        rw [b_t18] at b_t20
        rw [d_t18] at d_t20
        rw [w_t18] at w_t20
        rw [u_t18] at u_t20
        rw [v_t18] at v_t20
        clear d_t18 w_t18 u_t18 v_t18 e_t18 a_t18
        have I_n_t20 := I_n_t18.chd X_t20 j_t20
        have f_n_t20 : Fz t20 n := j_t20.2.2.2.2.1
        have I_m_mdt18_t20 : Nq t20 (m_md t18) := Nq.chn j_t20 (by omega) I_n_t18 (by decide)
        have u_m_mdt18_t20 : Up t20 (m_md t18) := Or.inl j_t20.2.1
        refine Kp_push C_t20 (by omega) (fun t21 C_t21 X_t21 a_t21 b_t21 d_t21 w_t21 u_t21 v_t21 j_t21 l_t21 => ?_)
        have e_t21 := C_t21.2.2.2.1
        rw [a_t20] at a_t21
        rw [b_t20] at b_t21
        rw [d_t20] at d_t21
        rw [w_t20] at w_t21
        rw [u_t20] at u_t21
        rw [v_t20] at v_t21
        clear d_t20 w_t20 u_t20 v_t20 e_t20 a_t20 b_t20
        have I_n_t21 := I_n_t20.flat X_t21
        have f_n_t21 := f_n_t20.ex I_n_t20 (X_t21 0)
        have I_m_mdt18_t21 := I_m_mdt18_t20.flat X_t21
        have u_m_mdt18_t21 := u_m_mdt18_t20.ex I_m_mdt18_t20 (X_t21 0)
        refine Ok_bnc ?_
        try unfold b_X6_expression
        refine Kp_push C_t21 (by omega) (fun t23 C_t23 X_t23 a_t23 b_t23 d_t23 w_t23 u_t23 v_t23 j_t23 l_t23 => ?_)
        have e_t23 := C_t23.2.2.2.1
        rw [a_t21] at a_t23
        rw [b_t21] at b_t23
        rw [d_t21] at d_t23
        rw [w_t21] at w_t23
        rw [u_t21] at u_t23
        rw [v_t21] at v_t23
        clear d_t21 w_t21 u_t21 v_t21 e_t21 a_t21 b_t21
        have I_n_t23 := I_n_t21.flat X_t23
        have f_n_t23 := f_n_t21.ex I_n_t21 (X_t23 0)
        have I_m_mdt18_t23 := I_m_mdt18_t21.flat X_t23
        have u_m_mdt18_t23 := u_m_mdt18_t21.ex I_m_mdt18_t21 (X_t23 0)
        refine Kp_push C_t23 (by omega) (fun t24 C_t24 X_t24 a_t24 b_t24 d_t24 w_t24 u_t24 v_t24 j_t24 l_t24 => ?_)
        have e_t24 := C_t24.2.2.2.1
        rw [a_t23] at a_t24
        rw [b_t23] at b_t24
        rw [d_t23] at d_t24
        rw [w_t23] at w_t24
        rw [u_t23] at u_t24
        rw [v_t23] at v_t24
        clear d_t23 w_t23 u_t23 v_t23 e_t23 a_t23 b_t23
        have I_n_t24 := I_n_t23.flat X_t24
        have f_n_t24 := f_n_t23.ex I_n_t23 (X_t24 0)
        have I_m_mdt18_t24 := I_m_mdt18_t23.flat X_t24
        have u_m_mdt18_t24 := u_m_mdt18_t23.ex I_m_mdt18_t23 (X_t24 0)
        refine Ok_ret (show Ok _ _ _ from ?_)
        refine Ok_ret (show Ok _ _ _ from ?_)
        refine Ok_ret (show Ok _ _ _ from ?_)
        refine Ok_ret (show Ok _ _ _ from ?_)
        refine Hv_mk (Kv_c (x := (3, m_md t18, 0 &&& 1)) rfl (Kv_c (x := (2, m_md t18, (0 &&& 1) ||| (1 * 256))) rfl (Kv_c (x := (32, m_md t18, 0 &&& 1)) rfl hK))) (C_t24.1.2.2.2.2.2.2 hTt) C_t24 hT (by omega) (by omega) (by omega) ?_ ?_ ?_ (by omega) ?_ ?_ ?_
        · exact ⟨(Io_n (by decide) (show 0 &&& 1 < 4096 from by omega) I_m_mdt18_t24.1 I_m_mdt18_t24.2.1 I_m_mdt18_t24.2.2.1 (fun q => absurd q (by decide)) (fun q => absurd q (by decide)) I_m_mdt18_t24.2.2.2), (Nd_0 (by decide) Mo_nil), ⟨(Io_2 (by have := or_256 (b := 1) (show (0 &&& 1) < 256 from by omega); omega) (by have := or_256 (b := 1) (show (0 &&& 1) < 256 from by omega); omega) (by have := or_256 (b := 1) (show (0 &&& 1) < 256 from by omega); omega) I_m_mdt18_t24.1 I_m_mdt18_t24.2.1 I_m_mdt18_t24.2.2.1 I_m_mdt18_t24.2.2.2), (Nd_A (by decide) (Mo_cons (fun q => show m_md t18 ≤ m_md t18 from by omega) Mo_nil) (Or.inr ⟨(3, m_md t18, 0 &&& 1), List.mem_cons_self, rfl, Or.inl rfl⟩)), ⟨(Io_n (by decide) (show 0 &&& 1 < 4096 from by omega) I_m_mdt18_t24.1 I_m_mdt18_t24.2.1 I_m_mdt18_t24.2.2.1 (fun q => absurd q (by decide)) (fun q => absurd q (by decide)) I_m_mdt18_t24.2.2.2), (Nd_0 (by decide) (Mo_cons (fun q => show m_md t18 ≤ m_md t18 from by omega) (Mo_cons (fun q => show m_md t18 ≤ m_md t18 from by omega) Mo_nil))), Stk_step (N := n) (pop := (58, n, t)) (new := [(32, m_md t18, 0 &&& 1), (2, m_md t18, (0 &&& 1) ||| (1 * 256)), (3, m_md t18, 0 &&& 1)]) F0 C_t24.1.to2 (fun (h : nk 58 = false) => absurd h (by decide)) (fun q _ h => h (58, n, t) rfl) (fun _ => rfl) (fun y hy hk => ⟨rfl, (Mo_cons (fun q => show n ≤ m_md t18 from by omega) (Mo_cons (fun q => show n ≤ m_md t18 from by omega) (Mo_cons (fun q => show n ≤ m_md t18 from by omega) Mo_nil))) y hy hk⟩) (fun (h : 58 = 3 ∨ 58 = 18 ∨ 58 = 41) => absurd h (by decide)) (fun (h : 58 = 18) => absurd h (by decide)) (fun (h : 58 = 41 ∨ 58 = 42 ∨ 58 = 43) => absurd h (by decide)) r [] (fun y hy => absurd hy List.not_mem_nil) hS⟩⟩⟩
        · exact (Aj_up (x := (3, m_md t18, 0 &&& 1)) (Aj_up (x := (2, m_md t18, (0 &&& 1) ||| (1 * 256))) (Aj_sub (y := (32, m_md t18, 0 &&& 1)) hJ (Nat.le_of_ble_eq_true rfl)) (Or.inr (show 9 - ((0 &&& 1) ||| (1 * 256)) / 256 < 9 from by have := or_256 (b := 1) (show (0 &&& 1) < 256 from by omega); omega))) (Or.inr (show 2 < 9 - ((0 &&& 1) ||| (1 * 256)) / 256 from by have := or_256 (b := 1) (show (0 &&& 1) < 256 from by omega); omega)))
        · show m_dp t24 = (dlt 3 + (dlt 2 + (dlt 32 + sD r)))
          have : dlt 2 = 0 := rfl; have : dlt 3 = 0 := rfl; have : dlt 32 = 0 := rfl; have : dlt 58 = 0 := rfl; omega
        · show m_rw t24 = (rho 3 + (rho 2 + (rho 32 + sR r)))
          have : rho 2 = 0 := rfl; have : rho 3 = 0 := rfl; have : rho 32 = 0 := rfl; have : rho 58 = 0 := rfl; omega
        · show m_md t24 + (mu7 3 + (mu7 2 + (mu7 32 + sM r))) ≤ 3 * m_at t24 + 7 * (r.length + 1 + 1 + 1) + 10
          have : mu7 2 = 7 := rfl; have : mu7 3 = 5 := rfl; have : mu7 32 = 7 := rfl; have : mu7 58 = 7 := rfl; omega
        · show (wt 3 + (wt 2 + (wt 32 + sW r))) + 6 * (4096 - m_at t24) + 4 * (600 - (r.length + 1 + 1 + 1)) < (wt 58 + sW r) + 6 * (4096 - m_at t0) + 4 * (600 - (r.length + 1))
          have : wt 2 = 5 := rfl; have : wt 3 = 3 := rfl; have : wt 32 = 5 := rfl; have : wt 58 = 5 := rfl; omega
      · have w_t18 := Nat.pos_of_ne_zero w_t18
        have I_n_t18 := I_n_t0.flat X_t18
        refine Ok_bnc ?_
        try unfold b_X6_exprs
        refine Kp_child C_t18 I_n_t18.1 I_n_t18.2.1 I_n_t18.2.2.1 (by omega) (by omega) (by decide) (by decide) (fun t26 C_t26 X_t26 a_t26 b_t26 d_t26 w_t26 u_t26 v_t26 j_t26 l_t26 => ?_)
        have e_t26 := C_t26.2.2.2.1
        have I_n_t26 := I_n_t18.chd X_t26 j_t26
        have f_n_t26 : Fz t26 n := j_t26.2.2.2.2.1
        have I_m_mdt18_t26 : Nq t26 (m_md t18) := Nq.chn j_t26 (by omega) I_n_t18 (by decide)
        have u_m_mdt18_t26 : Up t26 (m_md t18) := Or.inl j_t26.2.1
        refine Kp_push C_t26 (by omega) (fun t27 C_t27 X_t27 a_t27 b_t27 d_t27 w_t27 u_t27 v_t27 j_t27 l_t27 => ?_)
        have e_t27 := C_t27.2.2.2.1
        have I_n_t27 := I_n_t26.flat X_t27
        have f_n_t27 := f_n_t26.ex I_n_t26 (X_t27 0)
        have I_m_mdt18_t27 := I_m_mdt18_t26.flat X_t27
        have u_m_mdt18_t27 := u_m_mdt18_t26.ex I_m_mdt18_t26 (X_t27 0)
        refine Ok_bnc ?_
        try unfold b_X6_expression
        refine Kp_push C_t27 (by omega) (fun t29 C_t29 X_t29 a_t29 b_t29 d_t29 w_t29 u_t29 v_t29 j_t29 l_t29 => ?_)
        have e_t29 := C_t29.2.2.2.1
        have I_n_t29 := I_n_t27.flat X_t29
        have f_n_t29 := f_n_t27.ex I_n_t27 (X_t29 0)
        have I_m_mdt18_t29 := I_m_mdt18_t27.flat X_t29
        have u_m_mdt18_t29 := u_m_mdt18_t27.ex I_m_mdt18_t27 (X_t29 0)
        refine Kp_push C_t29 (by omega) (fun t30 C_t30 X_t30 a_t30 b_t30 d_t30 w_t30 u_t30 v_t30 j_t30 l_t30 => ?_)
        have e_t30 := C_t30.2.2.2.1
        have I_n_t30 := I_n_t29.flat X_t30
        have f_n_t30 := f_n_t29.ex I_n_t29 (X_t30 0)
        have I_m_mdt18_t30 := I_m_mdt18_t29.flat X_t30
        have u_m_mdt18_t30 := u_m_mdt18_t29.ex I_m_mdt18_t29 (X_t30 0)
        refine Ok_ret (show Ok _ _ _ from ?_)
        refine Ok_ret (show Ok _ _ _ from ?_)
        refine Ok_ret (show Ok _ _ _ from ?_)
        refine Ok_ret (show Ok _ _ _ from ?_)
        exact Or.inl ⟨Nat.ne_of_gt (show 0 < m_wr t30 from by omega), by omega, by omega, C_t30.2.2.2.2.2, by omega⟩
    · refine Ok_ret (show Ok _ _ _ from ?_)
      refine Ok_ret (show Ok _ _ _ from ?_)
      refine Hv_mk hK (C_t0.1.2.2.2.2.2.2 hTt) C_t0 hT (by omega) (by omega) (by omega) ?_ ?_ ?_ (by omega) ?_ ?_ ?_
      · exact Stk_step (N := n) (pop := (58, n, t)) (new := []) F0 C_t0.1.to2 (fun (h : nk 58 = false) => absurd h (by decide)) (fun q _ h => h (58, n, t) rfl) (fun _ => rfl) (fun y hy hk => ⟨rfl, Mo_nil (n := n) y hy hk⟩) (fun (h : 58 = 3 ∨ 58 = 18 ∨ 58 = 41) => absurd h (by decide)) (fun (h : 58 = 18) => absurd h (by decide)) (fun (h : 58 = 41 ∨ 58 = 42 ∨ 58 = 43) => absurd h (by decide)) r [] (fun y hy => absurd hy List.not_mem_nil) hS
      · exact Aj_tl hJ
      · show m_dp t0 = sD r
        have : dlt 58 = 0 := rfl; omega
      · show m_rw t0 = sR r
        have : rho 58 = 0 := rfl; omega
      · show m_md t0 + sM r ≤ 3 * m_at t0 + 7 * (r.length) + 10
        have : mu7 58 = 7 := rfl; omega
      · show sW r + 6 * (4096 - m_at t0) + 4 * (600 - (r.length)) < (wt 58 + sW r) + 6 * (4096 - m_at t0) + 4 * (600 - (r.length + 1))
        have : wt 58 = 5 := rfl; omega

