/-! The steps of the reference, one by one. -/
theorem S_52 {s : Mm} {n t : Nat} {r : List It} (H : Hv s ((52, n, t) :: r)) {E : Mm → Prop} : Ok Qh E (b_X6_step 52 n t (w_td s (m_td s - 1))) := by
  obtain ⟨hT, hc, hw0, ha, hC, hS, hJ, hdp, hdl, hrw, hmd, htd, hln, hm16, hI, hD⟩ := Hv_pop H
  have C_t0 := hC n
  generalize ht0 : w_td s (m_td s - 1) = t0 at *
  have b_t0 : m_md t0 = m_md s := by rw [← ht0]
  have a_t0 : m_at t0 = m_at s := by rw [← ht0]
  have d_t0 : m_dp t0 = m_dp s := by rw [← ht0]
  have w_t0 : m_wr t0 = m_wr s := by rw [← ht0]
  have u_t0 : m_rw t0 = m_rw s := by rw [← ht0]
  have v_t0 : m_td t0 = m_td s - 1 := by rw [← ht0]
  have e_t0 : m_ct t0 = m_ct s := by rw [← ht0]
  have F0 := C_t0.2.1
  obtain ⟨m_n_t0, g_n_t0, w_n_t0⟩ : n < m_md t0 ∧ GdS t0 n ∧ W5 t0 n := hI.2.1 rfl
  have ht : t < 4096 := hI.1.1 (show 52 ≠ 42 by decide) (show 52 ≠ 48 by decide)
  have hdp : m_dp s = dlt 52 + sD r := hdp
  have hrw : m_rw s = rho 52 + sR r := hrw
  have hmd : m_md s + mu7 52 + sM r ≤ 3 * m_at s + 7 * r.length + 17 := hmd
  have hand : t &&& 1 ≤ 1 := Nat.and_le_right
  have h01 : (0 &&& 1 : Nat) = 0 := rfl
  have h02 : (1 : Nat) * 256 = 256 := rfl
  have hq1 : dlt 52 = 0 := rfl
  have hq2 : rho 52 = 0 := rfl
  have hq3 : mu7 52 = 5 := rfl
  unfold b_X6_step
  refine Ok_ifl (by decide) (by decide) (fun _ => ?_) (fun q => absurd (by decide) q)
  refine Ok_ifl (by decide) (by decide) (fun q => absurd q (by decide)) (fun _ => ?_)
  refine Ok_ifl (by decide) (by decide) (fun q => absurd q (by decide)) (fun _ => ?_)
  refine Ok_ifl (by decide) (by decide) (fun q => absurd q (by decide)) (fun _ => ?_)
  refine Ok_bnc ?_
  try unfold b_X6_stating
  refine Ok_ck (by decide) ?_
  refine Ok_ife (by decide) (by decide) (fun q => absurd q (by decide)) (fun _ => ?_)
  refine Ok_ife (by decide) (by decide) (fun q => absurd q (by decide)) (fun _ => ?_)
  refine Ok_ife (by decide) (by decide) (fun q => absurd q (by decide)) (fun _ => ?_)
  refine Ok_ife (by decide) (by decide) (fun q => absurd q (by decide)) (fun _ => ?_)
  refine Ok_ife (by decide) (by decide) (fun q => absurd q (by decide)) (fun _ => ?_)
  refine Ok_ife (by decide) (by decide) (fun q => absurd q (by decide)) (fun _ => ?_)
  refine Ok_ife (by decide) (by decide) (fun q => absurd q (by decide)) (fun _ => ?_)
  refine Ok_ife (by decide) (by decide) (fun q => absurd q (by decide)) (fun _ => ?_)
  refine Ok_ife (by decide) (by decide) (fun q => absurd q (by decide)) (fun _ => ?_)
  refine Ok_ife (by decide) (by decide) (fun q => absurd q (by decide)) (fun _ => ?_)
  refine Ok_ife (by decide) (by decide) (fun q => absurd q (by decide)) (fun _ => ?_)
  refine Ok_ife (by decide) (by decide) (fun _ => ?_) (fun q => absurd (by decide) q)
  refine Ok_bnc ?_
  try unfold b_X6_clause
  refine Kp_look C_t0 hT (by omega) ?_
  refine Ok_ife (Nat.lt_trans (lo_lt (C_t0.tk hT) _) (by decide)) (by decide) (fun q3 => ?_) (fun q3 => ?_)
  · refine Kp_child C_t0 m_n_t0 g_n_t0 w_n_t0 (by omega) (by omega) (fun t4 C_t4 x_t4 a_t4 b_t4 d_t4 w_t4 u_t4 v_t4 wn_t4 fn_t4 fp_t4 _ l_t4 => ?_)
    have e_t4 := C_t4.2.2.2.1
    have m_n_t4 : n < m_md t4 := by omega
    have g_n_t4 := (x_t4.2.2.1 n m_n_t0).2.1 w_n_t0 g_n_t0
    have w_n_t4 : W5 t4 n := (x_t4.2.2.1 n m_n_t0).1 w_n_t0
    have f_n_t4 : Fz t4 n := fp_t4
    have m_m_mdt0_t4 : m_md t0 < m_md t4 := by omega
    have g_m_mdt0_t4 : GdS t4 (m_md t0) := Or.inl fn_t4
    have w_m_mdt0_t4 : W5 t4 (m_md t0) := by unfold W5; rw [wn_t4]; decide
    have u_m_mdt0_t4 : Up t4 (m_md t0) := Or.inl fn_t4
    clear fp_t4 fn_t4 wn_t4
    have z_t5 : m_at t4 < m_ct t4 := lo_ne (Nat.ne_of_gt (show 0 < lo t4 (m_at t4) from by omega))
    refine Kp_at C_t4 (fun t5 C_t5 x_t5 a_t5 b_t5 d_t5 w_t5 u_t5 v_t5 _ _ _ l_t5 => ?_)
    have e_t5 := C_t5.2.2.2.1
    have m_n_t5 : n < m_md t5 := by omega
    have g_n_t5 := (x_t5.2.2.1 n m_n_t4).2.1 w_n_t4 g_n_t4
    have w_n_t5 : W5 t5 n := (x_t5.2.2.1 n m_n_t4).1 w_n_t4
    have f_n_t5 : Fz t5 n := (x_t5.2.2.1 n m_n_t4).2.2.1 f_n_t4
    have m_m_mdt0_t5 : m_md t0 < m_md t5 := by omega
    have g_m_mdt0_t5 := (x_t5.2.2.1 (m_md t0) m_m_mdt0_t4).2.1 w_m_mdt0_t4 g_m_mdt0_t4
    have w_m_mdt0_t5 : W5 t5 (m_md t0) := (x_t5.2.2.1 (m_md t0) m_m_mdt0_t4).1 w_m_mdt0_t4
    have u_m_mdt0_t5 := (x_t5.2.2.1 (m_md t0) m_m_mdt0_t4).2.2.2.1 u_m_mdt0_t4
    refine Kp_push C_t5 (by omega) (fun t6 C_t6 x_t6 a_t6 b_t6 d_t6 w_t6 u_t6 v_t6 _ _ _ l_t6 => ?_)
    have e_t6 := C_t6.2.2.2.1
    have m_n_t6 : n < m_md t6 := by omega
    have g_n_t6 := (x_t6.2.2.1 n m_n_t5).2.1 w_n_t5 g_n_t5
    have w_n_t6 : W5 t6 n := (x_t6.2.2.1 n m_n_t5).1 w_n_t5
    have f_n_t6 : Fz t6 n := (x_t6.2.2.1 n m_n_t5).2.2.1 f_n_t5
    have m_m_mdt0_t6 : m_md t0 < m_md t6 := by omega
    have g_m_mdt0_t6 := (x_t6.2.2.1 (m_md t0) m_m_mdt0_t5).2.1 w_m_mdt0_t5 g_m_mdt0_t5
    have w_m_mdt0_t6 : W5 t6 (m_md t0) := (x_t6.2.2.1 (m_md t0) m_m_mdt0_t5).1 w_m_mdt0_t5
    have u_m_mdt0_t6 := (x_t6.2.2.1 (m_md t0) m_m_mdt0_t5).2.2.2.1 u_m_mdt0_t5
    refine Ok_ret (show Ok _ _ _ from ?_)
    refine Ok_ret (show Ok _ _ _ from ?_)
    refine Hv_mk C_t6 hT (by omega) (by omega) (by omega) ?_ ?_ ?_ (by omega) ?_ ?_
    · exact ⟨(Io_n (by decide) (by decide) m_m_mdt0_t6 g_m_mdt0_t6 w_m_mdt0_t6 (fun _ => u_m_mdt0_t6) (fun q => absurd q (by decide))), (Nd_0 (by decide) Mo_nil), Stk_step (N := n) (pop := (52, n, t)) (new := [(39, m_md t0, 0)]) F0 C_t6.1 (fun _ => m_n_t0) (fun q _ h => h (52, n, t) rfl) (fun _ => rfl) (fun y hy hk => ⟨rfl, (Mo_cons (fun q => show n ≤ m_md t0 from by omega) Mo_nil) y hy hk⟩) (fun (h : 52 = 3 ∨ 52 = 18 ∨ 52 = 41) => absurd h (by decide)) (fun (h : 52 = 18) => absurd h (by decide)) (fun (h : 52 = 41 ∨ 52 = 42 ∨ 52 = 43) => absurd h (by decide)) r [] (fun y hy => absurd hy List.not_mem_nil) hS⟩
    · exact (Aj_sub (y := (39, m_md t0, 0)) hJ (Nat.le_of_ble_eq_true rfl))
    · show m_dp t6 = (dlt 39 + sD r)
      have : dlt 39 = 0 := rfl; have : dlt 52 = 0 := rfl; omega
    · show m_rw t6 = (rho 39 + sR r)
      have : rho 39 = 0 := rfl; have : rho 52 = 0 := rfl; omega
    · show m_md t6 + (mu7 39 + sM r) ≤ 3 * m_at t6 + 7 * (r.length + 1) + 10
      have : mu7 39 = 7 := rfl; have : mu7 52 = 5 := rfl; omega
  · refine Kp_error C_t0 (by omega) (fun t7 C_t7 x_t7 a_t7 b_t7 d_t7 w_t7 wb_t7 u_t7 v_t7 _ _ _ l_t7 => ?_)
    have w_t7 := Nat.pos_of_ne_zero w_t7
    have e_t7 := C_t7.2.2.2.1
    have m_n_t7 : n < m_md t7 := by omega
    have g_n_t7 := (x_t7.2.2.1 n m_n_t0).2.1 w_n_t0 g_n_t0
    have w_n_t7 : W5 t7 n := (x_t7.2.2.1 n m_n_t0).1 w_n_t0
    refine Ok_ret (show Ok _ _ _ from ?_)
    refine Ok_ret (show Ok _ _ _ from ?_)
    exact Or.inl ⟨Nat.ne_of_gt (show 0 < m_wr t7 from by omega), by omega⟩

theorem S_53 {s : Mm} {n t : Nat} {r : List It} (H : Hv s ((53, n, t) :: r)) {E : Mm → Prop} : Ok Qh E (b_X6_step 53 n t (w_td s (m_td s - 1))) := by
  obtain ⟨hT, hc, hw0, ha, hC, hS, hJ, hdp, hdl, hrw, hmd, htd, hln, hm16, hI, hD⟩ := Hv_pop H
  have C_t0 := hC n
  generalize ht0 : w_td s (m_td s - 1) = t0 at *
  have b_t0 : m_md t0 = m_md s := by rw [← ht0]
  have a_t0 : m_at t0 = m_at s := by rw [← ht0]
  have d_t0 : m_dp t0 = m_dp s := by rw [← ht0]
  have w_t0 : m_wr t0 = m_wr s := by rw [← ht0]
  have u_t0 : m_rw t0 = m_rw s := by rw [← ht0]
  have v_t0 : m_td t0 = m_td s - 1 := by rw [← ht0]
  have e_t0 : m_ct t0 = m_ct s := by rw [← ht0]
  have F0 := C_t0.2.1
  obtain ⟨m_n_t0, g_n_t0, w_n_t0⟩ : n < m_md t0 ∧ GdS t0 n ∧ W5 t0 n := hI.2.1 rfl
  have ht : t < 4096 := hI.1.1 (show 53 ≠ 42 by decide) (show 53 ≠ 48 by decide)
  have hdp : m_dp s = dlt 53 + sD r := hdp
  have hrw : m_rw s = rho 53 + sR r := hrw
  have hmd : m_md s + mu7 53 + sM r ≤ 3 * m_at s + 7 * r.length + 17 := hmd
  have hand : t &&& 1 ≤ 1 := Nat.and_le_right
  have h01 : (0 &&& 1 : Nat) = 0 := rfl
  have h02 : (1 : Nat) * 256 = 256 := rfl
  have hq1 : dlt 53 = 0 := rfl
  have hq2 : rho 53 = 0 := rfl
  have hq3 : mu7 53 = 7 := rfl
  unfold b_X6_step
  refine Ok_ifl (by decide) (by decide) (fun _ => ?_) (fun q => absurd (by decide) q)
  refine Ok_ifl (by decide) (by decide) (fun q => absurd q (by decide)) (fun _ => ?_)
  refine Ok_ifl (by decide) (by decide) (fun q => absurd q (by decide)) (fun _ => ?_)
  refine Ok_ifl (by decide) (by decide) (fun q => absurd q (by decide)) (fun _ => ?_)
  refine Ok_bnc ?_
  try unfold b_X6_stating
  refine Ok_ck (by decide) ?_
  refine Ok_ife (by decide) (by decide) (fun q => absurd q (by decide)) (fun _ => ?_)
  refine Ok_ife (by decide) (by decide) (fun q => absurd q (by decide)) (fun _ => ?_)
  refine Ok_ife (by decide) (by decide) (fun q => absurd q (by decide)) (fun _ => ?_)
  refine Ok_ife (by decide) (by decide) (fun q => absurd q (by decide)) (fun _ => ?_)
  refine Ok_ife (by decide) (by decide) (fun q => absurd q (by decide)) (fun _ => ?_)
  refine Ok_ife (by decide) (by decide) (fun q => absurd q (by decide)) (fun _ => ?_)
  refine Ok_ife (by decide) (by decide) (fun q => absurd q (by decide)) (fun _ => ?_)
  refine Ok_ife (by decide) (by decide) (fun q => absurd q (by decide)) (fun _ => ?_)
  refine Ok_ife (by decide) (by decide) (fun q => absurd q (by decide)) (fun _ => ?_)
  refine Ok_ife (by decide) (by decide) (fun q => absurd q (by decide)) (fun _ => ?_)
  refine Ok_ife (by decide) (by decide) (fun q => absurd q (by decide)) (fun _ => ?_)
  refine Ok_ife (by decide) (by decide) (fun q => absurd q (by decide)) (fun _ => ?_)
  refine Ok_ife (by decide) (by decide) (fun _ => ?_) (fun q => absurd (by decide) q)
  refine Ok_bnc ?_
  try unfold b_X6_types
  refine Kp_look C_t0 hT (by omega) ?_
  refine Ok_ife (Nat.lt_trans (lo_lt (C_t0.tk hT) _) (by decide)) (by decide) (fun q3 => ?_) (fun q3 => ?_)
  · have z_t4 : m_at t0 < m_ct t0 := lo_ne (Nat.ne_of_gt (show 0 < lo t0 (m_at t0) from by omega))
    refine Kp_at C_t0 (fun t4 C_t4 x_t4 a_t4 b_t4 d_t4 w_t4 u_t4 v_t4 _ _ _ l_t4 => ?_)
    have e_t4 := C_t4.2.2.2.1
    have m_n_t4 : n < m_md t4 := by omega
    have g_n_t4 := (x_t4.2.2.1 n m_n_t0).2.1 w_n_t0 g_n_t0
    have w_n_t4 : W5 t4 n := (x_t4.2.2.1 n m_n_t0).1 w_n_t0
    refine Kp_push C_t4 (by omega) (fun t5 C_t5 x_t5 a_t5 b_t5 d_t5 w_t5 u_t5 v_t5 _ _ _ l_t5 => ?_)
    have e_t5 := C_t5.2.2.2.1
    have m_n_t5 : n < m_md t5 := by omega
    have g_n_t5 := (x_t5.2.2.1 n m_n_t4).2.1 w_n_t4 g_n_t4
    have w_n_t5 : W5 t5 n := (x_t5.2.2.1 n m_n_t4).1 w_n_t4
    refine Kp_push C_t5 (by omega) (fun t6 C_t6 x_t6 a_t6 b_t6 d_t6 w_t6 u_t6 v_t6 _ _ _ l_t6 => ?_)
    have e_t6 := C_t6.2.2.2.1
    have m_n_t6 : n < m_md t6 := by omega
    have g_n_t6 := (x_t6.2.2.1 n m_n_t5).2.1 w_n_t5 g_n_t5
    have w_n_t6 : W5 t6 n := (x_t6.2.2.1 n m_n_t5).1 w_n_t5
    refine Ok_ret (show Ok _ _ _ from ?_)
    refine Ok_ret (show Ok _ _ _ from ?_)
    refine Hv_mk C_t6 hT (by omega) (by omega) (by omega) ?_ ?_ ?_ (by omega) ?_ ?_
    · exact ⟨(Io_n (by decide) (by decide) m_n_t6 g_n_t6 w_n_t6 (fun q => absurd q (by decide)) (fun q => absurd q (by decide))), (Nd_0 (by decide) Mo_nil), ⟨(Io_n (by decide) (by decide) m_n_t6 g_n_t6 w_n_t6 (fun q => absurd q (by decide)) (fun q => absurd q (by decide))), (Nd_0 (by decide) (Mo_cons (fun q => show n ≤ n from by omega) Mo_nil)), Stk_step (N := n) (pop := (53, n, t)) (new := [(53, n, 0), (18, n, 0)]) F0 C_t6.1 (fun _ => m_n_t0) (fun q _ h => h (53, n, t) rfl) (fun _ => rfl) (fun y hy hk => ⟨rfl, (Mo_cons (fun q => show n ≤ n from by omega) (Mo_cons (fun q => show n ≤ n from by omega) Mo_nil)) y hy hk⟩) (fun (h : 53 = 3 ∨ 53 = 18 ∨ 53 = 41) => absurd h (by decide)) (fun (h : 53 = 18) => absurd h (by decide)) (fun (h : 53 = 41 ∨ 53 = 42 ∨ 53 = 43) => absurd h (by decide)) r [] (fun y hy => absurd hy List.not_mem_nil) hS⟩⟩
    · exact (Aj_up (x := (18, n, 0)) (Aj_sub (y := (53, n, 0)) hJ (Nat.le_of_ble_eq_true rfl)) (Or.inr (Nat.le_of_ble_eq_true rfl)))
    · show m_dp t6 = (dlt 18 + (dlt 53 + sD r))
      have : dlt 18 = 0 := rfl; have : dlt 53 = 0 := rfl; omega
    · show m_rw t6 = (rho 18 + (rho 53 + sR r))
      have : rho 18 = 0 := rfl; have : rho 53 = 0 := rfl; omega
    · show m_md t6 + (mu7 18 + (mu7 53 + sM r)) ≤ 3 * m_at t6 + 7 * (r.length + 1 + 1) + 10
      have : mu7 18 = 5 := rfl; have : mu7 53 = 7 := rfl; omega
  · refine Ok_ret (show Ok _ _ _ from ?_)
    refine Ok_ret (show Ok _ _ _ from ?_)
    refine Hv_mk C_t0 hT (by omega) (by omega) (by omega) ?_ ?_ ?_ (by omega) ?_ ?_
    · exact Stk_step (N := n) (pop := (53, n, t)) (new := []) F0 C_t0.1 (fun _ => m_n_t0) (fun q _ h => h (53, n, t) rfl) (fun _ => rfl) (fun y hy hk => ⟨rfl, Mo_nil (n := n) y hy hk⟩) (fun (h : 53 = 3 ∨ 53 = 18 ∨ 53 = 41) => absurd h (by decide)) (fun (h : 53 = 18) => absurd h (by decide)) (fun (h : 53 = 41 ∨ 53 = 42 ∨ 53 = 43) => absurd h (by decide)) r [] (fun y hy => absurd hy List.not_mem_nil) hS
    · exact Aj_tl hJ
    · show m_dp t0 = sD r
      have : dlt 53 = 0 := rfl; omega
    · show m_rw t0 = sR r
      have : rho 53 = 0 := rfl; omega
    · show m_md t0 + sM r ≤ 3 * m_at t0 + 7 * (r.length) + 10
      have : mu7 53 = 7 := rfl; omega

theorem S_55 {s : Mm} {n t : Nat} {r : List It} (H : Hv s ((55, n, t) :: r)) {E : Mm → Prop} : Ok Qh E (b_X6_step 55 n t (w_td s (m_td s - 1))) := by
  obtain ⟨hT, hc, hw0, ha, hC, hS, hJ, hdp, hdl, hrw, hmd, htd, hln, hm16, hI, hD⟩ := Hv_pop H
  have C_t0 := hC n
  generalize ht0 : w_td s (m_td s - 1) = t0 at *
  have b_t0 : m_md t0 = m_md s := by rw [← ht0]
  have a_t0 : m_at t0 = m_at s := by rw [← ht0]
  have d_t0 : m_dp t0 = m_dp s := by rw [← ht0]
  have w_t0 : m_wr t0 = m_wr s := by rw [← ht0]
  have u_t0 : m_rw t0 = m_rw s := by rw [← ht0]
  have v_t0 : m_td t0 = m_td s - 1 := by rw [← ht0]
  have e_t0 : m_ct t0 = m_ct s := by rw [← ht0]
  have F0 := C_t0.2.1
  obtain ⟨m_n_t0, g_n_t0, w_n_t0⟩ : n < m_md t0 ∧ GdS t0 n ∧ W5 t0 n := hI.2.1 rfl
  have ht : t < 4096 := hI.1.1 (show 55 ≠ 42 by decide) (show 55 ≠ 48 by decide)
  have hdp : m_dp s = dlt 55 + sD r := hdp
  have hrw : m_rw s = rho 55 + sR r := hrw
  have hmd : m_md s + mu7 55 + sM r ≤ 3 * m_at s + 7 * r.length + 17 := hmd
  have hand : t &&& 1 ≤ 1 := Nat.and_le_right
  have h01 : (0 &&& 1 : Nat) = 0 := rfl
  have h02 : (1 : Nat) * 256 = 256 := rfl
  have hq1 : dlt 55 = 0 := rfl
  have hq2 : rho 55 = 0 := rfl
  have hq3 : mu7 55 = 4 := rfl
  unfold b_X6_step
  refine Ok_ifl (by decide) (by decide) (fun _ => ?_) (fun q => absurd (by decide) q)
  refine Ok_ifl (by decide) (by decide) (fun q => absurd q (by decide)) (fun _ => ?_)
  refine Ok_ifl (by decide) (by decide) (fun q => absurd q (by decide)) (fun _ => ?_)
  refine Ok_ifl (by decide) (by decide) (fun q => absurd q (by decide)) (fun _ => ?_)
  refine Ok_bnc ?_
  try unfold b_X6_stating
  refine Ok_ck (by decide) ?_
  refine Ok_ife (by decide) (by decide) (fun q => absurd q (by decide)) (fun _ => ?_)
  refine Ok_ife (by decide) (by decide) (fun q => absurd q (by decide)) (fun _ => ?_)
  refine Ok_ife (by decide) (by decide) (fun q => absurd q (by decide)) (fun _ => ?_)
  refine Ok_ife (by decide) (by decide) (fun q => absurd q (by decide)) (fun _ => ?_)
  refine Ok_ife (by decide) (by decide) (fun q => absurd q (by decide)) (fun _ => ?_)
  refine Ok_ife (by decide) (by decide) (fun q => absurd q (by decide)) (fun _ => ?_)
  refine Ok_ife (by decide) (by decide) (fun q => absurd q (by decide)) (fun _ => ?_)
  refine Ok_ife (by decide) (by decide) (fun q => absurd q (by decide)) (fun _ => ?_)
  refine Ok_ife (by decide) (by decide) (fun q => absurd q (by decide)) (fun _ => ?_)
  refine Ok_ife (by decide) (by decide) (fun q => absurd q (by decide)) (fun _ => ?_)
  refine Ok_ife (by decide) (by decide) (fun q => absurd q (by decide)) (fun _ => ?_)
  refine Ok_ife (by decide) (by decide) (fun q => absurd q (by decide)) (fun _ => ?_)
  refine Ok_ife (by decide) (by decide) (fun q => absurd q (by decide)) (fun _ => ?_)
  refine Ok_ife (by decide) (by decide) (fun q => absurd q (by decide)) (fun _ => ?_)
  refine Ok_ife (by decide) (by decide) (fun _ => ?_) (fun q => absurd (by decide) q)
  refine Kp_pass C_t0 hT (by omega) (by decide) (by omega) (fun t2 C_t2 x_t2 a_t2 b_t2 d_t2 w_t2 u_t2 v_t2 _ _ _ l_t2 => ?_)
  have e_t2 := C_t2.2.2.2.1
  rcases w_t2 with ⟨w_t2, y_t2⟩ | ⟨w_t2, wb_t2⟩
  · have z_t2 : m_at t0 < m_ct t0 := lo_ne (Nat.ne_of_gt (show 0 < lo t0 (m_at t0) from by omega))
    have m_n_t2 : n < m_md t2 := by omega
    have g_n_t2 := (x_t2.2.2.1 n m_n_t0).2.1 w_n_t0 g_n_t0
    have w_n_t2 : W5 t2 n := (x_t2.2.2.1 n m_n_t0).1 w_n_t0
    refine Kp_push C_t2 (by omega) (fun t3 C_t3 x_t3 a_t3 b_t3 d_t3 w_t3 u_t3 v_t3 _ _ _ l_t3 => ?_)
    have e_t3 := C_t3.2.2.2.1
    have m_n_t3 : n < m_md t3 := by omega
    have g_n_t3 := (x_t3.2.2.1 n m_n_t2).2.1 w_n_t2 g_n_t2
    have w_n_t3 : W5 t3 n := (x_t3.2.2.1 n m_n_t2).1 w_n_t2
    refine Ok_ret (show Ok _ _ _ from ?_)
    refine Hv_mk C_t3 hT (by omega) (by omega) (by omega) ?_ ?_ ?_ (by omega) ?_ ?_
    · exact ⟨(Io_n (by decide) (by decide) m_n_t3 g_n_t3 w_n_t3 (fun q => absurd q (by decide)) (fun q => absurd q (by decide))), (Nd_0 (by decide) Mo_nil), Stk_step (N := n) (pop := (55, n, t)) (new := [(54, n, 0)]) F0 C_t3.1 (fun _ => m_n_t0) (fun q _ h => h (55, n, t) rfl) (fun _ => rfl) (fun y hy hk => ⟨rfl, (Mo_cons (fun q => show n ≤ n from by omega) Mo_nil) y hy hk⟩) (fun (h : 55 = 3 ∨ 55 = 18 ∨ 55 = 41) => absurd h (by decide)) (fun (h : 55 = 18) => absurd h (by decide)) (fun (h : 55 = 41 ∨ 55 = 42 ∨ 55 = 43) => absurd h (by decide)) r [] (fun y hy => absurd hy List.not_mem_nil) hS⟩
    · exact (Aj_sub (y := (54, n, 0)) hJ (Nat.le_of_ble_eq_true rfl))
    · show m_dp t3 = (dlt 54 + sD r)
      have : dlt 54 = 0 := rfl; have : dlt 55 = 0 := rfl; omega
    · show m_rw t3 = (rho 54 + sR r)
      have : rho 54 = 0 := rfl; have : rho 55 = 0 := rfl; omega
    · show m_md t3 + (mu7 54 + sM r) ≤ 3 * m_at t3 + 7 * (r.length + 1) + 10
      have : mu7 54 = 7 := rfl; have : mu7 55 = 4 := rfl; omega
  · have w_t2 := Nat.pos_of_ne_zero w_t2
    have m_n_t2 : n < m_md t2 := by omega
    have g_n_t2 := (x_t2.2.2.1 n m_n_t0).2.1 w_n_t0 g_n_t0
    have w_n_t2 : W5 t2 n := (x_t2.2.2.1 n m_n_t0).1 w_n_t0
    refine Kp_push C_t2 (by omega) (fun t4 C_t4 x_t4 a_t4 b_t4 d_t4 w_t4 u_t4 v_t4 _ _ _ l_t4 => ?_)
    have e_t4 := C_t4.2.2.2.1
    have m_n_t4 : n < m_md t4 := by omega
    have g_n_t4 := (x_t4.2.2.1 n m_n_t2).2.1 w_n_t2 g_n_t2
    have w_n_t4 : W5 t4 n := (x_t4.2.2.1 n m_n_t2).1 w_n_t2
    refine Ok_ret (show Ok _ _ _ from ?_)
    exact Or.inl ⟨Nat.ne_of_gt (show 0 < m_wr t4 from by omega), by omega⟩

theorem S_57 {s : Mm} {n t : Nat} {r : List It} (H : Hv s ((57, n, t) :: r)) {E : Mm → Prop} : Ok Qh E (b_X6_step 57 n t (w_td s (m_td s - 1))) := by
  obtain ⟨hT, hc, hw0, ha, hC, hS, hJ, hdp, hdl, hrw, hmd, htd, hln, hm16, hI, hD⟩ := Hv_pop H
  have C_t0 := hC n
  generalize ht0 : w_td s (m_td s - 1) = t0 at *
  have b_t0 : m_md t0 = m_md s := by rw [← ht0]
  have a_t0 : m_at t0 = m_at s := by rw [← ht0]
  have d_t0 : m_dp t0 = m_dp s := by rw [← ht0]
  have w_t0 : m_wr t0 = m_wr s := by rw [← ht0]
  have u_t0 : m_rw t0 = m_rw s := by rw [← ht0]
  have v_t0 : m_td t0 = m_td s - 1 := by rw [← ht0]
  have e_t0 : m_ct t0 = m_ct s := by rw [← ht0]
  have F0 := C_t0.2.1
  obtain ⟨m_n_t0, g_n_t0, w_n_t0⟩ : n < m_md t0 ∧ GdS t0 n ∧ W5 t0 n := hI.2.1 rfl
  have ht : t < 4096 := hI.1.1 (show 57 ≠ 42 by decide) (show 57 ≠ 48 by decide)
  have hdp : m_dp s = dlt 57 + sD r := hdp
  have hrw : m_rw s = rho 57 + sR r := hrw
  have hmd : m_md s + mu7 57 + sM r ≤ 3 * m_at s + 7 * r.length + 17 := hmd
  have hand : t &&& 1 ≤ 1 := Nat.and_le_right
  have h01 : (0 &&& 1 : Nat) = 0 := rfl
  have h02 : (1 : Nat) * 256 = 256 := rfl
  have hq1 : dlt 57 = 0 := rfl
  have hq2 : rho 57 = 0 := rfl
  have hq3 : mu7 57 = 5 := rfl
  unfold b_X6_step
  refine Ok_ifl (by decide) (by decide) (fun _ => ?_) (fun q => absurd (by decide) q)
  refine Ok_ifl (by decide) (by decide) (fun q => absurd q (by decide)) (fun _ => ?_)
  refine Ok_ifl (by decide) (by decide) (fun q => absurd q (by decide)) (fun _ => ?_)
  refine Ok_ifl (by decide) (by decide) (fun q => absurd q (by decide)) (fun _ => ?_)
  refine Ok_bnc ?_
  try unfold b_X6_stating
  refine Ok_ck (by decide) ?_
  refine Ok_ife (by decide) (by decide) (fun q => absurd q (by decide)) (fun _ => ?_)
  refine Ok_ife (by decide) (by decide) (fun q => absurd q (by decide)) (fun _ => ?_)
  refine Ok_ife (by decide) (by decide) (fun q => absurd q (by decide)) (fun _ => ?_)
  refine Ok_ife (by decide) (by decide) (fun q => absurd q (by decide)) (fun _ => ?_)
  refine Ok_ife (by decide) (by decide) (fun q => absurd q (by decide)) (fun _ => ?_)
  refine Ok_ife (by decide) (by decide) (fun q => absurd q (by decide)) (fun _ => ?_)
  refine Ok_ife (by decide) (by decide) (fun q => absurd q (by decide)) (fun _ => ?_)
  refine Ok_ife (by decide) (by decide) (fun q => absurd q (by decide)) (fun _ => ?_)
  refine Ok_ife (by decide) (by decide) (fun q => absurd q (by decide)) (fun _ => ?_)
  refine Ok_ife (by decide) (by decide) (fun q => absurd q (by decide)) (fun _ => ?_)
  refine Ok_ife (by decide) (by decide) (fun q => absurd q (by decide)) (fun _ => ?_)
  refine Ok_ife (by decide) (by decide) (fun q => absurd q (by decide)) (fun _ => ?_)
  refine Ok_ife (by decide) (by decide) (fun q => absurd q (by decide)) (fun _ => ?_)
  refine Ok_ife (by decide) (by decide) (fun q => absurd q (by decide)) (fun _ => ?_)
  refine Ok_ife (by decide) (by decide) (fun q => absurd q (by decide)) (fun _ => ?_)
  refine Ok_ife (by decide) (by decide) (fun q => absurd q (by decide)) (fun _ => ?_)
  refine Ok_ife (by decide) (by decide) (fun _ => ?_) (fun q => absurd (by decide) q)
  refine Ok_bnc ?_
  try unfold b_X6_name
  refine Kp_look C_t0 hT (by omega) ?_
  refine Ok_ife (Nat.lt_trans (lo_lt (C_t0.tk hT) _) (by decide)) (by decide) (fun q3 => ?_) (fun q3 => ?_)
  · refine Kp_child C_t0 m_n_t0 g_n_t0 w_n_t0 (by omega) (by omega) (fun t4 C_t4 x_t4 a_t4 b_t4 d_t4 w_t4 u_t4 v_t4 wn_t4 fn_t4 fp_t4 _ l_t4 => ?_)
    have e_t4 := C_t4.2.2.2.1
    have m_n_t4 : n < m_md t4 := by omega
    have g_n_t4 := (x_t4.2.2.1 n m_n_t0).2.1 w_n_t0 g_n_t0
    have w_n_t4 : W5 t4 n := (x_t4.2.2.1 n m_n_t0).1 w_n_t0
    have f_n_t4 : Fz t4 n := fp_t4
    have m_m_mdt0_t4 : m_md t0 < m_md t4 := by omega
    have g_m_mdt0_t4 : GdS t4 (m_md t0) := Or.inl fn_t4
    have w_m_mdt0_t4 : W5 t4 (m_md t0) := by unfold W5; rw [wn_t4]; decide
    have u_m_mdt0_t4 : Up t4 (m_md t0) := Or.inl fn_t4
    clear fp_t4 fn_t4 wn_t4
    have z_t5 : m_at t4 < m_ct t4 := lo_ne (Nat.ne_of_gt (show 0 < lo t4 (m_at t4) from by omega))
    refine Kp_at C_t4 (fun t5 C_t5 x_t5 a_t5 b_t5 d_t5 w_t5 u_t5 v_t5 _ _ _ l_t5 => ?_)
    have e_t5 := C_t5.2.2.2.1
    have m_n_t5 : n < m_md t5 := by omega
    have g_n_t5 := (x_t5.2.2.1 n m_n_t4).2.1 w_n_t4 g_n_t4
    have w_n_t5 : W5 t5 n := (x_t5.2.2.1 n m_n_t4).1 w_n_t4
    have f_n_t5 : Fz t5 n := (x_t5.2.2.1 n m_n_t4).2.2.1 f_n_t4
    have m_m_mdt0_t5 : m_md t0 < m_md t5 := by omega
    have g_m_mdt0_t5 := (x_t5.2.2.1 (m_md t0) m_m_mdt0_t4).2.1 w_m_mdt0_t4 g_m_mdt0_t4
    have w_m_mdt0_t5 : W5 t5 (m_md t0) := (x_t5.2.2.1 (m_md t0) m_m_mdt0_t4).1 w_m_mdt0_t4
    have u_m_mdt0_t5 := (x_t5.2.2.1 (m_md t0) m_m_mdt0_t4).2.2.2.1 u_m_mdt0_t4
    refine Ok_ret (show Ok _ _ _ from ?_)
    refine Ok_ret (show Ok _ _ _ from ?_)
    refine Hv_mk C_t5 hT (by omega) (by omega) (by omega) ?_ ?_ ?_ (by omega) ?_ ?_
    · exact Stk_step (N := n) (pop := (57, n, t)) (new := []) F0 C_t5.1 (fun _ => m_n_t0) (fun q _ h => h (57, n, t) rfl) (fun _ => rfl) (fun y hy hk => ⟨rfl, Mo_nil (n := n) y hy hk⟩) (fun (h : 57 = 3 ∨ 57 = 18 ∨ 57 = 41) => absurd h (by decide)) (fun (h : 57 = 18) => absurd h (by decide)) (fun (h : 57 = 41 ∨ 57 = 42 ∨ 57 = 43) => absurd h (by decide)) r [] (fun y hy => absurd hy List.not_mem_nil) hS
    · exact Aj_tl hJ
    · show m_dp t5 = sD r
      have : dlt 57 = 0 := rfl; omega
    · show m_rw t5 = sR r
      have : rho 57 = 0 := rfl; omega
    · show m_md t5 + sM r ≤ 3 * m_at t5 + 7 * (r.length) + 10
      have : mu7 57 = 5 := rfl; omega
  · refine Kp_error C_t0 (by omega) (fun t6 C_t6 x_t6 a_t6 b_t6 d_t6 w_t6 wb_t6 u_t6 v_t6 _ _ _ l_t6 => ?_)
    have w_t6 := Nat.pos_of_ne_zero w_t6
    have e_t6 := C_t6.2.2.2.1
    have m_n_t6 : n < m_md t6 := by omega
    have g_n_t6 := (x_t6.2.2.1 n m_n_t0).2.1 w_n_t0 g_n_t0
    have w_n_t6 : W5 t6 n := (x_t6.2.2.1 n m_n_t0).1 w_n_t0
    refine Kp_child C_t6 m_n_t6 g_n_t6 w_n_t6 (by omega) (by omega) (fun t7 C_t7 x_t7 a_t7 b_t7 d_t7 w_t7 u_t7 v_t7 wn_t7 fn_t7 fp_t7 _ l_t7 => ?_)
    have e_t7 := C_t7.2.2.2.1
    have m_n_t7 : n < m_md t7 := by omega
    have g_n_t7 := (x_t7.2.2.1 n m_n_t6).2.1 w_n_t6 g_n_t6
    have w_n_t7 : W5 t7 n := (x_t7.2.2.1 n m_n_t6).1 w_n_t6
    have f_n_t7 : Fz t7 n := fp_t7
    have m_m_mdt6_t7 : m_md t6 < m_md t7 := by omega
    have g_m_mdt6_t7 : GdS t7 (m_md t6) := Or.inl fn_t7
    have w_m_mdt6_t7 : W5 t7 (m_md t6) := by unfold W5; rw [wn_t7]; decide
    have u_m_mdt6_t7 : Up t7 (m_md t6) := Or.inl fn_t7
    clear fp_t7 fn_t7 wn_t7
    refine Kp_at C_t7 (fun t8 C_t8 x_t8 a_t8 b_t8 d_t8 w_t8 u_t8 v_t8 _ _ _ l_t8 => ?_)
    have e_t8 := C_t8.2.2.2.1
    have m_n_t8 : n < m_md t8 := by omega
    have g_n_t8 := (x_t8.2.2.1 n m_n_t7).2.1 w_n_t7 g_n_t7
    have w_n_t8 : W5 t8 n := (x_t8.2.2.1 n m_n_t7).1 w_n_t7
    have f_n_t8 : Fz t8 n := (x_t8.2.2.1 n m_n_t7).2.2.1 f_n_t7
    have m_m_mdt6_t8 : m_md t6 < m_md t8 := by omega
    have g_m_mdt6_t8 := (x_t8.2.2.1 (m_md t6) m_m_mdt6_t7).2.1 w_m_mdt6_t7 g_m_mdt6_t7
    have w_m_mdt6_t8 : W5 t8 (m_md t6) := (x_t8.2.2.1 (m_md t6) m_m_mdt6_t7).1 w_m_mdt6_t7
    have u_m_mdt6_t8 := (x_t8.2.2.1 (m_md t6) m_m_mdt6_t7).2.2.2.1 u_m_mdt6_t7
    refine Ok_ret (show Ok _ _ _ from ?_)
    refine Ok_ret (show Ok _ _ _ from ?_)
    exact Or.inl ⟨Nat.ne_of_gt (show 0 < m_wr t8 from by omega), by omega⟩

theorem S_58 {s : Mm} {n t : Nat} {r : List It} (H : Hv s ((58, n, t) :: r)) {E : Mm → Prop} : Ok Qh E (b_X6_step 58 n t (w_td s (m_td s - 1))) := by
  obtain ⟨hT, hc, hw0, ha, hC, hS, hJ, hdp, hdl, hrw, hmd, htd, hln, hm16, hI, hD⟩ := Hv_pop H
  have C_t0 := hC n
  generalize ht0 : w_td s (m_td s - 1) = t0 at *
  have b_t0 : m_md t0 = m_md s := by rw [← ht0]
  have a_t0 : m_at t0 = m_at s := by rw [← ht0]
  have d_t0 : m_dp t0 = m_dp s := by rw [← ht0]
  have w_t0 : m_wr t0 = m_wr s := by rw [← ht0]
  have u_t0 : m_rw t0 = m_rw s := by rw [← ht0]
  have v_t0 : m_td t0 = m_td s - 1 := by rw [← ht0]
  have e_t0 : m_ct t0 = m_ct s := by rw [← ht0]
  have F0 := C_t0.2.1
  obtain ⟨m_n_t0, g_n_t0, w_n_t0⟩ : n < m_md t0 ∧ GdS t0 n ∧ W5 t0 n := hI.2.1 rfl
  have ht : t < 4096 := hI.1.1 (show 58 ≠ 42 by decide) (show 58 ≠ 48 by decide)
  have hdp : m_dp s = dlt 58 + sD r := hdp
  have hrw : m_rw s = rho 58 + sR r := hrw
  have hmd : m_md s + mu7 58 + sM r ≤ 3 * m_at s + 7 * r.length + 17 := hmd
  have hand : t &&& 1 ≤ 1 := Nat.and_le_right
  have h01 : (0 &&& 1 : Nat) = 0 := rfl
  have h02 : (1 : Nat) * 256 = 256 := rfl
  have hq1 : dlt 58 = 0 := rfl
  have hq2 : rho 58 = 0 := rfl
  have hq3 : mu7 58 = 7 := rfl
  unfold b_X6_step
  refine Ok_ifl (by decide) (by decide) (fun _ => ?_) (fun q => absurd (by decide) q)
  refine Ok_ifl (by decide) (by decide) (fun q => absurd q (by decide)) (fun _ => ?_)
  refine Ok_ifl (by decide) (by decide) (fun q => absurd q (by decide)) (fun _ => ?_)
  refine Ok_ifl (by decide) (by decide) (fun q => absurd q (by decide)) (fun _ => ?_)
  refine Ok_bnc ?_
  try unfold b_X6_stating
  refine Ok_ck (by decide) ?_
  refine Ok_ife (by decide) (by decide) (fun q => absurd q (by decide)) (fun _ => ?_)
  refine Ok_ife (by decide) (by decide) (fun q => absurd q (by decide)) (fun _ => ?_)
  refine Ok_ife (by decide) (by decide) (fun q => absurd q (by decide)) (fun _ => ?_)
  refine Ok_ife (by decide) (by decide) (fun q => absurd q (by decide)) (fun _ => ?_)
  refine Ok_ife (by decide) (by decide) (fun q => absurd q (by decide)) (fun _ => ?_)
  refine Ok_ife (by decide) (by decide) (fun q => absurd q (by decide)) (fun _ => ?_)
  refine Ok_ife (by decide) (by decide) (fun q => absurd q (by decide)) (fun _ => ?_)
  refine Ok_ife (by decide) (by decide) (fun q => absurd q (by decide)) (fun _ => ?_)
  refine Ok_ife (by decide) (by decide) (fun q => absurd q (by decide)) (fun _ => ?_)
  refine Ok_ife (by decide) (by decide) (fun q => absurd q (by decide)) (fun _ => ?_)
  refine Ok_ife (by decide) (by decide) (fun q => absurd q (by decide)) (fun _ => ?_)
  refine Ok_ife (by decide) (by decide) (fun q => absurd q (by decide)) (fun _ => ?_)
  refine Ok_ife (by decide) (by decide) (fun q => absurd q (by decide)) (fun _ => ?_)
  refine Ok_ife (by decide) (by decide) (fun q => absurd q (by decide)) (fun _ => ?_)
  refine Ok_ife (by decide) (by decide) (fun q => absurd q (by decide)) (fun _ => ?_)
  refine Ok_ife (by decide) (by decide) (fun q => absurd q (by decide)) (fun _ => ?_)
  refine Ok_ife (by decide) (by decide) (fun q => absurd q (by decide)) (fun _ => ?_)
  refine Ok_bnc ?_
  try unfold b_X6_valued
  refine Kp_look C_t0 hT (by omega) ?_
  refine Ok_ife (Nat.lt_trans (lo_lt (C_t0.tk hT) _) (by decide)) (by decide) (fun q3 => ?_) (fun q3 => ?_)
  · refine Kp_pass C_t0 hT (by omega) (by decide) (by omega) (fun t4 C_t4 x_t4 a_t4 b_t4 d_t4 w_t4 u_t4 v_t4 _ _ _ l_t4 => ?_)
    have e_t4 := C_t4.2.2.2.1
    rcases w_t4 with ⟨w_t4, y_t4⟩ | ⟨w_t4, wb_t4⟩
    · have z_t4 : m_at t0 < m_ct t0 := lo_ne (Nat.ne_of_gt (show 0 < lo t0 (m_at t0) from by omega))
      have m_n_t4 : n < m_md t4 := by omega
      have g_n_t4 := (x_t4.2.2.1 n m_n_t0).2.1 w_n_t0 g_n_t0
      have w_n_t4 : W5 t4 n := (x_t4.2.2.1 n m_n_t0).1 w_n_t0
      refine Ok_bnc ?_
      try unfold b_X6_exprs
      refine Kp_child C_t4 m_n_t4 g_n_t4 w_n_t4 (by omega) (by omega) (fun t6 C_t6 x_t6 a_t6 b_t6 d_t6 w_t6 u_t6 v_t6 wn_t6 fn_t6 fp_t6 _ l_t6 => ?_)
      have e_t6 := C_t6.2.2.2.1
      have m_n_t6 : n < m_md t6 := by omega
      have g_n_t6 := (x_t6.2.2.1 n m_n_t4).2.1 w_n_t4 g_n_t4
      have w_n_t6 : W5 t6 n := (x_t6.2.2.1 n m_n_t4).1 w_n_t4
      have f_n_t6 : Fz t6 n := fp_t6
      have m_m_mdt4_t6 : m_md t4 < m_md t6 := by omega
      have g_m_mdt4_t6 : GdS t6 (m_md t4) := Or.inl fn_t6
      have w_m_mdt4_t6 : W5 t6 (m_md t4) := by unfold W5; rw [wn_t6]; decide
      have u_m_mdt4_t6 : Up t6 (m_md t4) := Or.inl fn_t6
      clear fp_t6 fn_t6 wn_t6
      refine Kp_push C_t6 (by omega) (fun t7 C_t7 x_t7 a_t7 b_t7 d_t7 w_t7 u_t7 v_t7 _ _ _ l_t7 => ?_)
      have e_t7 := C_t7.2.2.2.1
      have m_n_t7 : n < m_md t7 := by omega
      have g_n_t7 := (x_t7.2.2.1 n m_n_t6).2.1 w_n_t6 g_n_t6
      have w_n_t7 : W5 t7 n := (x_t7.2.2.1 n m_n_t6).1 w_n_t6
      have f_n_t7 : Fz t7 n := (x_t7.2.2.1 n m_n_t6).2.2.1 f_n_t6
      have m_m_mdt4_t7 : m_md t4 < m_md t7 := by omega
      have g_m_mdt4_t7 := (x_t7.2.2.1 (m_md t4) m_m_mdt4_t6).2.1 w_m_mdt4_t6 g_m_mdt4_t6
      have w_m_mdt4_t7 : W5 t7 (m_md t4) := (x_t7.2.2.1 (m_md t4) m_m_mdt4_t6).1 w_m_mdt4_t6
      have u_m_mdt4_t7 := (x_t7.2.2.1 (m_md t4) m_m_mdt4_t6).2.2.2.1 u_m_mdt4_t6
      refine Ok_bnc ?_
      try unfold b_X6_expression
      refine Kp_push C_t7 (by omega) (fun t9 C_t9 x_t9 a_t9 b_t9 d_t9 w_t9 u_t9 v_t9 _ _ _ l_t9 => ?_)
      have e_t9 := C_t9.2.2.2.1
      have m_n_t9 : n < m_md t9 := by omega
      have g_n_t9 := (x_t9.2.2.1 n m_n_t7).2.1 w_n_t7 g_n_t7
      have w_n_t9 : W5 t9 n := (x_t9.2.2.1 n m_n_t7).1 w_n_t7
      have f_n_t9 : Fz t9 n := (x_t9.2.2.1 n m_n_t7).2.2.1 f_n_t7
      have m_m_mdt4_t9 : m_md t4 < m_md t9 := by omega
      have g_m_mdt4_t9 := (x_t9.2.2.1 (m_md t4) m_m_mdt4_t7).2.1 w_m_mdt4_t7 g_m_mdt4_t7
      have w_m_mdt4_t9 : W5 t9 (m_md t4) := (x_t9.2.2.1 (m_md t4) m_m_mdt4_t7).1 w_m_mdt4_t7
      have u_m_mdt4_t9 := (x_t9.2.2.1 (m_md t4) m_m_mdt4_t7).2.2.2.1 u_m_mdt4_t7
      refine Kp_push C_t9 (by omega) (fun t10 C_t10 x_t10 a_t10 b_t10 d_t10 w_t10 u_t10 v_t10 _ _ _ l_t10 => ?_)
      have e_t10 := C_t10.2.2.2.1
      have m_n_t10 : n < m_md t10 := by omega
      have g_n_t10 := (x_t10.2.2.1 n m_n_t9).2.1 w_n_t9 g_n_t9
      have w_n_t10 : W5 t10 n := (x_t10.2.2.1 n m_n_t9).1 w_n_t9
      have f_n_t10 : Fz t10 n := (x_t10.2.2.1 n m_n_t9).2.2.1 f_n_t9
      have m_m_mdt4_t10 : m_md t4 < m_md t10 := by omega
      have g_m_mdt4_t10 := (x_t10.2.2.1 (m_md t4) m_m_mdt4_t9).2.1 w_m_mdt4_t9 g_m_mdt4_t9
      have w_m_mdt4_t10 : W5 t10 (m_md t4) := (x_t10.2.2.1 (m_md t4) m_m_mdt4_t9).1 w_m_mdt4_t9
      have u_m_mdt4_t10 := (x_t10.2.2.1 (m_md t4) m_m_mdt4_t9).2.2.2.1 u_m_mdt4_t9
      refine Ok_ret (show Ok _ _ _ from ?_)
      refine Ok_ret (show Ok _ _ _ from ?_)
      refine Ok_ret (show Ok _ _ _ from ?_)
      refine Ok_ret (show Ok _ _ _ from ?_)
      refine Hv_mk C_t10 hT (by omega) (by omega) (by omega) ?_ ?_ ?_ (by omega) ?_ ?_
      · exact ⟨(Io_n (by decide) (show 0 &&& 1 < 4096 from by omega) m_m_mdt4_t10 g_m_mdt4_t10 w_m_mdt4_t10 (fun q => absurd q (by decide)) (fun q => absurd q (by decide))), (Nd_0 (by decide) Mo_nil), ⟨(Io_2 (by have := or_256 (b := 1) (show (0 &&& 1) < 256 from by omega); omega) (by have := or_256 (b := 1) (show (0 &&& 1) < 256 from by omega); omega) (by have := or_256 (b := 1) (show (0 &&& 1) < 256 from by omega); omega) m_m_mdt4_t10 g_m_mdt4_t10 w_m_mdt4_t10), (Nd_A (by decide) (Mo_cons (fun q => show m_md t4 ≤ m_md t4 from by omega) Mo_nil) (Or.inr ⟨(3, m_md t4, 0 &&& 1), List.mem_cons_self, rfl, Or.inl rfl⟩)), ⟨(Io_n (by decide) (show 0 &&& 1 < 4096 from by omega) m_m_mdt4_t10 g_m_mdt4_t10 w_m_mdt4_t10 (fun q => absurd q (by decide)) (fun q => absurd q (by decide))), (Nd_0 (by decide) (Mo_cons (fun q => show m_md t4 ≤ m_md t4 from by omega) (Mo_cons (fun q => show m_md t4 ≤ m_md t4 from by omega) Mo_nil))), Stk_step (N := n) (pop := (58, n, t)) (new := [(32, m_md t4, 0 &&& 1), (2, m_md t4, (0 &&& 1) ||| (1 * 256)), (3, m_md t4, 0 &&& 1)]) F0 C_t10.1 (fun _ => m_n_t0) (fun q _ h => h (58, n, t) rfl) (fun _ => rfl) (fun y hy hk => ⟨rfl, (Mo_cons (fun q => show n ≤ m_md t4 from by omega) (Mo_cons (fun q => show n ≤ m_md t4 from by omega) (Mo_cons (fun q => show n ≤ m_md t4 from by omega) Mo_nil))) y hy hk⟩) (fun (h : 58 = 3 ∨ 58 = 18 ∨ 58 = 41) => absurd h (by decide)) (fun (h : 58 = 18) => absurd h (by decide)) (fun (h : 58 = 41 ∨ 58 = 42 ∨ 58 = 43) => absurd h (by decide)) r [] (fun y hy => absurd hy List.not_mem_nil) hS⟩⟩⟩
      · exact (Aj_up (x := (3, m_md t4, 0 &&& 1)) (Aj_up (x := (2, m_md t4, (0 &&& 1) ||| (1 * 256))) (Aj_sub (y := (32, m_md t4, 0 &&& 1)) hJ (Nat.le_of_ble_eq_true rfl)) (Or.inr (show 9 - ((0 &&& 1) ||| (1 * 256)) / 256 < 9 from by have := or_256 (b := 1) (show (0 &&& 1) < 256 from by omega); omega))) (Or.inr (show 2 < 9 - ((0 &&& 1) ||| (1 * 256)) / 256 from by have := or_256 (b := 1) (show (0 &&& 1) < 256 from by omega); omega)))
      · show m_dp t10 = (dlt 3 + (dlt 2 + (dlt 32 + sD r)))
        have : dlt 2 = 0 := rfl; have : dlt 3 = 0 := rfl; have : dlt 32 = 0 := rfl; have : dlt 58 = 0 := rfl; omega
      · show m_rw t10 = (rho 3 + (rho 2 + (rho 32 + sR r)))
        have : rho 2 = 0 := rfl; have : rho 3 = 0 := rfl; have : rho 32 = 0 := rfl; have : rho 58 = 0 := rfl; omega
      · show m_md t10 + (mu7 3 + (mu7 2 + (mu7 32 + sM r))) ≤ 3 * m_at t10 + 7 * (r.length + 1 + 1 + 1) + 10
        have : mu7 2 = 7 := rfl; have : mu7 3 = 5 := rfl; have : mu7 32 = 7 := rfl; have : mu7 58 = 7 := rfl; omega
    · have w_t4 := Nat.pos_of_ne_zero w_t4
      have m_n_t4 : n < m_md t4 := by omega
      have g_n_t4 := (x_t4.2.2.1 n m_n_t0).2.1 w_n_t0 g_n_t0
      have w_n_t4 : W5 t4 n := (x_t4.2.2.1 n m_n_t0).1 w_n_t0
      refine Ok_bnc ?_
      try unfold b_X6_exprs
      refine Kp_child C_t4 m_n_t4 g_n_t4 w_n_t4 (by omega) (by omega) (fun t12 C_t12 x_t12 a_t12 b_t12 d_t12 w_t12 u_t12 v_t12 wn_t12 fn_t12 fp_t12 _ l_t12 => ?_)
      have e_t12 := C_t12.2.2.2.1
      have m_n_t12 : n < m_md t12 := by omega
      have g_n_t12 := (x_t12.2.2.1 n m_n_t4).2.1 w_n_t4 g_n_t4
      have w_n_t12 : W5 t12 n := (x_t12.2.2.1 n m_n_t4).1 w_n_t4
      have f_n_t12 : Fz t12 n := fp_t12
      have m_m_mdt4_t12 : m_md t4 < m_md t12 := by omega
      have g_m_mdt4_t12 : GdS t12 (m_md t4) := Or.inl fn_t12
      have w_m_mdt4_t12 : W5 t12 (m_md t4) := by unfold W5; rw [wn_t12]; decide
      have u_m_mdt4_t12 : Up t12 (m_md t4) := Or.inl fn_t12
      clear fp_t12 fn_t12 wn_t12
      refine Kp_push C_t12 (by omega) (fun t13 C_t13 x_t13 a_t13 b_t13 d_t13 w_t13 u_t13 v_t13 _ _ _ l_t13 => ?_)
      have e_t13 := C_t13.2.2.2.1
      have m_n_t13 : n < m_md t13 := by omega
      have g_n_t13 := (x_t13.2.2.1 n m_n_t12).2.1 w_n_t12 g_n_t12
      have w_n_t13 : W5 t13 n := (x_t13.2.2.1 n m_n_t12).1 w_n_t12
      have f_n_t13 : Fz t13 n := (x_t13.2.2.1 n m_n_t12).2.2.1 f_n_t12
      have m_m_mdt4_t13 : m_md t4 < m_md t13 := by omega
      have g_m_mdt4_t13 := (x_t13.2.2.1 (m_md t4) m_m_mdt4_t12).2.1 w_m_mdt4_t12 g_m_mdt4_t12
      have w_m_mdt4_t13 : W5 t13 (m_md t4) := (x_t13.2.2.1 (m_md t4) m_m_mdt4_t12).1 w_m_mdt4_t12
      have u_m_mdt4_t13 := (x_t13.2.2.1 (m_md t4) m_m_mdt4_t12).2.2.2.1 u_m_mdt4_t12
      refine Ok_bnc ?_
      try unfold b_X6_expression
      refine Kp_push C_t13 (by omega) (fun t15 C_t15 x_t15 a_t15 b_t15 d_t15 w_t15 u_t15 v_t15 _ _ _ l_t15 => ?_)
      have e_t15 := C_t15.2.2.2.1
      have m_n_t15 : n < m_md t15 := by omega
      have g_n_t15 := (x_t15.2.2.1 n m_n_t13).2.1 w_n_t13 g_n_t13
      have w_n_t15 : W5 t15 n := (x_t15.2.2.1 n m_n_t13).1 w_n_t13
      have f_n_t15 : Fz t15 n := (x_t15.2.2.1 n m_n_t13).2.2.1 f_n_t13
      have m_m_mdt4_t15 : m_md t4 < m_md t15 := by omega
      have g_m_mdt4_t15 := (x_t15.2.2.1 (m_md t4) m_m_mdt4_t13).2.1 w_m_mdt4_t13 g_m_mdt4_t13
      have w_m_mdt4_t15 : W5 t15 (m_md t4) := (x_t15.2.2.1 (m_md t4) m_m_mdt4_t13).1 w_m_mdt4_t13
      have u_m_mdt4_t15 := (x_t15.2.2.1 (m_md t4) m_m_mdt4_t13).2.2.2.1 u_m_mdt4_t13
      refine Kp_push C_t15 (by omega) (fun t16 C_t16 x_t16 a_t16 b_t16 d_t16 w_t16 u_t16 v_t16 _ _ _ l_t16 => ?_)
      have e_t16 := C_t16.2.2.2.1
      have m_n_t16 : n < m_md t16 := by omega
      have g_n_t16 := (x_t16.2.2.1 n m_n_t15).2.1 w_n_t15 g_n_t15
      have w_n_t16 : W5 t16 n := (x_t16.2.2.1 n m_n_t15).1 w_n_t15
      have f_n_t16 : Fz t16 n := (x_t16.2.2.1 n m_n_t15).2.2.1 f_n_t15
      have m_m_mdt4_t16 : m_md t4 < m_md t16 := by omega
      have g_m_mdt4_t16 := (x_t16.2.2.1 (m_md t4) m_m_mdt4_t15).2.1 w_m_mdt4_t15 g_m_mdt4_t15
      have w_m_mdt4_t16 : W5 t16 (m_md t4) := (x_t16.2.2.1 (m_md t4) m_m_mdt4_t15).1 w_m_mdt4_t15
      have u_m_mdt4_t16 := (x_t16.2.2.1 (m_md t4) m_m_mdt4_t15).2.2.2.1 u_m_mdt4_t15
      refine Ok_ret (show Ok _ _ _ from ?_)
      refine Ok_ret (show Ok _ _ _ from ?_)
      refine Ok_ret (show Ok _ _ _ from ?_)
      refine Ok_ret (show Ok _ _ _ from ?_)
      exact Or.inl ⟨Nat.ne_of_gt (show 0 < m_wr t16 from by omega), by omega⟩
  · refine Ok_ife (show t < 2147483648 from by omega) (by decide) (fun q17 => ?_) (fun q17 => ?_)
    · refine Kp_pass C_t0 hT (by omega) (by decide) (by omega) (fun t18 C_t18 x_t18 a_t18 b_t18 d_t18 w_t18 u_t18 v_t18 _ _ _ l_t18 => ?_)
      have e_t18 := C_t18.2.2.2.1
      rcases w_t18 with ⟨w_t18, y_t18⟩ | ⟨w_t18, wb_t18⟩
      · have z_t18 : m_at t0 < m_ct t0 := lo_ne (Nat.ne_of_gt (show 0 < lo t0 (m_at t0) from by omega))
        have m_n_t18 : n < m_md t18 := by omega
        have g_n_t18 := (x_t18.2.2.1 n m_n_t0).2.1 w_n_t0 g_n_t0
        have w_n_t18 : W5 t18 n := (x_t18.2.2.1 n m_n_t0).1 w_n_t0
        refine Ok_bnc ?_
        try unfold b_X6_exprs
        refine Kp_child C_t18 m_n_t18 g_n_t18 w_n_t18 (by omega) (by omega) (fun t20 C_t20 x_t20 a_t20 b_t20 d_t20 w_t20 u_t20 v_t20 wn_t20 fn_t20 fp_t20 _ l_t20 => ?_)
        have e_t20 := C_t20.2.2.2.1
        have m_n_t20 : n < m_md t20 := by omega
        have g_n_t20 := (x_t20.2.2.1 n m_n_t18).2.1 w_n_t18 g_n_t18
        have w_n_t20 : W5 t20 n := (x_t20.2.2.1 n m_n_t18).1 w_n_t18
        have f_n_t20 : Fz t20 n := fp_t20
        have m_m_mdt18_t20 : m_md t18 < m_md t20 := by omega
        have g_m_mdt18_t20 : GdS t20 (m_md t18) := Or.inl fn_t20
        have w_m_mdt18_t20 : W5 t20 (m_md t18) := by unfold W5; rw [wn_t20]; decide
        have u_m_mdt18_t20 : Up t20 (m_md t18) := Or.inl fn_t20
        clear fp_t20 fn_t20 wn_t20
        refine Kp_push C_t20 (by omega) (fun t21 C_t21 x_t21 a_t21 b_t21 d_t21 w_t21 u_t21 v_t21 _ _ _ l_t21 => ?_)
        have e_t21 := C_t21.2.2.2.1
        have m_n_t21 : n < m_md t21 := by omega
        have g_n_t21 := (x_t21.2.2.1 n m_n_t20).2.1 w_n_t20 g_n_t20
        have w_n_t21 : W5 t21 n := (x_t21.2.2.1 n m_n_t20).1 w_n_t20
        have f_n_t21 : Fz t21 n := (x_t21.2.2.1 n m_n_t20).2.2.1 f_n_t20
        have m_m_mdt18_t21 : m_md t18 < m_md t21 := by omega
        have g_m_mdt18_t21 := (x_t21.2.2.1 (m_md t18) m_m_mdt18_t20).2.1 w_m_mdt18_t20 g_m_mdt18_t20
        have w_m_mdt18_t21 : W5 t21 (m_md t18) := (x_t21.2.2.1 (m_md t18) m_m_mdt18_t20).1 w_m_mdt18_t20
        have u_m_mdt18_t21 := (x_t21.2.2.1 (m_md t18) m_m_mdt18_t20).2.2.2.1 u_m_mdt18_t20
        refine Ok_bnc ?_
        try unfold b_X6_expression
        refine Kp_push C_t21 (by omega) (fun t23 C_t23 x_t23 a_t23 b_t23 d_t23 w_t23 u_t23 v_t23 _ _ _ l_t23 => ?_)
        have e_t23 := C_t23.2.2.2.1
        have m_n_t23 : n < m_md t23 := by omega
        have g_n_t23 := (x_t23.2.2.1 n m_n_t21).2.1 w_n_t21 g_n_t21
        have w_n_t23 : W5 t23 n := (x_t23.2.2.1 n m_n_t21).1 w_n_t21
        have f_n_t23 : Fz t23 n := (x_t23.2.2.1 n m_n_t21).2.2.1 f_n_t21
        have m_m_mdt18_t23 : m_md t18 < m_md t23 := by omega
        have g_m_mdt18_t23 := (x_t23.2.2.1 (m_md t18) m_m_mdt18_t21).2.1 w_m_mdt18_t21 g_m_mdt18_t21
        have w_m_mdt18_t23 : W5 t23 (m_md t18) := (x_t23.2.2.1 (m_md t18) m_m_mdt18_t21).1 w_m_mdt18_t21
        have u_m_mdt18_t23 := (x_t23.2.2.1 (m_md t18) m_m_mdt18_t21).2.2.2.1 u_m_mdt18_t21
        refine Kp_push C_t23 (by omega) (fun t24 C_t24 x_t24 a_t24 b_t24 d_t24 w_t24 u_t24 v_t24 _ _ _ l_t24 => ?_)
        have e_t24 := C_t24.2.2.2.1
        have m_n_t24 : n < m_md t24 := by omega
        have g_n_t24 := (x_t24.2.2.1 n m_n_t23).2.1 w_n_t23 g_n_t23
        have w_n_t24 : W5 t24 n := (x_t24.2.2.1 n m_n_t23).1 w_n_t23
        have f_n_t24 : Fz t24 n := (x_t24.2.2.1 n m_n_t23).2.2.1 f_n_t23
        have m_m_mdt18_t24 : m_md t18 < m_md t24 := by omega
        have g_m_mdt18_t24 := (x_t24.2.2.1 (m_md t18) m_m_mdt18_t23).2.1 w_m_mdt18_t23 g_m_mdt18_t23
        have w_m_mdt18_t24 : W5 t24 (m_md t18) := (x_t24.2.2.1 (m_md t18) m_m_mdt18_t23).1 w_m_mdt18_t23
        have u_m_mdt18_t24 := (x_t24.2.2.1 (m_md t18) m_m_mdt18_t23).2.2.2.1 u_m_mdt18_t23
        refine Ok_ret (show Ok _ _ _ from ?_)
        refine Ok_ret (show Ok _ _ _ from ?_)
        refine Ok_ret (show Ok _ _ _ from ?_)
        refine Ok_ret (show Ok _ _ _ from ?_)
        refine Hv_mk C_t24 hT (by omega) (by omega) (by omega) ?_ ?_ ?_ (by omega) ?_ ?_
        · exact ⟨(Io_n (by decide) (show 0 &&& 1 < 4096 from by omega) m_m_mdt18_t24 g_m_mdt18_t24 w_m_mdt18_t24 (fun q => absurd q (by decide)) (fun q => absurd q (by decide))), (Nd_0 (by decide) Mo_nil), ⟨(Io_2 (by have := or_256 (b := 1) (show (0 &&& 1) < 256 from by omega); omega) (by have := or_256 (b := 1) (show (0 &&& 1) < 256 from by omega); omega) (by have := or_256 (b := 1) (show (0 &&& 1) < 256 from by omega); omega) m_m_mdt18_t24 g_m_mdt18_t24 w_m_mdt18_t24), (Nd_A (by decide) (Mo_cons (fun q => show m_md t18 ≤ m_md t18 from by omega) Mo_nil) (Or.inr ⟨(3, m_md t18, 0 &&& 1), List.mem_cons_self, rfl, Or.inl rfl⟩)), ⟨(Io_n (by decide) (show 0 &&& 1 < 4096 from by omega) m_m_mdt18_t24 g_m_mdt18_t24 w_m_mdt18_t24 (fun q => absurd q (by decide)) (fun q => absurd q (by decide))), (Nd_0 (by decide) (Mo_cons (fun q => show m_md t18 ≤ m_md t18 from by omega) (Mo_cons (fun q => show m_md t18 ≤ m_md t18 from by omega) Mo_nil))), Stk_step (N := n) (pop := (58, n, t)) (new := [(32, m_md t18, 0 &&& 1), (2, m_md t18, (0 &&& 1) ||| (1 * 256)), (3, m_md t18, 0 &&& 1)]) F0 C_t24.1 (fun _ => m_n_t0) (fun q _ h => h (58, n, t) rfl) (fun _ => rfl) (fun y hy hk => ⟨rfl, (Mo_cons (fun q => show n ≤ m_md t18 from by omega) (Mo_cons (fun q => show n ≤ m_md t18 from by omega) (Mo_cons (fun q => show n ≤ m_md t18 from by omega) Mo_nil))) y hy hk⟩) (fun (h : 58 = 3 ∨ 58 = 18 ∨ 58 = 41) => absurd h (by decide)) (fun (h : 58 = 18) => absurd h (by decide)) (fun (h : 58 = 41 ∨ 58 = 42 ∨ 58 = 43) => absurd h (by decide)) r [] (fun y hy => absurd hy List.not_mem_nil) hS⟩⟩⟩
        · exact (Aj_up (x := (3, m_md t18, 0 &&& 1)) (Aj_up (x := (2, m_md t18, (0 &&& 1) ||| (1 * 256))) (Aj_sub (y := (32, m_md t18, 0 &&& 1)) hJ (Nat.le_of_ble_eq_true rfl)) (Or.inr (show 9 - ((0 &&& 1) ||| (1 * 256)) / 256 < 9 from by have := or_256 (b := 1) (show (0 &&& 1) < 256 from by omega); omega))) (Or.inr (show 2 < 9 - ((0 &&& 1) ||| (1 * 256)) / 256 from by have := or_256 (b := 1) (show (0 &&& 1) < 256 from by omega); omega)))
        · show m_dp t24 = (dlt 3 + (dlt 2 + (dlt 32 + sD r)))
          have : dlt 2 = 0 := rfl; have : dlt 3 = 0 := rfl; have : dlt 32 = 0 := rfl; have : dlt 58 = 0 := rfl; omega
        · show m_rw t24 = (rho 3 + (rho 2 + (rho 32 + sR r)))
          have : rho 2 = 0 := rfl; have : rho 3 = 0 := rfl; have : rho 32 = 0 := rfl; have : rho 58 = 0 := rfl; omega
        · show m_md t24 + (mu7 3 + (mu7 2 + (mu7 32 + sM r))) ≤ 3 * m_at t24 + 7 * (r.length + 1 + 1 + 1) + 10
          have : mu7 2 = 7 := rfl; have : mu7 3 = 5 := rfl; have : mu7 32 = 7 := rfl; have : mu7 58 = 7 := rfl; omega
      · have w_t18 := Nat.pos_of_ne_zero w_t18
        have m_n_t18 : n < m_md t18 := by omega
        have g_n_t18 := (x_t18.2.2.1 n m_n_t0).2.1 w_n_t0 g_n_t0
        have w_n_t18 : W5 t18 n := (x_t18.2.2.1 n m_n_t0).1 w_n_t0
        refine Ok_bnc ?_
        try unfold b_X6_exprs
        refine Kp_child C_t18 m_n_t18 g_n_t18 w_n_t18 (by omega) (by omega) (fun t26 C_t26 x_t26 a_t26 b_t26 d_t26 w_t26 u_t26 v_t26 wn_t26 fn_t26 fp_t26 _ l_t26 => ?_)
        have e_t26 := C_t26.2.2.2.1
        have m_n_t26 : n < m_md t26 := by omega
        have g_n_t26 := (x_t26.2.2.1 n m_n_t18).2.1 w_n_t18 g_n_t18
        have w_n_t26 : W5 t26 n := (x_t26.2.2.1 n m_n_t18).1 w_n_t18
        have f_n_t26 : Fz t26 n := fp_t26
        have m_m_mdt18_t26 : m_md t18 < m_md t26 := by omega
        have g_m_mdt18_t26 : GdS t26 (m_md t18) := Or.inl fn_t26
        have w_m_mdt18_t26 : W5 t26 (m_md t18) := by unfold W5; rw [wn_t26]; decide
        have u_m_mdt18_t26 : Up t26 (m_md t18) := Or.inl fn_t26
        clear fp_t26 fn_t26 wn_t26
        refine Kp_push C_t26 (by omega) (fun t27 C_t27 x_t27 a_t27 b_t27 d_t27 w_t27 u_t27 v_t27 _ _ _ l_t27 => ?_)
        have e_t27 := C_t27.2.2.2.1
        have m_n_t27 : n < m_md t27 := by omega
        have g_n_t27 := (x_t27.2.2.1 n m_n_t26).2.1 w_n_t26 g_n_t26
        have w_n_t27 : W5 t27 n := (x_t27.2.2.1 n m_n_t26).1 w_n_t26
        have f_n_t27 : Fz t27 n := (x_t27.2.2.1 n m_n_t26).2.2.1 f_n_t26
        have m_m_mdt18_t27 : m_md t18 < m_md t27 := by omega
        have g_m_mdt18_t27 := (x_t27.2.2.1 (m_md t18) m_m_mdt18_t26).2.1 w_m_mdt18_t26 g_m_mdt18_t26
        have w_m_mdt18_t27 : W5 t27 (m_md t18) := (x_t27.2.2.1 (m_md t18) m_m_mdt18_t26).1 w_m_mdt18_t26
        have u_m_mdt18_t27 := (x_t27.2.2.1 (m_md t18) m_m_mdt18_t26).2.2.2.1 u_m_mdt18_t26
        refine Ok_bnc ?_
        try unfold b_X6_expression
        refine Kp_push C_t27 (by omega) (fun t29 C_t29 x_t29 a_t29 b_t29 d_t29 w_t29 u_t29 v_t29 _ _ _ l_t29 => ?_)
        have e_t29 := C_t29.2.2.2.1
        have m_n_t29 : n < m_md t29 := by omega
        have g_n_t29 := (x_t29.2.2.1 n m_n_t27).2.1 w_n_t27 g_n_t27
        have w_n_t29 : W5 t29 n := (x_t29.2.2.1 n m_n_t27).1 w_n_t27
        have f_n_t29 : Fz t29 n := (x_t29.2.2.1 n m_n_t27).2.2.1 f_n_t27
        have m_m_mdt18_t29 : m_md t18 < m_md t29 := by omega
        have g_m_mdt18_t29 := (x_t29.2.2.1 (m_md t18) m_m_mdt18_t27).2.1 w_m_mdt18_t27 g_m_mdt18_t27
        have w_m_mdt18_t29 : W5 t29 (m_md t18) := (x_t29.2.2.1 (m_md t18) m_m_mdt18_t27).1 w_m_mdt18_t27
        have u_m_mdt18_t29 := (x_t29.2.2.1 (m_md t18) m_m_mdt18_t27).2.2.2.1 u_m_mdt18_t27
        refine Kp_push C_t29 (by omega) (fun t30 C_t30 x_t30 a_t30 b_t30 d_t30 w_t30 u_t30 v_t30 _ _ _ l_t30 => ?_)
        have e_t30 := C_t30.2.2.2.1
        have m_n_t30 : n < m_md t30 := by omega
        have g_n_t30 := (x_t30.2.2.1 n m_n_t29).2.1 w_n_t29 g_n_t29
        have w_n_t30 : W5 t30 n := (x_t30.2.2.1 n m_n_t29).1 w_n_t29
        have f_n_t30 : Fz t30 n := (x_t30.2.2.1 n m_n_t29).2.2.1 f_n_t29
        have m_m_mdt18_t30 : m_md t18 < m_md t30 := by omega
        have g_m_mdt18_t30 := (x_t30.2.2.1 (m_md t18) m_m_mdt18_t29).2.1 w_m_mdt18_t29 g_m_mdt18_t29
        have w_m_mdt18_t30 : W5 t30 (m_md t18) := (x_t30.2.2.1 (m_md t18) m_m_mdt18_t29).1 w_m_mdt18_t29
        have u_m_mdt18_t30 := (x_t30.2.2.1 (m_md t18) m_m_mdt18_t29).2.2.2.1 u_m_mdt18_t29
        refine Ok_ret (show Ok _ _ _ from ?_)
        refine Ok_ret (show Ok _ _ _ from ?_)
        refine Ok_ret (show Ok _ _ _ from ?_)
        refine Ok_ret (show Ok _ _ _ from ?_)
        exact Or.inl ⟨Nat.ne_of_gt (show 0 < m_wr t30 from by omega), by omega⟩
    · refine Ok_ret (show Ok _ _ _ from ?_)
      refine Ok_ret (show Ok _ _ _ from ?_)
      refine Hv_mk C_t0 hT (by omega) (by omega) (by omega) ?_ ?_ ?_ (by omega) ?_ ?_
      · exact Stk_step (N := n) (pop := (58, n, t)) (new := []) F0 C_t0.1 (fun _ => m_n_t0) (fun q _ h => h (58, n, t) rfl) (fun _ => rfl) (fun y hy hk => ⟨rfl, Mo_nil (n := n) y hy hk⟩) (fun (h : 58 = 3 ∨ 58 = 18 ∨ 58 = 41) => absurd h (by decide)) (fun (h : 58 = 18) => absurd h (by decide)) (fun (h : 58 = 41 ∨ 58 = 42 ∨ 58 = 43) => absurd h (by decide)) r [] (fun y hy => absurd hy List.not_mem_nil) hS
      · exact Aj_tl hJ
      · show m_dp t0 = sD r
        have : dlt 58 = 0 := rfl; omega
      · show m_rw t0 = sR r
        have : rho 58 = 0 := rfl; omega
      · show m_md t0 + sM r ≤ 3 * m_at t0 + 7 * (r.length) + 10
        have : mu7 58 = 7 := rfl; omega

