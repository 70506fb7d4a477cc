/-! The steps of the reference, one by one. -/
theorem Q_listRest_18_o {t0 : Mm} {n t : Nat} {r : List It} (H : Hp t0 (43, n, t) r) {E : Mm → Prop} (f y4 : Nat) (h4 : y4 ≤ 1) (hk0 : lo t0 (m_at t0) ≠ 70) (hk1 : lo t0 (m_at t0) ≠ 76) : Ok (Qh (mz t0 ((43, n, t) :: r))) E (lp_X6_listRest_18 ((f + 1)) n t ((m_la t0 n - 1)) y4 0 t0) := by
  obtain ⟨hK, hT, hc, hw0, ha, hC, hS, hJ, hdp, hdl, hrw, hmd, htd, hln, hm16, hI, hD, hTt⟩ := Hp_out H
  have C_t0 := hC n
  have F0 := C_t0.2.1
  have I_n_t0 : Nq t0 n := ⟨(hI.2.1 rfl).1, (hI.2.1 rfl).2.1, (hI.2.1 rfl).2.2, hI.2.2.2 rfl⟩
  have m_n_t0 := I_n_t0.1
  have ht : t < 4096 := hI.1.1 (show 43 ≠ 42 by decide) (show 43 ≠ 48 by decide)
  have hdp : m_dp t0 = dlt 43 + sD r := hdp
  have hrw : m_rw t0 = rho 43 + sR r := hrw
  have hmd : m_md t0 + mu7 43 + sM r ≤ 3 * m_at t0 + 7 * r.length + 17 := hmd
  have hand : t &&& 1 ≤ 1 := Nat.and_le_right
  have h01 : (0 &&& 1 : Nat) = 0 := rfl
  have hor0 : (t &&& 1) ||| 0 ≤ 1 := by rw [Nat.or_zero]; exact hand
  have hor2 : (t &&& 1) ||| 2 < 4 := Nat.or_lt_two_pow (n := 2) (by omega) (by decide)
  have h02 : (1 : Nat) * 256 = 256 := rfl
  have hq1 : dlt 43 = 0 := rfl
  have hq2 : rho 43 = 0 := rfl
  have hq3 : mu7 43 = 4 := rfl
  obtain ⟨f5, -, -, g43, w43⟩ := hD.2.2.2.1 rfl
  have f_n_t0 : Fz t0 n := f5
  obtain ⟨hla0, hla2, -, -⟩ := Fo_lp F0 I_n_t0 f_n_t0
  have hla1 : m_la t0 n - 1 < m_md t0 := by omega
  have u_n_t0 : Up t0 n := hI.2.2.1 rfl
  rw [lp_X6_listRest_18]
  refine Ok_ifz0 ?_
  refine Kp_look C_t0 hT (by omega) ?_
  refine Ok_ife (Nat.lt_trans (lo_lt (C_t0.tk hT) _) (by decide)) (by decide) (fun q => absurd q hk0) (fun q => ?_)
  refine Kp_look C_t0 hT (by omega) ?_
  refine Ok_ife (Nat.lt_trans (lo_lt (C_t0.tk hT) _) (by decide)) (by decide) (fun q => absurd q hk1) (fun q => ?_)
  refine Kp_error C_t0 (by omega) (fun t1 C_t1 X_t1 a_t1 b_t1 d_t1 w_t1 u_t1 v_t1 j_t1 l_t1 => ?_)
  have wb_t1 := w_t1.2
  have w_t1 := Nat.pos_of_ne_zero w_t1.1
  have e_t1 := C_t1.2.2.2.1
  have I_n_t1 := I_n_t0.flat X_t1
  have f_n_t1 := f_n_t0.ex I_n_t0 (X_t1 0)
  have u_n_t1 := u_n_t0.ex I_n_t0 (X_t1 0)
  exact Or.inl ⟨Nat.ne_of_gt (show 0 < m_wr t1 from by omega), by omega, by omega, C_t1.2.2.2.2.2, by omega⟩

theorem Q_listRest_18 {t0 : Mm} {n t : Nat} {r : List It} (H : Hp t0 (43, n, t) r) {E : Mm → Prop} (f y4 : Nat) (h4 : y4 ≤ 1) : Ok (Qh (mz t0 ((43, n, t) :: r))) E (lp_X6_listRest_18 ((f + 1)) n t ((m_la t0 n - 1)) y4 0 t0) := by
  by_cases hz70 : lo t0 (m_at t0) = 70
  · exact Q_listRest_18_t70 H f y4 h4 hz70
  by_cases hz76 : lo t0 (m_at t0) = 76
  · by_cases g0 : f_X6_has t 4 = 0
    · by_cases g1 : f_X6_has t 8 = 0
      · by_cases g2 : f_X6_has t 16 = 0
        · exact Q_listRest_18_t76aaa H f y4 h4 hz76 g0 g1 g2
        · exact Q_listRest_18_t76aab H f y4 h4 hz76 g0 g1 g2
      · by_cases g2 : f_X6_has t 16 = 0
        · exact Q_listRest_18_t76aba H f y4 h4 hz76 g0 g1 g2
        · exact Q_listRest_18_t76abb H f y4 h4 hz76 g0 g1 g2
    · by_cases g1 : f_X6_has t 8 = 0
      · by_cases g2 : f_X6_has t 16 = 0
        · exact Q_listRest_18_t76baa H f y4 h4 hz76 g0 g1 g2
        · exact Q_listRest_18_t76bab H f y4 h4 hz76 g0 g1 g2
      · by_cases g2 : f_X6_has t 16 = 0
        · exact Q_listRest_18_t76bba H f y4 h4 hz76 g0 g1 g2
        · exact Q_listRest_18_t76bbb H f y4 h4 hz76 g0 g1 g2
  exact Q_listRest_18_o H f y4 h4 hz70 hz76

