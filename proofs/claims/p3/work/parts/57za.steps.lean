/-! The steps of the reference, one by one. -/
theorem S_43 {t0 : Mm} {n t : Nat} {r : List It} (H : Hp t0 (43, n, t) r) {E : Mm → Prop} : Ok (Qh (mz t0 ((43, n, t) :: r))) E (b_X6_step 43 n t t0) := by
  obtain ⟨hK, hT, hc, hw0, ha, hC, hS, hJ, hdp, hdl, hrw, hmd, htd, hln, hm16, hI, hD, hTt⟩ := Hp_out H
  have C_t0 := hC n
  have F0 := C_t0.2.1
  have I_n_t0 : Nq t0 n := ⟨(hI.2.1 rfl).1, (hI.2.1 rfl).2.1, (hI.2.1 rfl).2.2, hI.2.2.2 rfl⟩
  have m_n_t0 := I_n_t0.1
  have ht : t < 4096 := hI.1.1 (show 43 ≠ 42 by decide) (show 43 ≠ 48 by decide)
  have hdp : m_dp t0 = dlt 43 + sD r := hdp
  have hrw : m_rw t0 = rho 43 + sR r := hrw
  have hmd : m_md t0 + mu7 43 + sM r ≤ 3 * m_at t0 + 7 * r.length + 17 := hmd
  have hand : t &&& 1 ≤ 1 := Nat.and_le_right
  have h01 : (0 &&& 1 : Nat) = 0 := rfl
  have hor0 : (t &&& 1) ||| 0 ≤ 1 := by rw [Nat.or_zero]; exact hand
  have hor2 : (t &&& 1) ||| 2 < 4 := Nat.or_lt_two_pow (n := 2) (by omega) (by decide)
  have h02 : (1 : Nat) * 256 = 256 := rfl
  have hq1 : dlt 43 = 0 := rfl
  have hq2 : rho 43 = 0 := rfl
  have hq3 : mu7 43 = 4 := rfl
  obtain ⟨f5, -, -, g43, w43⟩ := hD.2.2.2.1 rfl
  have f_n_t0 : Fz t0 n := f5
  obtain ⟨hla0, hla2, -, -⟩ := Fo_lp F0 I_n_t0 f_n_t0
  have hla1 : m_la t0 n - 1 < m_md t0 := by omega
  have u_n_t0 : Up t0 n := hI.2.2.1 rfl
  unfold b_X6_step
  refine Ok_ifl (by decide) (by decide) (fun _ => ?_) (fun q => absurd (by decide) q)
  refine Ok_ifl (by decide) (by decide) (fun q => absurd q (by decide)) (fun _ => ?_)
  refine Ok_ifl (by decide) (by decide) (fun q => absurd q (by decide)) (fun _ => ?_)
  refine Ok_ifl (by decide) (by decide) (fun q => absurd q (by decide)) (fun _ => ?_)
  refine Ok_bnc ?_
  try unfold b_X6_stating
  refine Ok_ck (by decide) ?_
  refine Ok_ife (by decide) (by decide) (fun q => absurd q (by decide)) (fun _ => ?_)
  refine Ok_ife (by decide) (by decide) (fun q => absurd q (by decide)) (fun _ => ?_)
  refine Ok_ife (by decide) (by decide) (fun _ => ?_) (fun q => absurd (by decide) q)
  refine Ok_bnc ?_
  try unfold b_X6_listRest
  refine Ok_ck (show n < 65536 from by omega) ?_
  refine Ok_ck (show (m_la t0 n) ≠ 0 from by omega) ?_
  refine Ok_ck (show ((m_la t0 n) - 1) < 65536 from by omega) ?_
  exact Ok_imp (Q_43_loop H) (fun v s9 h9 => h9)

theorem S_56 {t0 : Mm} {n t : Nat} {r : List It} (H : Hp t0 (56, n, t) r) {E : Mm → Prop} : Ok (Qh (mz t0 ((56, n, t) :: r))) E (b_X6_step 56 n t t0) := by
  obtain ⟨hK, hT, hc, hw0, ha, hC, hS, hJ, hdp, hdl, hrw, hmd, htd, hln, hm16, hI, hD, hTt⟩ := Hp_out H
  have C_t0 := hC n
  have F0 := C_t0.2.1
  have I_n_t0 : Nq t0 n := ⟨(hI.2.1 rfl).1, (hI.2.1 rfl).2.1, (hI.2.1 rfl).2.2, hI.2.2.2 rfl⟩
  have m_n_t0 := I_n_t0.1
  have ht : t < 4096 := hI.1.1 (show 56 ≠ 42 by decide) (show 56 ≠ 48 by decide)
  have hdp : m_dp t0 = dlt 56 + sD r := hdp
  have hrw : m_rw t0 = rho 56 + sR r := hrw
  have hmd : m_md t0 + mu7 56 + sM r ≤ 3 * m_at t0 + 7 * r.length + 17 := hmd
  have hand : t &&& 1 ≤ 1 := Nat.and_le_right
  have h01 : (0 &&& 1 : Nat) = 0 := rfl
  have h02 : (1 : Nat) * 256 = 256 := rfl
  have hq1 : dlt 56 = 0 := rfl
  have hq2 : rho 56 = 0 := rfl
  have hq3 : mu7 56 = 7 := rfl
  unfold b_X6_step
  refine Ok_ifl (by decide) (by decide) (fun _ => ?_) (fun q => absurd (by decide) q)
  refine Ok_ifl (by decide) (by decide) (fun q => absurd q (by decide)) (fun _ => ?_)
  refine Ok_ifl (by decide) (by decide) (fun q => absurd q (by decide)) (fun _ => ?_)
  refine Ok_ifl (by decide) (by decide) (fun q => absurd q (by decide)) (fun _ => ?_)
  refine Ok_bnc ?_
  try unfold b_X6_stating
  refine Ok_ck (by decide) ?_
  refine Ok_ife (by decide) (by decide) (fun q => absurd q (by decide)) (fun _ => ?_)
  refine Ok_ife (by decide) (by decide) (fun q => absurd q (by decide)) (fun _ => ?_)
  refine Ok_ife (by decide) (by decide) (fun q => absurd q (by decide)) (fun _ => ?_)
  refine Ok_ife (by decide) (by decide) (fun q => absurd q (by decide)) (fun _ => ?_)
  refine Ok_ife (by decide) (by decide) (fun q => absurd q (by decide)) (fun _ => ?_)
  refine Ok_ife (by decide) (by decide) (fun q => absurd q (by decide)) (fun _ => ?_)
  refine Ok_ife (by decide) (by decide) (fun q => absurd q (by decide)) (fun _ => ?_)
  refine Ok_ife (by decide) (by decide) (fun q => absurd q (by decide)) (fun _ => ?_)
  refine Ok_ife (by decide) (by decide) (fun q => absurd q (by decide)) (fun _ => ?_)
  refine Ok_ife (by decide) (by decide) (fun q => absurd q (by decide)) (fun _ => ?_)
  refine Ok_ife (by decide) (by decide) (fun q => absurd q (by decide)) (fun _ => ?_)
  refine Ok_ife (by decide) (by decide) (fun q => absurd q (by decide)) (fun _ => ?_)
  refine Ok_ife (by decide) (by decide) (fun q => absurd q (by decide)) (fun _ => ?_)
  refine Ok_ife (by decide) (by decide) (fun q => absurd q (by decide)) (fun _ => ?_)
  refine Ok_ife (by decide) (by decide) (fun q => absurd q (by decide)) (fun _ => ?_)
  refine Ok_ife (by decide) (by decide) (fun _ => ?_) (fun q => absurd (by decide) q)
  refine Ok_bnc ?_
  exact Ok_imp (Q_guarded H) (fun v s9 h9 => h9)

