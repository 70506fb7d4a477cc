/-! The steps of the reference, one by one. -/
theorem Q_simpleRest_221_o {t0 : Mm} {n t : Nat} {r : List It} (H : Hp t0 (42, n, t) r) {E : Mm → Prop} (y6 : Nat) (h6 : y6 ≤ 1) (h69 : m_wh t0 (m_la t0 n - 1) ≠ 69) (hk0 : lo t0 (m_at t0) ≠ 84) (hk1 : lo t0 (m_at t0) ≠ 70) (hk2 : lo t0 (m_at t0) ≠ 76) : Ok (Qh (mz t0 ((42, n, t) :: r))) E (lp_X6_simpleRest_221 n (t &&& 255) (t / 256) (lo t0 (m_at t0)) y6 t0) := by
  obtain ⟨hK, hT, hc, hw0, ha, hC, hS, hJ, hdp, hdl, hrw, hmd, htd, hln, hm16, hI, hD, hTt⟩ := Hp_out H
  have C_t0 := hC n
  have F0 := C_t0.2.1
  have I_n_t0 : Nq t0 n := ⟨(hI.2.1 rfl).1, (hI.2.1 rfl).2.1, (hI.2.1 rfl).2.2, hI.2.2.2 rfl⟩
  have m_n_t0 := I_n_t0.1
  have ht : t < 2097152 := hI.1.2.2.1 rfl
  have h255 : t &&& 255 ≤ 255 := Nat.and_le_right
  have hand2 : t &&& 255 &&& 1 ≤ 1 := Nat.and_le_right
  have hdp : m_dp t0 = dlt 42 + sD r := hdp
  have hrw : m_rw t0 = rho 42 + sR r := hrw
  have hmd : m_md t0 + mu7 42 + sM r ≤ 3 * m_at t0 + 7 * r.length + 17 := hmd
  have hand : t &&& 1 ≤ 1 := Nat.and_le_right
  have h01 : (0 &&& 1 : Nat) = 0 := rfl
  have hor0 : (t &&& 255 &&& 1) ||| 0 ≤ 1 := by rw [Nat.or_zero]; exact hand2
  have hor2 : (t &&& 255 &&& 1) ||| 2 < 4 := Nat.or_lt_two_pow (n := 2) (by omega) (by decide)
  have h02 : (1 : Nat) * 256 = 256 := rfl
  have hq1 : dlt 42 = 0 := rfl
  have hq2 : rho 42 = 0 := rfl
  have hq3 : mu7 42 = 8 := rfl
  have f_n_t0 : Fz t0 n := (hD.2.1 (show 42 = 2 ∨ 42 = 4 ∨ 42 = 42 ∨ 42 = 50 by decide)).resolve_right (fun ⟨y, hy, _⟩ => absurd hy List.not_mem_nil)
  obtain ⟨hla0, hla2, -, -⟩ := Fo_lp F0 I_n_t0 f_n_t0
  have hla1 : m_la t0 n - 1 < m_md t0 := by omega
  have u_n_t0 : Up t0 n := hI.2.2.1 rfl
  unfold lp_X6_simpleRest_221
  refine Ok_ife (Nat.lt_trans (lo_lt (C_t0.tk hT) _) (by decide)) (by decide) (fun q => absurd q hk0) (fun q => ?_)
  refine Ok_ife (Nat.lt_trans (lo_lt (C_t0.tk hT) _) (by decide)) (by decide) (fun q => absurd q hk1) (fun q => ?_)
  refine Ok_ife (Nat.lt_trans (lo_lt (C_t0.tk hT) _) (by decide)) (by decide) (fun q => absurd q hk2) (fun q => ?_)
  try unfold lp_X6_simpleRest_348
  refine Kp_wrap C_t0 I_n_t0.1 I_n_t0.2.1 f_n_t0 I_n_t0.2.2.1 (by omega) (by omega) (by decide) (fun t1 C_t1 X_t1 a_t1 b_t1 d_t1 w_t1 u_t1 v_t1 j_t1 l_t1 => ?_)
  have e_t1 := C_t1.2.2.2.1
  have I_n_t1 := I_n_t0.le X_t1 (by omega)
  have f_n_t1 := f_n_t0.ex I_n_t0 (X_t1 0 (Nat.zero_le _))
  have u_n_t1 := u_n_t0.ex I_n_t0 (X_t1 0 (Nat.zero_le _))
  have hH : H50 t1 n := H50_mk F0 C_t1.2.1 I_n_t0 I_n_t1 f_n_t0 u_n_t0 j_t1 (by omega) hTt h69
  refine Hv_mk hK (C_t1.1.2.2.2.2.2.2 hTt) C_t1 hT (by omega) (by omega) (by omega) ?_ ?_ ?_ (by omega) ?_ ?_ ?_
  · exact Stk_step (N := n) (pop := (42, n, t)) (new := []) F0 C_t1.1.to2 (fun (h : nk 42 = false) => absurd h (by decide)) (fun q _ h => h (42, n, t) rfl) (fun _ => rfl) (fun y hy hk => ⟨rfl, Mo_nil (n := n) y hy hk⟩) (fun (h : 42 = 3 ∨ 42 = 18 ∨ 42 = 41) => absurd h (by decide)) (fun (h : 42 = 18) => absurd h (by decide)) (fun _ h16 => (Or.inr ⟨f_n_t1, (Ab_none rfl), hH⟩)) r [] (fun y hy => absurd hy List.not_mem_nil) hS
  · exact Aj_tl hJ
  · show m_dp t1 = sD r
    have : dlt 42 = 0 := rfl; omega
  · show m_rw t1 = sR r
    have : rho 42 = 0 := rfl; omega
  · show m_md t1 + sM r ≤ 3 * m_at t1 + 7 * (r.length) + 10
    have : mu7 42 = 8 := rfl; omega
  · show sW r + 6 * (4096 - m_at t1) + 4 * (600 - (r.length)) < (wt 42 + sW r) + 6 * (4096 - m_at t0) + 4 * (600 - (r.length + 1))
    have : wt 42 = 5 := rfl; omega

theorem Q_simpleRest_221 {t0 : Mm} {n t : Nat} {r : List It} (H : Hp t0 (42, n, t) r) {E : Mm → Prop} (y6 : Nat) (h6 : y6 ≤ 1) (h69 : m_wh t0 (m_la t0 n - 1) ≠ 69) : Ok (Qh (mz t0 ((42, n, t) :: r))) E (lp_X6_simpleRest_221 n (t &&& 255) (t / 256) (lo t0 (m_at t0)) y6 t0) := by
  by_cases hz84 : lo t0 (m_at t0) = 84
  · exact Q_simpleRest_221_t84 H y6 h6 h69 hz84
  by_cases hz70 : lo t0 (m_at t0) = 70
  · exact Q_simpleRest_221_t70 H y6 h6 h69 hz70
  by_cases hz76 : lo t0 (m_at t0) = 76
  · by_cases g0 : f_X6_has (t &&& 255) 4 = 0
    · by_cases g1 : f_X6_has (t &&& 255) 8 = 0
      · by_cases g2 : f_X6_has (t &&& 255) 16 = 0
        · exact Q_simpleRest_221_t76aaa H y6 h6 h69 hz76 g0 g1 g2
        · exact Q_simpleRest_221_t76aab H y6 h6 h69 hz76 g0 g1 g2
      · by_cases g2 : f_X6_has (t &&& 255) 16 = 0
        · exact Q_simpleRest_221_t76aba H y6 h6 h69 hz76 g0 g1 g2
        · exact Q_simpleRest_221_t76abb H y6 h6 h69 hz76 g0 g1 g2
    · by_cases g1 : f_X6_has (t &&& 255) 8 = 0
      · by_cases g2 : f_X6_has (t &&& 255) 16 = 0
        · exact Q_simpleRest_221_t76baa H y6 h6 h69 hz76 g0 g1 g2
        · exact Q_simpleRest_221_t76bab H y6 h6 h69 hz76 g0 g1 g2
      · by_cases g2 : f_X6_has (t &&& 255) 16 = 0
        · exact Q_simpleRest_221_t76bba H y6 h6 h69 hz76 g0 g1 g2
        · exact Q_simpleRest_221_t76bbb H y6 h6 h69 hz76 g0 g1 g2
  exact Q_simpleRest_221_o H y6 h6 h69 hz84 hz70 hz76

theorem Q_simpleRest_95 {t0 : Mm} {n t : Nat} {r : List It} (H : Hp t0 (42, n, t) r) {E : Mm → Prop} (y6 y7 : Nat) (h6 : y6 ≤ 1) (h7 : y7 ≤ 1) (h69 : m_wh t0 (m_la t0 n - 1) ≠ 69) : Ok (Qh (mz t0 ((42, n, t) :: r))) E (lp_X6_simpleRest_95 n (t &&& 255) (t / 256) (lo t0 (m_at t0)) y6 y7 t0) := by
  obtain ⟨hK, hT, hc, hw0, ha, hC, hS, hJ, hdp, hdl, hrw, hmd, htd, hln, hm16, hI, hD, hTt⟩ := Hp_out H
  have C_t0 := hC n
  have F0 := C_t0.2.1
  have I_n_t0 : Nq t0 n := ⟨(hI.2.1 rfl).1, (hI.2.1 rfl).2.1, (hI.2.1 rfl).2.2, hI.2.2.2 rfl⟩
  have m_n_t0 := I_n_t0.1
  have ht : t < 2097152 := hI.1.2.2.1 rfl
  have h255 : t &&& 255 ≤ 255 := Nat.and_le_right
  have hand2 : t &&& 255 &&& 1 ≤ 1 := Nat.and_le_right
  have hdp : m_dp t0 = dlt 42 + sD r := hdp
  have hrw : m_rw t0 = rho 42 + sR r := hrw
  have hmd : m_md t0 + mu7 42 + sM r ≤ 3 * m_at t0 + 7 * r.length + 17 := hmd
  have hand : t &&& 1 ≤ 1 := Nat.and_le_right
  have h01 : (0 &&& 1 : Nat) = 0 := rfl
  have hor0 : (t &&& 255 &&& 1) ||| 0 ≤ 1 := by rw [Nat.or_zero]; exact hand2
  have hor2 : (t &&& 255 &&& 1) ||| 2 < 4 := Nat.or_lt_two_pow (n := 2) (by omega) (by decide)
  have h02 : (1 : Nat) * 256 = 256 := rfl
  have hq1 : dlt 42 = 0 := rfl
  have hq2 : rho 42 = 0 := rfl
  have hq3 : mu7 42 = 8 := rfl
  have f_n_t0 : Fz t0 n := (hD.2.1 (show 42 = 2 ∨ 42 = 4 ∨ 42 = 42 ∨ 42 = 50 by decide)).resolve_right (fun ⟨y, hy, _⟩ => absurd hy List.not_mem_nil)
  obtain ⟨hla0, hla2, -, -⟩ := Fo_lp F0 I_n_t0 f_n_t0
  have hla1 : m_la t0 n - 1 < m_md t0 := by omega
  have u_n_t0 : Up t0 n := hI.2.2.1 rfl
  unfold lp_X6_simpleRest_95
  refine Ok_ife (Nat.lt_trans (lo_lt (C_t0.tk hT) _) (by decide)) (by decide) (fun q1 => ?_) (fun q1 => ?_)
  · exact Ok_imp (Q_simpleRest_135 H (by omega)) (fun v s9 h9 => h9)
  · refine Ok_ifz (show y7 < 2147483648 from by omega) (fun q2 => ?_) (fun q2 => ?_)
    · exact Ok_imp (Q_simpleRest_221 H y6 h6 h69) (fun v s9 h9 => h9)
    · refine Ok_share (Q := 0 < lo t0 (m_at t0)) (fun q5 => ?_) (fun kA => Ok_ife (Nat.lt_trans (lo_lt (C_t0.tk hT) _) (by decide)) (by decide) (fun q3 => kA (by rw [q3]; decide)) (fun q3 => Ok_ife (Nat.lt_trans (lo_lt (C_t0.tk hT) _) (by decide)) (by decide) (fun q4 => kA (by rw [q4]; decide)) (fun q4 => ?_)))
      · exact Ok_imp (Q_simpleRest_135 H (by omega)) (fun v s9 h9 => h9)
      · refine Ok_ifl (Nat.lt_trans (lo_lt (C_t0.tk hT) _) (by decide)) (by decide) (fun q6 => ?_) (fun q6 => ?_)
        · exact Ok_imp (Q_simpleRest_221 H y6 h6 h69) (fun v s9 h9 => h9)
        · refine Ok_ifl (by decide) (Nat.lt_trans (lo_lt (C_t0.tk hT) _) (by decide)) (fun q7 => ?_) (fun q7 => ?_)
          · exact Ok_imp (Q_simpleRest_221 H y6 h6 h69) (fun v s9 h9 => h9)
          · exact Ok_imp (Q_simpleRest_135 H (by omega)) (fun v s9 h9 => h9)

theorem S_42 {t0 : Mm} {n t : Nat} {r : List It} (H : Hp t0 (42, n, t) r) {E : Mm → Prop} : Ok (Qh (mz t0 ((42, n, t) :: r))) E (b_X6_step 42 n t t0) := by
  obtain ⟨hK, hT, hc, hw0, ha, hC, hS, hJ, hdp, hdl, hrw, hmd, htd, hln, hm16, hI, hD, hTt⟩ := Hp_out H
  have C_t0 := hC n
  have F0 := C_t0.2.1
  have I_n_t0 : Nq t0 n := ⟨(hI.2.1 rfl).1, (hI.2.1 rfl).2.1, (hI.2.1 rfl).2.2, hI.2.2.2 rfl⟩
  have m_n_t0 := I_n_t0.1
  have ht : t < 2097152 := hI.1.2.2.1 rfl
  have h255 : t &&& 255 ≤ 255 := Nat.and_le_right
  have hand2 : t &&& 255 &&& 1 ≤ 1 := Nat.and_le_right
  have hdp : m_dp t0 = dlt 42 + sD r := hdp
  have hrw : m_rw t0 = rho 42 + sR r := hrw
  have hmd : m_md t0 + mu7 42 + sM r ≤ 3 * m_at t0 + 7 * r.length + 17 := hmd
  have hand : t &&& 1 ≤ 1 := Nat.and_le_right
  have h01 : (0 &&& 1 : Nat) = 0 := rfl
  have hor0 : (t &&& 255 &&& 1) ||| 0 ≤ 1 := by rw [Nat.or_zero]; exact hand2
  have hor2 : (t &&& 255 &&& 1) ||| 2 < 4 := Nat.or_lt_two_pow (n := 2) (by omega) (by decide)
  have h02 : (1 : Nat) * 256 = 256 := rfl
  have hq1 : dlt 42 = 0 := rfl
  have hq2 : rho 42 = 0 := rfl
  have hq3 : mu7 42 = 8 := rfl
  have f_n_t0 : Fz t0 n := (hD.2.1 (show 42 = 2 ∨ 42 = 4 ∨ 42 = 42 ∨ 42 = 50 by decide)).resolve_right (fun ⟨y, hy, _⟩ => absurd hy List.not_mem_nil)
  obtain ⟨hla0, hla2, -, -⟩ := Fo_lp F0 I_n_t0 f_n_t0
  have hla1 : m_la t0 n - 1 < m_md t0 := by omega
  have u_n_t0 : Up t0 n := hI.2.2.1 rfl
  unfold b_X6_step
  refine Ok_ifl (by decide) (by decide) (fun _ => ?_) (fun q => absurd (by decide) q)
  refine Ok_ifl (by decide) (by decide) (fun q => absurd q (by decide)) (fun _ => ?_)
  refine Ok_ifl (by decide) (by decide) (fun q => absurd q (by decide)) (fun _ => ?_)
  refine Ok_ifl (by decide) (by decide) (fun q => absurd q (by decide)) (fun _ => ?_)
  refine Ok_bnc ?_
  try unfold b_X6_stating
  refine Ok_ck (by decide) ?_
  refine Ok_ife (by decide) (by decide) (fun q => absurd q (by decide)) (fun _ => ?_)
  refine Ok_ife (by decide) (by decide) (fun _ => ?_) (fun q => absurd (by decide) q)
  refine Ok_bnc ?_
  try unfold b_X6_simpleRest
  refine Ok_ck (show t < 2147483648 from by omega) ?_
  refine Kp_look C_t0 hT (by omega) ?_
  refine Ok_ck (show n < 65536 from by omega) ?_
  refine Ok_ck (show (m_la t0 n) ≠ 0 from by omega) ?_
  refine Ok_ck (show ((m_la t0 n) - 1) < 65536 from by omega) ?_
  refine Ok_ife (Nat.lt_trans (C_t0.2.2.2.2.2.2.1 _) (by decide)) (by decide) (fun q3 => ?_) (fun q3 => ?_)
  · try unfold lp_X6_simpleRest_40
    refine Ok_ck (show n < 65536 from by omega) ?_
    refine Ok_ck (show (m_la t0 n) ≠ 0 from by omega) ?_
    refine Ok_ck (show ((m_la t0 n) - 1) < 65536 from by omega) ?_
    refine Ok_ife (Nat.lt_trans (C_t0.2.2.2.2.2.2.1 _) (by decide)) (by decide) (fun q => absurd (q3.symm.trans q) (by decide)) (fun _ => ?_)
    refine Ok_ck (show t &&& 255 < 2147483648 from by omega) ?_
    refine Ok_ifz (f6_has _ _) (fun q4 => ?_) (fun q4 => ?_)
    · try unfold lp_X6_simpleRest_79
      refine Ok_ck (show t &&& 255 < 2147483648 from by omega) ?_
      refine Ok_ifz (f6_has _ _) (fun q5 => ?_) (fun q5 => ?_)
      · exact Ok_imp (Q_simpleRest_95 H 1 1 (by decide) (by decide) (fun h => absurd (q3.symm.trans h) (by decide))) (fun v s9 h9 => h9)
      · exact Ok_imp (Q_simpleRest_95 H 1 0 (by decide) (by decide) (fun h => absurd (q3.symm.trans h) (by decide))) (fun v s9 h9 => h9)
    · refine Ok_ife (Nat.lt_trans (lo_lt (C_t0.tk hT) _) (by decide)) (by decide) (fun q6 => ?_) (fun q6 => ?_)
      · refine Ok_ifz1 ?_
        try unfold lp_X6_simpleRest_79
        refine Ok_ck (show t &&& 255 < 2147483648 from by omega) ?_
        refine Ok_ifz (f6_has _ _) (fun q7 => ?_) (fun q7 => ?_)
        · exact Ok_imp (Q_simpleRest_95 H 1 1 (by decide) (by decide) (fun h => absurd (q3.symm.trans h) (by decide))) (fun v s9 h9 => h9)
        · exact Ok_imp (Q_simpleRest_95 H 1 0 (by decide) (by decide) (fun h => absurd (q3.symm.trans h) (by decide))) (fun v s9 h9 => h9)
      · refine Ok_ret (show Ok _ _ _ from ?_)
        refine Ok_ret (show Ok _ _ _ from ?_)
        refine Hv_mk hK (C_t0.1.2.2.2.2.2.2 hTt) C_t0 hT (by omega) (by omega) (by omega) ?_ ?_ ?_ (by omega) ?_ ?_ ?_
        · exact Stk_step (N := n) (pop := (42, n, t)) (new := []) F0 C_t0.1.to2 (fun (h : nk 42 = false) => absurd h (by decide)) (fun q _ h => h (42, n, t) rfl) (fun _ => rfl) (fun y hy hk => ⟨rfl, Mo_nil (n := n) y hy hk⟩) (fun (h : 42 = 3 ∨ 42 = 18 ∨ 42 = 41) => absurd h (by decide)) (fun (h : 42 = 18) => absurd h (by decide)) (fun _ h16 => (absurd (and16_255.trans h16) (has0 q4))) r [] (fun y hy => absurd hy List.not_mem_nil) hS
        · exact Aj_tl hJ
        · show m_dp t0 = sD r
          have : dlt 42 = 0 := rfl; omega
        · show m_rw t0 = sR r
          have : rho 42 = 0 := rfl; omega
        · show m_md t0 + sM r ≤ 3 * m_at t0 + 7 * (r.length) + 10
          have : mu7 42 = 8 := rfl; omega
        · show sW r + 6 * (4096 - m_at t0) + 4 * (600 - (r.length)) < (wt 42 + sW r) + 6 * (4096 - m_at t0) + 4 * (600 - (r.length + 1))
          have : wt 42 = 5 := rfl; omega
  · try unfold lp_X6_simpleRest_40
    refine Ok_ck (show n < 65536 from by omega) ?_
    refine Ok_ck (show (m_la t0 n) ≠ 0 from by omega) ?_
    refine Ok_ck (show ((m_la t0 n) - 1) < 65536 from by omega) ?_
    refine Ok_ife (Nat.lt_trans (C_t0.2.2.2.2.2.2.1 _) (by decide)) (by decide) (fun q8 => ?_) (fun q8 => ?_)
    · refine Ok_ret (show Ok _ _ _ from ?_)
      refine Ok_ret (show Ok _ _ _ from ?_)
      refine Hv_mk hK (C_t0.1.2.2.2.2.2.2 hTt) C_t0 hT (by omega) (by omega) (by omega) ?_ ?_ ?_ (by omega) ?_ ?_ ?_
      · exact Stk_step (N := n) (pop := (42, n, t)) (new := []) F0 C_t0.1.to2 (fun (h : nk 42 = false) => absurd h (by decide)) (fun q _ h => h (42, n, t) rfl) (fun _ => rfl) (fun y hy hk => ⟨rfl, Mo_nil (n := n) y hy hk⟩) (fun (h : 42 = 3 ∨ 42 = 18 ∨ 42 = 41) => absurd h (by decide)) (fun (h : 42 = 18) => absurd h (by decide)) (fun _ h16 => (Or.inr ⟨f_n_t0, (Ab_none rfl), fun _ h9 => absurd (h9.symm.trans q8) (by decide)⟩)) r [] (fun y hy => absurd hy List.not_mem_nil) hS
      · exact Aj_tl hJ
      · show m_dp t0 = sD r
        have : dlt 42 = 0 := rfl; omega
      · show m_rw t0 = sR r
        have : rho 42 = 0 := rfl; omega
      · show m_md t0 + sM r ≤ 3 * m_at t0 + 7 * (r.length) + 10
        have : mu7 42 = 8 := rfl; omega
      · show sW r + 6 * (4096 - m_at t0) + 4 * (600 - (r.length)) < (wt 42 + sW r) + 6 * (4096 - m_at t0) + 4 * (600 - (r.length + 1))
        have : wt 42 = 5 := rfl; omega
    · refine Ok_ck (show t &&& 255 < 2147483648 from by omega) ?_
      refine Ok_ifz (f6_has _ _) (fun q9 => ?_) (fun q9 => ?_)
      · try unfold lp_X6_simpleRest_79
        refine Ok_ck (show t &&& 255 < 2147483648 from by omega) ?_
        refine Ok_ifz (f6_has _ _) (fun q10 => ?_) (fun q10 => ?_)
        · exact Ok_imp (Q_simpleRest_95 H 0 1 (by decide) (by decide) q8) (fun v s9 h9 => h9)
        · exact Ok_imp (Q_simpleRest_95 H 0 0 (by decide) (by decide) q8) (fun v s9 h9 => h9)
      · refine Ok_ife (Nat.lt_trans (lo_lt (C_t0.tk hT) _) (by decide)) (by decide) (fun q11 => ?_) (fun q11 => ?_)
        · refine Ok_ifz0 ?_
          refine Ok_ret (show Ok _ _ _ from ?_)
          refine Ok_ret (show Ok _ _ _ from ?_)
          refine Hv_mk hK (C_t0.1.2.2.2.2.2.2 hTt) C_t0 hT (by omega) (by omega) (by omega) ?_ ?_ ?_ (by omega) ?_ ?_ ?_
          · exact Stk_step (N := n) (pop := (42, n, t)) (new := []) F0 C_t0.1.to2 (fun (h : nk 42 = false) => absurd h (by decide)) (fun q _ h => h (42, n, t) rfl) (fun _ => rfl) (fun y hy hk => ⟨rfl, Mo_nil (n := n) y hy hk⟩) (fun (h : 42 = 3 ∨ 42 = 18 ∨ 42 = 41) => absurd h (by decide)) (fun (h : 42 = 18) => absurd h (by decide)) (fun _ h16 => (absurd (and16_255.trans h16) (has0 q9))) r [] (fun y hy => absurd hy List.not_mem_nil) hS
          · exact Aj_tl hJ
          · show m_dp t0 = sD r
            have : dlt 42 = 0 := rfl; omega
          · show m_rw t0 = sR r
            have : rho 42 = 0 := rfl; omega
          · show m_md t0 + sM r ≤ 3 * m_at t0 + 7 * (r.length) + 10
            have : mu7 42 = 8 := rfl; omega
          · show sW r + 6 * (4096 - m_at t0) + 4 * (600 - (r.length)) < (wt 42 + sW r) + 6 * (4096 - m_at t0) + 4 * (600 - (r.length + 1))
            have : wt 42 = 5 := rfl; omega
        · refine Ok_ret (show Ok _ _ _ from ?_)
          refine Ok_ret (show Ok _ _ _ from ?_)
          refine Hv_mk hK (C_t0.1.2.2.2.2.2.2 hTt) C_t0 hT (by omega) (by omega) (by omega) ?_ ?_ ?_ (by omega) ?_ ?_ ?_
          · exact Stk_step (N := n) (pop := (42, n, t)) (new := []) F0 C_t0.1.to2 (fun (h : nk 42 = false) => absurd h (by decide)) (fun q _ h => h (42, n, t) rfl) (fun _ => rfl) (fun y hy hk => ⟨rfl, Mo_nil (n := n) y hy hk⟩) (fun (h : 42 = 3 ∨ 42 = 18 ∨ 42 = 41) => absurd h (by decide)) (fun (h : 42 = 18) => absurd h (by decide)) (fun _ h16 => (absurd (and16_255.trans h16) (has0 q9))) r [] (fun y hy => absurd hy List.not_mem_nil) hS
          · exact Aj_tl hJ
          · show m_dp t0 = sD r
            have : dlt 42 = 0 := rfl; omega
          · show m_rw t0 = sR r
            have : rho 42 = 0 := rfl; omega
          · show m_md t0 + sM r ≤ 3 * m_at t0 + 7 * (r.length) + 10
            have : mu7 42 = 8 := rfl; omega
          · show sW r + 6 * (4096 - m_at t0) + 4 * (600 - (r.length)) < (wt 42 + sW r) + 6 * (4096 - m_at t0) + 4 * (600 - (r.length + 1))
            have : wt 42 = 5 := rfl; omega

theorem Q_listRest_18_t70 {t0 : Mm} {n t : Nat} {r : List It} (H : Hp t0 (43, n, t) r) {E : Mm → Prop} (f y4 : Nat) (h4 : y4 ≤ 1) (hk0 : lo t0 (m_at t0) = 70) : Ok (Qh (mz t0 ((43, n, t) :: r))) E (lp_X6_listRest_18 ((f + 1)) n t ((m_la t0 n - 1)) y4 0 t0) := by
  obtain ⟨hK, hT, hc, hw0, ha, hC, hS, hJ, hdp, hdl, hrw, hmd, htd, hln, hm16, hI, hD, hTt⟩ := Hp_out H
  have C_t0 := hC n
  have F0 := C_t0.2.1
  have I_n_t0 : Nq t0 n := ⟨(hI.2.1 rfl).1, (hI.2.1 rfl).2.1, (hI.2.1 rfl).2.2, hI.2.2.2 rfl⟩
  have m_n_t0 := I_n_t0.1
  have ht : t < 4096 := hI.1.1 (show 43 ≠ 42 by decide) (show 43 ≠ 48 by decide)
  have hdp : m_dp t0 = dlt 43 + sD r := hdp
  have hrw : m_rw t0 = rho 43 + sR r := hrw
  have hmd : m_md t0 + mu7 43 + sM r ≤ 3 * m_at t0 + 7 * r.length + 17 := hmd
  have hand : t &&& 1 ≤ 1 := Nat.and_le_right
  have h01 : (0 &&& 1 : Nat) = 0 := rfl
  have hor0 : (t &&& 1) ||| 0 ≤ 1 := by rw [Nat.or_zero]; exact hand
  have hor2 : (t &&& 1) ||| 2 < 4 := Nat.or_lt_two_pow (n := 2) (by omega) (by decide)
  have h02 : (1 : Nat) * 256 = 256 := rfl
  have hq1 : dlt 43 = 0 := rfl
  have hq2 : rho 43 = 0 := rfl
  have hq3 : mu7 43 = 4 := rfl
  obtain ⟨f5, -, -, g43, w43⟩ := hD.2.2.2.1 rfl
  have f_n_t0 : Fz t0 n := f5
  obtain ⟨hla0, hla2, -, -⟩ := Fo_lp F0 I_n_t0 f_n_t0
  have hla1 : m_la t0 n - 1 < m_md t0 := by omega
  have u_n_t0 : Up t0 n := hI.2.2.1 rfl
  rw [lp_X6_listRest_18]
  refine Ok_ifz0 ?_
  refine Kp_look C_t0 hT (by omega) ?_
  refine Ok_ife (Nat.lt_trans (lo_lt (C_t0.tk hT) _) (by decide)) (by decide) (fun q => ?_) (fun q => absurd hk0 q)
  refine Ok_bnc ?_
  try unfold b_X6_assign
  refine Ok_bnc ?_
  try unfold b_X6_ranges
  refine Ok_ck (show t < 2147483648 from by omega) ?_
  refine Ok_ifz (f6_has _ _) (fun q3 => ?_) (fun q3 => ?_)
  · refine Ok_ret (show Ok _ _ _ from ?_)
    refine Ok_ifz0 ?_
    refine Kp_wrap C_t0 I_n_t0.1 I_n_t0.2.1 f_n_t0 I_n_t0.2.2.1 (by omega) (by omega) (by decide) (fun t4 C_t4 X_t4 a_t4 b_t4 d_t4 w_t4 u_t4 v_t4 j_t4 l_t4 => ?_)
    have e_t4 := C_t4.2.2.2.1
    have I_n_t4 := I_n_t0.le X_t4 (by omega)
    have f_n_t4 := f_n_t0.ex I_n_t0 (X_t4 0 (Nat.zero_le _))
    have u_n_t4 := u_n_t0.ex I_n_t0 (X_t4 0 (Nat.zero_le _))
    have I_m_mdt0_t4 : Nq t4 (m_md t0) := Nq.wrn j_t4 (by omega) I_n_t0 (by decide)
    have f_m_mdt0_t4 : Fz t4 (m_md t0) := by unfold Fz; rw [j_t4.2.1]; exact j_t4.2.2.1
    have la_n_t4 : m_la t4 n = (m_md t0) + 1 := j_t4.2.2.2.2.2.2.2.1
    have wl_n_t4 : m_wh t4 (m_md t0) = 54 := j_t4.1
    have z_t5 : m_at t4 < m_ct t4 := lo_ne (Nat.ne_of_gt (show 0 < lo t4 (m_at t4) from by omega))
    refine Kp_at C_t4 (fun t5 C_t5 X_t5 a_t5 b_t5 d_t5 w_t5 u_t5 v_t5 j_t5 l_t5 => ?_)
    have e_t5 := C_t5.2.2.2.1
    rw [a_t4] at a_t5
    rw [b_t4] at b_t5
    rw [d_t4] at d_t5
    rw [w_t4] at w_t5
    rw [u_t4] at u_t5
    rw [v_t4] at v_t5
    rw [a_t4, e_t4] at z_t5
    clear d_t4 w_t4 u_t4 v_t4 e_t4 a_t4 b_t4
    have I_n_t5 := I_n_t4.flat X_t5
    have f_n_t5 := f_n_t4.ex I_n_t4 (X_t5 0)
    have u_n_t5 := u_n_t4.ex I_n_t4 (X_t5 0)
    have I_m_mdt0_t5 := I_m_mdt0_t4.flat X_t5
    have f_m_mdt0_t5 := f_m_mdt0_t4.ex I_m_mdt0_t4 (X_t5 0)
    have la_n_t5 : m_la t5 n = (m_md t0) + 1 := by rw [j_t5.2.2.1]; exact la_n_t4
    have wl_n_t5 : m_wh t5 ((m_md t0)) = 54 := by rw [j_t5.1]; exact wl_n_t4
    clear la_n_t4 wl_n_t4
    refine Ok_bnc ?_
    try unfold b_X6_right
    refine Kp_child C_t5 I_m_mdt0_t5.1 I_m_mdt0_t5.2.1 I_m_mdt0_t5.2.2.1 (by omega) (by omega) (by decide) (by decide) (fun t7 C_t7 X_t7 a_t7 b_t7 d_t7 w_t7 u_t7 v_t7 j_t7 l_t7 => ?_)
    have e_t7 := C_t7.2.2.2.1
    rw [a_t5] at a_t7
    rw [b_t5] at b_t7
    rw [d_t5] at d_t7
    rw [w_t5] at w_t7
    rw [u_t5] at u_t7
    rw [v_t5] at v_t7
    clear d_t5 w_t5 u_t5 v_t5 e_t5 a_t5
    have I_n_t7 := I_n_t5.chd X_t7 j_t7
    have f_n_t7 := f_n_t5.ex I_n_t5 (X_t7 0 (Nat.zero_le _))
    have u_n_t7 := u_n_t5.ex I_n_t5 (X_t7 0 (Nat.zero_le _))
    have I_m_mdt0_t7 := I_m_mdt0_t5.chd X_t7 j_t7
    have f_m_mdt0_t7 := f_m_mdt0_t5.ex I_m_mdt0_t5 (X_t7 0 (Nat.zero_le _))
    have la_n_t7 : m_la t7 n = (m_md t0) + 1 := by rw [(j_t7.2.2.2.2.2.2.2.1 n I_n_t5.1 (by omega)).1]; exact la_n_t5
    have wl_n_t7 : m_wh t7 ((m_md t0)) = 54 := by rw [(j_t7.2.2.2.2.2.2.1 ((m_md t0)) (by omega)).2]; exact wl_n_t5
    clear la_n_t5 wl_n_t5
    have f_m_mdt0_t7 : Fz t7 (m_md t0) := j_t7.2.2.2.2.1
    have I_m_mdt5_t7 : Nq t7 (m_md t5) := Nq.chn j_t7 (by omega) I_m_mdt0_t5 (by decide)
    have u_m_mdt5_t7 : Up t7 (m_md t5) := Or.inl j_t7.2.1
    have la_m_mdt0_t7 : m_la t7 (m_md t0) = (m_md t5) + 1 := j_t7.2.2.2.2.2.1
    have wl_m_mdt0_t7 : m_wh t7 (m_md t5) = 13 := j_t7.1
    refine Ok_ck (show t < 2147483648 from by omega) ?_
    refine Ok_ifz (f6_has _ _) (fun q8 => ?_) (fun q8 => ?_)
    · refine Kp_push C_t7 (by omega) (fun t9 C_t9 X_t9 a_t9 b_t9 d_t9 w_t9 u_t9 v_t9 j_t9 l_t9 => ?_)
      have e_t9 := C_t9.2.2.2.1
      rw [a_t7] at a_t9
      rw [b_t7] at b_t9
      rw [d_t7] at d_t9
      rw [w_t7] at w_t9
      rw [u_t7] at u_t9
      rw [v_t7] at v_t9
      clear d_t7 w_t7 u_t7 v_t7 e_t7 a_t7 b_t7
      have I_n_t9 := I_n_t7.flat X_t9
      have f_n_t9 := f_n_t7.ex I_n_t7 (X_t9 0)
      have u_n_t9 := u_n_t7.ex I_n_t7 (X_t9 0)
      have I_m_mdt0_t9 := I_m_mdt0_t7.flat X_t9
      have f_m_mdt0_t9 := f_m_mdt0_t7.ex I_m_mdt0_t7 (X_t9 0)
      have I_m_mdt5_t9 := I_m_mdt5_t7.flat X_t9
      have u_m_mdt5_t9 := u_m_mdt5_t7.ex I_m_mdt5_t7 (X_t9 0)
      have la_n_t9 : m_la t9 n = (m_md t0) + 1 := by rw [j_t9.2.2.1]; exact la_n_t7
      have wl_n_t9 : m_wh t9 ((m_md t0)) = 54 := by rw [j_t9.1]; exact wl_n_t7
      clear la_n_t7 wl_n_t7
      have la_m_mdt0_t9 : m_la t9 (m_md t0) = (m_md t5) + 1 := by rw [j_t9.2.2.1]; exact la_m_mdt0_t7
      have wl_m_mdt0_t9 : m_wh t9 ((m_md t5)) = 13 := by rw [j_t9.1]; exact wl_m_mdt0_t7
      clear la_m_mdt0_t7 wl_m_mdt0_t7
      refine Ok_bnc ?_
      try unfold b_X6_expression
      refine Kp_push C_t9 (by omega) (fun t11 C_t11 X_t11 a_t11 b_t11 d_t11 w_t11 u_t11 v_t11 j_t11 l_t11 => ?_)
      have e_t11 := C_t11.2.2.2.1
      rw [a_t9] at a_t11
      rw [b_t9] at b_t11
      rw [d_t9] at d_t11
      rw [w_t9] at w_t11
      rw [u_t9] at u_t11
      rw [v_t9] at v_t11
      clear d_t9 w_t9 u_t9 v_t9 e_t9 a_t9 b_t9
      have I_n_t11 := I_n_t9.flat X_t11
      have f_n_t11 := f_n_t9.ex I_n_t9 (X_t11 0)
      have u_n_t11 := u_n_t9.ex I_n_t9 (X_t11 0)
      have I_m_mdt0_t11 := I_m_mdt0_t9.flat X_t11
      have f_m_mdt0_t11 := f_m_mdt0_t9.ex I_m_mdt0_t9 (X_t11 0)
      have I_m_mdt5_t11 := I_m_mdt5_t9.flat X_t11
      have u_m_mdt5_t11 := u_m_mdt5_t9.ex I_m_mdt5_t9 (X_t11 0)
      have la_n_t11 : m_la t11 n = (m_md t0) + 1 := by rw [j_t11.2.2.1]; exact la_n_t9
      have wl_n_t11 : m_wh t11 ((m_md t0)) = 54 := by rw [j_t11.1]; exact wl_n_t9
      clear la_n_t9 wl_n_t9
      have la_m_mdt0_t11 : m_la t11 (m_md t0) = (m_md t5) + 1 := by rw [j_t11.2.2.1]; exact la_m_mdt0_t9
      have wl_m_mdt0_t11 : m_wh t11 ((m_md t5)) = 13 := by rw [j_t11.1]; exact wl_m_mdt0_t9
      clear la_m_mdt0_t9 wl_m_mdt0_t9
      refine Kp_push C_t11 (by omega) (fun t12 C_t12 X_t12 a_t12 b_t12 d_t12 w_t12 u_t12 v_t12 j_t12 l_t12 => ?_)
      have e_t12 := C_t12.2.2.2.1
      rw [a_t11] at a_t12
      rw [b_t11] at b_t12
      rw [d_t11] at d_t12
      rw [w_t11] at w_t12
      rw [u_t11] at u_t12
      rw [v_t11] at v_t12
      clear d_t11 w_t11 u_t11 v_t11 e_t11 a_t11 b_t11
      have I_n_t12 := I_n_t11.flat X_t12
      have f_n_t12 := f_n_t11.ex I_n_t11 (X_t12 0)
      have u_n_t12 := u_n_t11.ex I_n_t11 (X_t12 0)
      have I_m_mdt0_t12 := I_m_mdt0_t11.flat X_t12
      have f_m_mdt0_t12 := f_m_mdt0_t11.ex I_m_mdt0_t11 (X_t12 0)
      have I_m_mdt5_t12 := I_m_mdt5_t11.flat X_t12
      have u_m_mdt5_t12 := u_m_mdt5_t11.ex I_m_mdt5_t11 (X_t12 0)
      have la_n_t12 : m_la t12 n = (m_md t0) + 1 := by rw [j_t12.2.2.1]; exact la_n_t11
      have wl_n_t12 : m_wh t12 ((m_md t0)) = 54 := by rw [j_t12.1]; exact wl_n_t11
      clear la_n_t11 wl_n_t11
      have la_m_mdt0_t12 : m_la t12 (m_md t0) = (m_md t5) + 1 := by rw [j_t12.2.2.1]; exact la_m_mdt0_t11
      have wl_m_mdt0_t12 : m_wh t12 ((m_md t5)) = 13 := by rw [j_t12.1]; exact wl_m_mdt0_t11
      clear la_m_mdt0_t11 wl_m_mdt0_t11
      refine Ok_ret (show Ok _ _ _ from ?_)
      refine Ok_ret (show Ok _ _ _ from ?_)
      refine Ok_ret (show Ok _ _ _ from ?_)
      refine Hv_mk (Kv_c (x := (3, m_md t5, (t &&& 1) ||| 0)) rfl (Kv_c (x := (2, m_md t5, ((t &&& 1) ||| 0) ||| (1 * 256))) rfl (Kv_c (x := (32, m_md t5, t &&& 1)) rfl hK))) (C_t12.1.2.2.2.2.2.2 hTt) C_t12 hT (by omega) (by omega) (by omega) ?_ ?_ ?_ (by omega) ?_ ?_ ?_
      · exact ⟨(Io_n (by decide) (show (t &&& 1) ||| 0 < 4096 from by omega) I_m_mdt5_t12.1 I_m_mdt5_t12.2.1 I_m_mdt5_t12.2.2.1 (fun q => absurd q (by decide)) (fun q => absurd q (by decide)) I_m_mdt5_t12.2.2.2), (Nd_0 (by decide) Mo_nil), ⟨(Io_2 (by have := or_256 (b := 1) (show ((t &&& 1) ||| 0) < 256 from by omega); omega) (by have := or_256 (b := 1) (show ((t &&& 1) ||| 0) < 256 from by omega); omega) (by have := or_256 (b := 1) (show ((t &&& 1) ||| 0) < 256 from by omega); omega) I_m_mdt5_t12.1 I_m_mdt5_t12.2.1 I_m_mdt5_t12.2.2.1 I_m_mdt5_t12.2.2.2), (Nd_A (by decide) (Mo_cons (fun q => show m_md t5 ≤ m_md t5 from by omega) Mo_nil) (Or.inr ⟨(3, m_md t5, (t &&& 1) ||| 0), List.mem_cons_self, rfl, Or.inl rfl⟩)), ⟨(Io_n (by decide) (show t &&& 1 < 4096 from by omega) I_m_mdt5_t12.1 I_m_mdt5_t12.2.1 I_m_mdt5_t12.2.2.1 (fun q => absurd q (by decide)) (fun q => absurd q (by decide)) I_m_mdt5_t12.2.2.2), (Nd_0 (by decide) (Mo_cons (fun q => show m_md t5 ≤ m_md t5 from by omega) (Mo_cons (fun q => show m_md t5 ≤ m_md t5 from by omega) Mo_nil))), Stk_step (N := n) (pop := (43, n, t)) (new := [(32, m_md t5, t &&& 1), (2, m_md t5, ((t &&& 1) ||| 0) ||| (1 * 256)), (3, m_md t5, (t &&& 1) ||| 0)]) F0 C_t12.1.to2 (fun (h : nk 43 = false) => absurd h (by decide)) (fun q _ h => h (43, n, t) rfl) (fun _ => rfl) (fun y hy hk => ⟨rfl, (Mo_cons (fun q => show n ≤ m_md t5 from by omega) (Mo_cons (fun q => show n ≤ m_md t5 from by omega) (Mo_cons (fun q => show n ≤ m_md t5 from by omega) Mo_nil))) y hy hk⟩) (fun (h : 43 = 3 ∨ 43 = 18 ∨ 43 = 41) => absurd h (by decide)) (fun (h : 43 = 18) => absurd h (by decide)) (fun _ h16 => (Or.inr ⟨f_n_t12, (Ab_some (y := (32, m_md t5, t &&& 1)) rfl (show n < m_md t5 from by omega)), H50_no la_n_t12 wl_n_t12 (by decide)⟩)) r [] (fun y hy => absurd hy List.not_mem_nil) hS⟩⟩⟩
      · exact (Aj_up (x := (3, m_md t5, (t &&& 1) ||| 0)) (Aj_up (x := (2, m_md t5, ((t &&& 1) ||| 0) ||| (1 * 256))) (Aj_sub (y := (32, m_md t5, t &&& 1)) hJ (Nat.le_of_ble_eq_true rfl)) (Or.inr (show 9 - (((t &&& 1) ||| 0) ||| (1 * 256)) / 256 < 9 from by have := or_256 (b := 1) (show ((t &&& 1) ||| 0) < 256 from by omega); omega))) (Or.inr (show 2 < 9 - (((t &&& 1) ||| 0) ||| (1 * 256)) / 256 from by have := or_256 (b := 1) (show ((t &&& 1) ||| 0) < 256 from by omega); omega)))
      · show m_dp t12 = (dlt 3 + (dlt 2 + (dlt 32 + sD r)))
        have : dlt 2 = 0 := rfl; have : dlt 3 = 0 := rfl; have : dlt 32 = 0 := rfl; have : dlt 43 = 0 := rfl; omega
      · show m_rw t12 = (rho 3 + (rho 2 + (rho 32 + sR r)))
        have : rho 2 = 0 := rfl; have : rho 3 = 0 := rfl; have : rho 32 = 0 := rfl; have : rho 43 = 0 := rfl; omega
      · show m_md t12 + (mu7 3 + (mu7 2 + (mu7 32 + sM r))) ≤ 3 * m_at t12 + 7 * (r.length + 1 + 1 + 1) + 10
        have : mu7 2 = 7 := rfl; have : mu7 3 = 5 := rfl; have : mu7 32 = 7 := rfl; have : mu7 43 = 4 := rfl; omega
      · show (wt 3 + (wt 2 + (wt 32 + sW r))) + 6 * (4096 - m_at t12) + 4 * (600 - (r.length + 1 + 1 + 1)) < (wt 43 + sW r) + 6 * (4096 - m_at t0) + 4 * (600 - (r.length + 1))
        have : wt 2 = 5 := rfl; have : wt 3 = 3 := rfl; have : wt 32 = 5 := rfl; have : wt 43 = 0 := rfl; omega
    · refine Ok_bnc ?_
      try unfold b_X6_expression
      refine Kp_push C_t7 (by omega) (fun t14 C_t14 X_t14 a_t14 b_t14 d_t14 w_t14 u_t14 v_t14 j_t14 l_t14 => ?_)
      have e_t14 := C_t14.2.2.2.1
      rw [a_t7] at a_t14
      rw [b_t7] at b_t14
      rw [d_t7] at d_t14
      rw [w_t7] at w_t14
      rw [u_t7] at u_t14
      rw [v_t7] at v_t14
      clear d_t7 w_t7 u_t7 v_t7 e_t7 a_t7 b_t7
      have I_n_t14 := I_n_t7.flat X_t14
      have f_n_t14 := f_n_t7.ex I_n_t7 (X_t14 0)
      have u_n_t14 := u_n_t7.ex I_n_t7 (X_t14 0)
      have I_m_mdt0_t14 := I_m_mdt0_t7.flat X_t14
      have f_m_mdt0_t14 := f_m_mdt0_t7.ex I_m_mdt0_t7 (X_t14 0)
      have I_m_mdt5_t14 := I_m_mdt5_t7.flat X_t14
      have u_m_mdt5_t14 := u_m_mdt5_t7.ex I_m_mdt5_t7 (X_t14 0)
      have la_n_t14 : m_la t14 n = (m_md t0) + 1 := by rw [j_t14.2.2.1]; exact la_n_t7
      have wl_n_t14 : m_wh t14 ((m_md t0)) = 54 := by rw [j_t14.1]; exact wl_n_t7
      clear la_n_t7 wl_n_t7
      have la_m_mdt0_t14 : m_la t14 (m_md t0) = (m_md t5) + 1 := by rw [j_t14.2.2.1]; exact la_m_mdt0_t7
      have wl_m_mdt0_t14 : m_wh t14 ((m_md t5)) = 13 := by rw [j_t14.1]; exact wl_m_mdt0_t7
      clear la_m_mdt0_t7 wl_m_mdt0_t7
      refine Kp_push C_t14 (by omega) (fun t15 C_t15 X_t15 a_t15 b_t15 d_t15 w_t15 u_t15 v_t15 j_t15 l_t15 => ?_)
      have e_t15 := C_t15.2.2.2.1
      rw [a_t14] at a_t15
      rw [b_t14] at b_t15
      rw [d_t14] at d_t15
      rw [w_t14] at w_t15
      rw [u_t14] at u_t15
      rw [v_t14] at v_t15
      clear d_t14 w_t14 u_t14 v_t14 e_t14 a_t14 b_t14
      have I_n_t15 := I_n_t14.flat X_t15
      have f_n_t15 := f_n_t14.ex I_n_t14 (X_t15 0)
      have u_n_t15 := u_n_t14.ex I_n_t14 (X_t15 0)
      have I_m_mdt0_t15 := I_m_mdt0_t14.flat X_t15
      have f_m_mdt0_t15 := f_m_mdt0_t14.ex I_m_mdt0_t14 (X_t15 0)
      have I_m_mdt5_t15 := I_m_mdt5_t14.flat X_t15
      have u_m_mdt5_t15 := u_m_mdt5_t14.ex I_m_mdt5_t14 (X_t15 0)
      have la_n_t15 : m_la t15 n = (m_md t0) + 1 := by rw [j_t15.2.2.1]; exact la_n_t14
      have wl_n_t15 : m_wh t15 ((m_md t0)) = 54 := by rw [j_t15.1]; exact wl_n_t14
      clear la_n_t14 wl_n_t14
      have la_m_mdt0_t15 : m_la t15 (m_md t0) = (m_md t5) + 1 := by rw [j_t15.2.2.1]; exact la_m_mdt0_t14
      have wl_m_mdt0_t15 : m_wh t15 ((m_md t5)) = 13 := by rw [j_t15.1]; exact wl_m_mdt0_t14
      clear la_m_mdt0_t14 wl_m_mdt0_t14
      refine Ok_ret (show Ok _ _ _ from ?_)
      refine Ok_ret (show Ok _ _ _ from ?_)
      refine Ok_ret (show Ok _ _ _ from ?_)
      refine Hv_mk (Kv_c (x := (3, m_md t5, (t &&& 1) ||| 0)) rfl (Kv_c (x := (2, m_md t5, ((t &&& 1) ||| 0) ||| (1 * 256))) rfl hK)) (C_t15.1.2.2.2.2.2.2 hTt) C_t15 hT (by omega) (by omega) (by omega) ?_ ?_ ?_ (by omega) ?_ ?_ ?_
      · exact ⟨(Io_n (by decide) (show (t &&& 1) ||| 0 < 4096 from by omega) I_m_mdt5_t15.1 I_m_mdt5_t15.2.1 I_m_mdt5_t15.2.2.1 (fun q => absurd q (by decide)) (fun q => absurd q (by decide)) I_m_mdt5_t15.2.2.2), (Nd_0 (by decide) Mo_nil), ⟨(Io_2 (by have := or_256 (b := 1) (show ((t &&& 1) ||| 0) < 256 from by omega); omega) (by have := or_256 (b := 1) (show ((t &&& 1) ||| 0) < 256 from by omega); omega) (by have := or_256 (b := 1) (show ((t &&& 1) ||| 0) < 256 from by omega); omega) I_m_mdt5_t15.1 I_m_mdt5_t15.2.1 I_m_mdt5_t15.2.2.1 I_m_mdt5_t15.2.2.2), (Nd_A (by decide) (Mo_cons (fun q => show m_md t5 ≤ m_md t5 from by omega) Mo_nil) (Or.inr ⟨(3, m_md t5, (t &&& 1) ||| 0), List.mem_cons_self, rfl, Or.inl rfl⟩)), Stk_step (N := n) (pop := (43, n, t)) (new := [(2, m_md t5, ((t &&& 1) ||| 0) ||| (1 * 256)), (3, m_md t5, (t &&& 1) ||| 0)]) F0 C_t15.1.to2 (fun (h : nk 43 = false) => absurd h (by decide)) (fun q _ h => h (43, n, t) rfl) (fun _ => rfl) (fun y hy hk => ⟨rfl, (Mo_cons (fun q => show n ≤ m_md t5 from by omega) (Mo_cons (fun q => show n ≤ m_md t5 from by omega) Mo_nil)) y hy hk⟩) (fun (h : 43 = 3 ∨ 43 = 18 ∨ 43 = 41) => absurd h (by decide)) (fun (h : 43 = 18) => absurd h (by decide)) (fun _ h16 => (Or.inr ⟨f_n_t15, (Ab_some (y := (2, m_md t5, ((t &&& 1) ||| 0) ||| (1 * 256))) rfl (show n < m_md t5 from by omega)), H50_no la_n_t15 wl_n_t15 (by decide)⟩)) r [] (fun y hy => absurd hy List.not_mem_nil) hS⟩⟩
      · exact (Aj_up (x := (3, m_md t5, (t &&& 1) ||| 0)) (Aj_sub (y := (2, m_md t5, ((t &&& 1) ||| 0) ||| (1 * 256))) hJ (show 9 - (((t &&& 1) ||| 0) ||| (1 * 256)) / 256 ≤ 10 from by have := or_256 (b := 1) (show ((t &&& 1) ||| 0) < 256 from by omega); omega)) (Or.inr (show 2 < 9 - (((t &&& 1) ||| 0) ||| (1 * 256)) / 256 from by have := or_256 (b := 1) (show ((t &&& 1) ||| 0) < 256 from by omega); omega)))
      · show m_dp t15 = (dlt 3 + (dlt 2 + sD r))
        have : dlt 2 = 0 := rfl; have : dlt 3 = 0 := rfl; have : dlt 43 = 0 := rfl; omega
      · show m_rw t15 = (rho 3 + (rho 2 + sR r))
        have : rho 2 = 0 := rfl; have : rho 3 = 0 := rfl; have : rho 43 = 0 := rfl; omega
      · show m_md t15 + (mu7 3 + (mu7 2 + sM r)) ≤ 3 * m_at t15 + 7 * (r.length + 1 + 1) + 10
        have : mu7 2 = 7 := rfl; have : mu7 3 = 5 := rfl; have : mu7 43 = 4 := rfl; omega
      · show (wt 3 + (wt 2 + sW r)) + 6 * (4096 - m_at t15) + 4 * (600 - (r.length + 1 + 1)) < (wt 43 + sW r) + 6 * (4096 - m_at t0) + 4 * (600 - (r.length + 1))
        have : wt 2 = 5 := rfl; have : wt 3 = 3 := rfl; have : wt 43 = 0 := rfl; omega
  · refine Kp_ahead C_t0 hT (by omega) ?_
    refine Ok_ife (Nat.lt_trans (lo_lt (C_t0.tk hT) _) (by decide)) (by decide) (fun q16 => ?_) (fun q16 => ?_)
    · refine Kp_look C_t0 hT (by omega) ?_
      refine Ok_ife (Nat.lt_trans (lo_lt (C_t0.tk hT) _) (by decide)) (by decide) (fun q => absurd (hk0.symm.trans q) (by decide)) (fun _ => ?_)
      have z_t17 : m_at t0 < m_ct t0 := lo_ne (Nat.ne_of_gt (show 0 < lo t0 (m_at t0) from by omega))
      refine Kp_at C_t0 (fun t17 C_t17 X_t17 a_t17 b_t17 d_t17 w_t17 u_t17 v_t17 j_t17 l_t17 => ?_)
      have e_t17 := C_t17.2.2.2.1
      have I_n_t17 := I_n_t0.flat X_t17
      have f_n_t17 := f_n_t0.ex I_n_t0 (X_t17 0)
      have u_n_t17 := u_n_t0.ex I_n_t0 (X_t17 0)
      refine Kp_wrap C_t17 I_n_t17.1 I_n_t17.2.1 f_n_t17 I_n_t17.2.2.1 (by omega) (by omega) (by decide) (fun t18 C_t18 X_t18 a_t18 b_t18 d_t18 w_t18 u_t18 v_t18 j_t18 l_t18 => ?_)
      have e_t18 := C_t18.2.2.2.1
      rw [a_t17] at a_t18
      rw [b_t17] at b_t18
      rw [d_t17] at d_t18
      rw [w_t17] at w_t18
      rw [u_t17] at u_t18
      rw [v_t17] at v_t18
      clear d_t17 w_t17 u_t17 v_t17 e_t17 a_t17
      have I_n_t18 := I_n_t17.le X_t18 (by omega)
      have f_n_t18 := f_n_t17.ex I_n_t17 (X_t18 0 (Nat.zero_le _))
      have u_n_t18 := u_n_t17.ex I_n_t17 (X_t18 0 (Nat.zero_le _))
      have I_m_mdt17_t18 : Nq t18 (m_md t17) := Nq.wrn j_t18 (by omega) I_n_t17 (by decide)
      have f_m_mdt17_t18 : Fz t18 (m_md t17) := by unfold Fz; rw [j_t18.2.1]; exact j_t18.2.2.1
      have la_n_t18 : m_la t18 n = (m_md t17) + 1 := j_t18.2.2.2.2.2.2.2.1
      have wl_n_t18 : m_wh t18 (m_md t17) = 66 := j_t18.1
      have y9_t19 : m_at t18 = m_at t0 + 1 → lo t18 (m_at t18) = lo t0 (m_at t0 + 1) := fun h => lo_2 C_t18 C_t0 h
      have y8_t19 : lo t18 (m_at t18) = lo t0 (m_at t0 + 1) := y9_t19 (by omega)
      have z_t19 : m_at t18 < m_ct t18 := lo_ne (Nat.ne_of_gt (show 0 < lo t18 (m_at t18) from by omega))
      refine Kp_at C_t18 (fun t19 C_t19 X_t19 a_t19 b_t19 d_t19 w_t19 u_t19 v_t19 j_t19 l_t19 => ?_)
      have e_t19 := C_t19.2.2.2.1
      rw [a_t18] at a_t19
      rw [b_t18] at b_t19
      rw [d_t18] at d_t19
      rw [w_t18] at w_t19
      rw [u_t18] at u_t19
      rw [v_t18] at v_t19
      rw [a_t18, e_t18] at z_t19
      clear z_t17
      clear d_t18 w_t18 u_t18 v_t18 e_t18 a_t18 b_t18
      have I_n_t19 := I_n_t18.flat X_t19
      have f_n_t19 := f_n_t18.ex I_n_t18 (X_t19 0)
      have u_n_t19 := u_n_t18.ex I_n_t18 (X_t19 0)
      have I_m_mdt17_t19 := I_m_mdt17_t18.flat X_t19
      have f_m_mdt17_t19 := f_m_mdt17_t18.ex I_m_mdt17_t18 (X_t19 0)
      have la_n_t19 : m_la t19 n = (m_md t17) + 1 := by rw [j_t19.2.2.1]; exact la_n_t18
      have wl_n_t19 : m_wh t19 ((m_md t17)) = 66 := by rw [j_t19.1]; exact wl_n_t18
      clear la_n_t18 wl_n_t18
      refine Ok_bnc ?_
      try unfold b_X6_expression
      refine Kp_push C_t19 (by omega) (fun t21 C_t21 X_t21 a_t21 b_t21 d_t21 w_t21 u_t21 v_t21 j_t21 l_t21 => ?_)
      have e_t21 := C_t21.2.2.2.1
      rw [a_t19] at a_t21
      rw [b_t19] at b_t21
      rw [d_t19] at d_t21
      rw [w_t19] at w_t21
      rw [u_t19] at u_t21
      rw [v_t19] at v_t21
      clear d_t19 w_t19 u_t19 v_t19 e_t19 a_t19 b_t19
      have I_n_t21 := I_n_t19.flat X_t21
      have f_n_t21 := f_n_t19.ex I_n_t19 (X_t21 0)
      have u_n_t21 := u_n_t19.ex I_n_t19 (X_t21 0)
      have I_m_mdt17_t21 := I_m_mdt17_t19.flat X_t21
      have f_m_mdt17_t21 := f_m_mdt17_t19.ex I_m_mdt17_t19 (X_t21 0)
      have la_n_t21 : m_la t21 n = (m_md t17) + 1 := by rw [j_t21.2.2.1]; exact la_n_t19
      have wl_n_t21 : m_wh t21 ((m_md t17)) = 66 := by rw [j_t21.1]; exact wl_n_t19
      clear la_n_t19 wl_n_t19
      refine Kp_push C_t21 (by omega) (fun t22 C_t22 X_t22 a_t22 b_t22 d_t22 w_t22 u_t22 v_t22 j_t22 l_t22 => ?_)
      have e_t22 := C_t22.2.2.2.1
      rw [a_t21] at a_t22
      rw [b_t21] at b_t22
      rw [d_t21] at d_t22
      rw [w_t21] at w_t22
      rw [u_t21] at u_t22
      rw [v_t21] at v_t22
      clear d_t21 w_t21 u_t21 v_t21 e_t21 a_t21 b_t21
      have I_n_t22 := I_n_t21.flat X_t22
      have f_n_t22 := f_n_t21.ex I_n_t21 (X_t22 0)
      have u_n_t22 := u_n_t21.ex I_n_t21 (X_t22 0)
      have I_m_mdt17_t22 := I_m_mdt17_t21.flat X_t22
      have f_m_mdt17_t22 := f_m_mdt17_t21.ex I_m_mdt17_t21 (X_t22 0)
      have la_n_t22 : m_la t22 n = (m_md t17) + 1 := by rw [j_t22.2.2.1]; exact la_n_t21
      have wl_n_t22 : m_wh t22 ((m_md t17)) = 66 := by rw [j_t22.1]; exact wl_n_t21
      clear la_n_t21 wl_n_t21
      refine Ok_ret (show Ok _ _ _ from ?_)
      refine Ok_ret (show Ok _ _ _ from ?_)
      refine Ok_ifz1 ?_
      refine Ok_ret (show Ok _ _ _ from ?_)
      refine Hv_mk (Kv_c (x := (3, m_md t17, 1)) rfl (Kv_c (x := (2, m_md t17, 1 ||| (1 * 256))) rfl hK)) (C_t22.1.2.2.2.2.2.2 hTt) C_t22 hT (by omega) (by omega) (by omega) ?_ ?_ ?_ (by omega) ?_ ?_ ?_
      · exact ⟨(Io_n (by decide) (by decide) I_m_mdt17_t22.1 I_m_mdt17_t22.2.1 I_m_mdt17_t22.2.2.1 (fun q => absurd q (by decide)) (fun q => absurd q (by decide)) I_m_mdt17_t22.2.2.2), (Nd_0 (by decide) Mo_nil), ⟨(Io_2 (by have := or_256 (b := 1) (show 1 < 256 from by omega); omega) (by have := or_256 (b := 1) (show 1 < 256 from by omega); omega) (by have := or_256 (b := 1) (show 1 < 256 from by omega); omega) I_m_mdt17_t22.1 I_m_mdt17_t22.2.1 I_m_mdt17_t22.2.2.1 I_m_mdt17_t22.2.2.2), (Nd_A (by decide) (Mo_cons (fun q => show m_md t17 ≤ m_md t17 from by omega) Mo_nil) (Or.inr ⟨(3, m_md t17, 1), List.mem_cons_self, rfl, Or.inl rfl⟩)), Stk_step (N := n) (pop := (43, n, t)) (new := [(2, m_md t17, 1 ||| (1 * 256)), (3, m_md t17, 1)]) F0 C_t22.1.to2 (fun (h : nk 43 = false) => absurd h (by decide)) (fun q _ h => h (43, n, t) rfl) (fun _ => rfl) (fun y hy hk => ⟨rfl, (Mo_cons (fun q => show n ≤ m_md t17 from by omega) (Mo_cons (fun q => show n ≤ m_md t17 from by omega) Mo_nil)) y hy hk⟩) (fun (h : 43 = 3 ∨ 43 = 18 ∨ 43 = 41) => absurd h (by decide)) (fun (h : 43 = 18) => absurd h (by decide)) (fun _ h16 => (Or.inr ⟨f_n_t22, (Ab_some (y := (2, m_md t17, 1 ||| (1 * 256))) rfl (show n < m_md t17 from by omega)), H50_no la_n_t22 wl_n_t22 (by decide)⟩)) r [] (fun y hy => absurd hy List.not_mem_nil) hS⟩⟩
      · exact (Aj_up (x := (3, m_md t17, 1)) (Aj_sub (y := (2, m_md t17, 1 ||| (1 * 256))) hJ (show 9 - (1 ||| (1 * 256)) / 256 ≤ 10 from by have := or_256 (b := 1) (show 1 < 256 from by omega); omega)) (Or.inr (show 2 < 9 - (1 ||| (1 * 256)) / 256 from by have := or_256 (b := 1) (show 1 < 256 from by omega); omega)))
      · show m_dp t22 = (dlt 3 + (dlt 2 + sD r))
        have : dlt 2 = 0 := rfl; have : dlt 3 = 0 := rfl; have : dlt 43 = 0 := rfl; omega
      · show m_rw t22 = (rho 3 + (rho 2 + sR r))
        have : rho 2 = 0 := rfl; have : rho 3 = 0 := rfl; have : rho 43 = 0 := rfl; omega
      · show m_md t22 + (mu7 3 + (mu7 2 + sM r)) ≤ 3 * m_at t22 + 7 * (r.length + 1 + 1) + 10
        have : mu7 2 = 7 := rfl; have : mu7 3 = 5 := rfl; have : mu7 43 = 4 := rfl; omega
      · show (wt 3 + (wt 2 + sW r)) + 6 * (4096 - m_at t22) + 4 * (600 - (r.length + 1 + 1)) < (wt 43 + sW r) + 6 * (4096 - m_at t0) + 4 * (600 - (r.length + 1))
        have : wt 2 = 5 := rfl; have : wt 3 = 3 := rfl; have : wt 43 = 0 := rfl; omega
    · refine Ok_ret (show Ok _ _ _ from ?_)
      refine Ok_ifz0 ?_
      refine Kp_wrap C_t0 I_n_t0.1 I_n_t0.2.1 f_n_t0 I_n_t0.2.2.1 (by omega) (by omega) (by decide) (fun t23 C_t23 X_t23 a_t23 b_t23 d_t23 w_t23 u_t23 v_t23 j_t23 l_t23 => ?_)
      have e_t23 := C_t23.2.2.2.1
      have I_n_t23 := I_n_t0.le X_t23 (by omega)
      have f_n_t23 := f_n_t0.ex I_n_t0 (X_t23 0 (Nat.zero_le _))
      have u_n_t23 := u_n_t0.ex I_n_t0 (X_t23 0 (Nat.zero_le _))
      have I_m_mdt0_t23 : Nq t23 (m_md t0) := Nq.wrn j_t23 (by omega) I_n_t0 (by decide)
      have f_m_mdt0_t23 : Fz t23 (m_md t0) := by unfold Fz; rw [j_t23.2.1]; exact j_t23.2.2.1
      have la_n_t23 : m_la t23 n = (m_md t0) + 1 := j_t23.2.2.2.2.2.2.2.1
      have wl_n_t23 : m_wh t23 (m_md t0) = 54 := j_t23.1
      have z_t24 : m_at t23 < m_ct t23 := lo_ne (Nat.ne_of_gt (show 0 < lo t23 (m_at t23) from by omega))
      refine Kp_at C_t23 (fun t24 C_t24 X_t24 a_t24 b_t24 d_t24 w_t24 u_t24 v_t24 j_t24 l_t24 => ?_)
      have e_t24 := C_t24.2.2.2.1
      rw [a_t23] at a_t24
      rw [b_t23] at b_t24
      rw [d_t23] at d_t24
      rw [w_t23] at w_t24
      rw [u_t23] at u_t24
      rw [v_t23] at v_t24
      rw [a_t23, e_t23] at z_t24
      clear d_t23 w_t23 u_t23 v_t23 e_t23 a_t23 b_t23
      have I_n_t24 := I_n_t23.flat X_t24
      have f_n_t24 := f_n_t23.ex I_n_t23 (X_t24 0)
      have u_n_t24 := u_n_t23.ex I_n_t23 (X_t24 0)
      have I_m_mdt0_t24 := I_m_mdt0_t23.flat X_t24
      have f_m_mdt0_t24 := f_m_mdt0_t23.ex I_m_mdt0_t23 (X_t24 0)
      have la_n_t24 : m_la t24 n = (m_md t0) + 1 := by rw [j_t24.2.2.1]; exact la_n_t23
      have wl_n_t24 : m_wh t24 ((m_md t0)) = 54 := by rw [j_t24.1]; exact wl_n_t23
      clear la_n_t23 wl_n_t23
      refine Ok_bnc ?_
      try unfold b_X6_right
      refine Kp_child C_t24 I_m_mdt0_t24.1 I_m_mdt0_t24.2.1 I_m_mdt0_t24.2.2.1 (by omega) (by omega) (by decide) (by decide) (fun t26 C_t26 X_t26 a_t26 b_t26 d_t26 w_t26 u_t26 v_t26 j_t26 l_t26 => ?_)
      have e_t26 := C_t26.2.2.2.1
      rw [a_t24] at a_t26
      rw [b_t24] at b_t26
      rw [d_t24] at d_t26
      rw [w_t24] at w_t26
      rw [u_t24] at u_t26
      rw [v_t24] at v_t26
      clear d_t24 w_t24 u_t24 v_t24 e_t24 a_t24
      have I_n_t26 := I_n_t24.chd X_t26 j_t26
      have f_n_t26 := f_n_t24.ex I_n_t24 (X_t26 0 (Nat.zero_le _))
      have u_n_t26 := u_n_t24.ex I_n_t24 (X_t26 0 (Nat.zero_le _))
      have I_m_mdt0_t26 := I_m_mdt0_t24.chd X_t26 j_t26
      have f_m_mdt0_t26 := f_m_mdt0_t24.ex I_m_mdt0_t24 (X_t26 0 (Nat.zero_le _))
      have la_n_t26 : m_la t26 n = (m_md t0) + 1 := by rw [(j_t26.2.2.2.2.2.2.2.1 n I_n_t24.1 (by omega)).1]; exact la_n_t24
      have wl_n_t26 : m_wh t26 ((m_md t0)) = 54 := by rw [(j_t26.2.2.2.2.2.2.1 ((m_md t0)) (by omega)).2]; exact wl_n_t24
      clear la_n_t24 wl_n_t24
      have f_m_mdt0_t26 : Fz t26 (m_md t0) := j_t26.2.2.2.2.1
      have I_m_mdt24_t26 : Nq t26 (m_md t24) := Nq.chn j_t26 (by omega) I_m_mdt0_t24 (by decide)
      have u_m_mdt24_t26 : Up t26 (m_md t24) := Or.inl j_t26.2.1
      have la_m_mdt0_t26 : m_la t26 (m_md t0) = (m_md t24) + 1 := j_t26.2.2.2.2.2.1
      have wl_m_mdt0_t26 : m_wh t26 (m_md t24) = 13 := j_t26.1
      refine Ok_ck (show t < 2147483648 from by omega) ?_
      refine Ok_ifz (f6_has _ _) (fun q27 => ?_) (fun q27 => ?_)
      · refine Kp_push C_t26 (by omega) (fun t28 C_t28 X_t28 a_t28 b_t28 d_t28 w_t28 u_t28 v_t28 j_t28 l_t28 => ?_)
        have e_t28 := C_t28.2.2.2.1
        rw [a_t26] at a_t28
        rw [b_t26] at b_t28
        rw [d_t26] at d_t28
        rw [w_t26] at w_t28
        rw [u_t26] at u_t28
        rw [v_t26] at v_t28
        clear d_t26 w_t26 u_t26 v_t26 e_t26 a_t26 b_t26
        have I_n_t28 := I_n_t26.flat X_t28
        have f_n_t28 := f_n_t26.ex I_n_t26 (X_t28 0)
        have u_n_t28 := u_n_t26.ex I_n_t26 (X_t28 0)
        have I_m_mdt0_t28 := I_m_mdt0_t26.flat X_t28
        have f_m_mdt0_t28 := f_m_mdt0_t26.ex I_m_mdt0_t26 (X_t28 0)
        have I_m_mdt24_t28 := I_m_mdt24_t26.flat X_t28
        have u_m_mdt24_t28 := u_m_mdt24_t26.ex I_m_mdt24_t26 (X_t28 0)
        have la_n_t28 : m_la t28 n = (m_md t0) + 1 := by rw [j_t28.2.2.1]; exact la_n_t26
        have wl_n_t28 : m_wh t28 ((m_md t0)) = 54 := by rw [j_t28.1]; exact wl_n_t26
        clear la_n_t26 wl_n_t26
        have la_m_mdt0_t28 : m_la t28 (m_md t0) = (m_md t24) + 1 := by rw [j_t28.2.2.1]; exact la_m_mdt0_t26
        have wl_m_mdt0_t28 : m_wh t28 ((m_md t24)) = 13 := by rw [j_t28.1]; exact wl_m_mdt0_t26
        clear la_m_mdt0_t26 wl_m_mdt0_t26
        refine Ok_bnc ?_
        try unfold b_X6_expression
        refine Kp_push C_t28 (by omega) (fun t30 C_t30 X_t30 a_t30 b_t30 d_t30 w_t30 u_t30 v_t30 j_t30 l_t30 => ?_)
        have e_t30 := C_t30.2.2.2.1
        rw [a_t28] at a_t30
        rw [b_t28] at b_t30
        rw [d_t28] at d_t30
        rw [w_t28] at w_t30
        rw [u_t28] at u_t30
        rw [v_t28] at v_t30
        clear d_t28 w_t28 u_t28 v_t28 e_t28 a_t28 b_t28
        have I_n_t30 := I_n_t28.flat X_t30
        have f_n_t30 := f_n_t28.ex I_n_t28 (X_t30 0)
        have u_n_t30 := u_n_t28.ex I_n_t28 (X_t30 0)
        have I_m_mdt0_t30 := I_m_mdt0_t28.flat X_t30
        have f_m_mdt0_t30 := f_m_mdt0_t28.ex I_m_mdt0_t28 (X_t30 0)
        have I_m_mdt24_t30 := I_m_mdt24_t28.flat X_t30
        have u_m_mdt24_t30 := u_m_mdt24_t28.ex I_m_mdt24_t28 (X_t30 0)
        have la_n_t30 : m_la t30 n = (m_md t0) + 1 := by rw [j_t30.2.2.1]; exact la_n_t28
        have wl_n_t30 : m_wh t30 ((m_md t0)) = 54 := by rw [j_t30.1]; exact wl_n_t28
        clear la_n_t28 wl_n_t28
        have la_m_mdt0_t30 : m_la t30 (m_md t0) = (m_md t24) + 1 := by rw [j_t30.2.2.1]; exact la_m_mdt0_t28
        have wl_m_mdt0_t30 : m_wh t30 ((m_md t24)) = 13 := by rw [j_t30.1]; exact wl_m_mdt0_t28
        clear la_m_mdt0_t28 wl_m_mdt0_t28
        refine Kp_push C_t30 (by omega) (fun t31 C_t31 X_t31 a_t31 b_t31 d_t31 w_t31 u_t31 v_t31 j_t31 l_t31 => ?_)
        have e_t31 := C_t31.2.2.2.1
        rw [a_t30] at a_t31
        rw [b_t30] at b_t31
        rw [d_t30] at d_t31
        rw [w_t30] at w_t31
        rw [u_t30] at u_t31
        rw [v_t30] at v_t31
        clear d_t30 w_t30 u_t30 v_t30 e_t30 a_t30 b_t30
        have I_n_t31 := I_n_t30.flat X_t31
        have f_n_t31 := f_n_t30.ex I_n_t30 (X_t31 0)
        have u_n_t31 := u_n_t30.ex I_n_t30 (X_t31 0)
        have I_m_mdt0_t31 := I_m_mdt0_t30.flat X_t31
        have f_m_mdt0_t31 := f_m_mdt0_t30.ex I_m_mdt0_t30 (X_t31 0)
        have I_m_mdt24_t31 := I_m_mdt24_t30.flat X_t31
        have u_m_mdt24_t31 := u_m_mdt24_t30.ex I_m_mdt24_t30 (X_t31 0)
        have la_n_t31 : m_la t31 n = (m_md t0) + 1 := by rw [j_t31.2.2.1]; exact la_n_t30
        have wl_n_t31 : m_wh t31 ((m_md t0)) = 54 := by rw [j_t31.1]; exact wl_n_t30
        clear la_n_t30 wl_n_t30
        have la_m_mdt0_t31 : m_la t31 (m_md t0) = (m_md t24) + 1 := by rw [j_t31.2.2.1]; exact la_m_mdt0_t30
        have wl_m_mdt0_t31 : m_wh t31 ((m_md t24)) = 13 := by rw [j_t31.1]; exact wl_m_mdt0_t30
        clear la_m_mdt0_t30 wl_m_mdt0_t30
        refine Ok_ret (show Ok _ _ _ from ?_)
        refine Ok_ret (show Ok _ _ _ from ?_)
        refine Ok_ret (show Ok _ _ _ from ?_)
        refine Hv_mk (Kv_c (x := (3, m_md t24, (t &&& 1) ||| 0)) rfl (Kv_c (x := (2, m_md t24, ((t &&& 1) ||| 0) ||| (1 * 256))) rfl (Kv_c (x := (32, m_md t24, t &&& 1)) rfl hK))) (C_t31.1.2.2.2.2.2.2 hTt) C_t31 hT (by omega) (by omega) (by omega) ?_ ?_ ?_ (by omega) ?_ ?_ ?_
        · exact ⟨(Io_n (by decide) (show (t &&& 1) ||| 0 < 4096 from by omega) I_m_mdt24_t31.1 I_m_mdt24_t31.2.1 I_m_mdt24_t31.2.2.1 (fun q => absurd q (by decide)) (fun q => absurd q (by decide)) I_m_mdt24_t31.2.2.2), (Nd_0 (by decide) Mo_nil), ⟨(Io_2 (by have := or_256 (b := 1) (show ((t &&& 1) ||| 0) < 256 from by omega); omega) (by have := or_256 (b := 1) (show ((t &&& 1) ||| 0) < 256 from by omega); omega) (by have := or_256 (b := 1) (show ((t &&& 1) ||| 0) < 256 from by omega); omega) I_m_mdt24_t31.1 I_m_mdt24_t31.2.1 I_m_mdt24_t31.2.2.1 I_m_mdt24_t31.2.2.2), (Nd_A (by decide) (Mo_cons (fun q => show m_md t24 ≤ m_md t24 from by omega) Mo_nil) (Or.inr ⟨(3, m_md t24, (t &&& 1) ||| 0), List.mem_cons_self, rfl, Or.inl rfl⟩)), ⟨(Io_n (by decide) (show t &&& 1 < 4096 from by omega) I_m_mdt24_t31.1 I_m_mdt24_t31.2.1 I_m_mdt24_t31.2.2.1 (fun q => absurd q (by decide)) (fun q => absurd q (by decide)) I_m_mdt24_t31.2.2.2), (Nd_0 (by decide) (Mo_cons (fun q => show m_md t24 ≤ m_md t24 from by omega) (Mo_cons (fun q => show m_md t24 ≤ m_md t24 from by omega) Mo_nil))), Stk_step (N := n) (pop := (43, n, t)) (new := [(32, m_md t24, t &&& 1), (2, m_md t24, ((t &&& 1) ||| 0) ||| (1 * 256)), (3, m_md t24, (t &&& 1) ||| 0)]) F0 C_t31.1.to2 (fun (h : nk 43 = false) => absurd h (by decide)) (fun q _ h => h (43, n, t) rfl) (fun _ => rfl) (fun y hy hk => ⟨rfl, (Mo_cons (fun q => show n ≤ m_md t24 from by omega) (Mo_cons (fun q => show n ≤ m_md t24 from by omega) (Mo_cons (fun q => show n ≤ m_md t24 from by omega) Mo_nil))) y hy hk⟩) (fun (h : 43 = 3 ∨ 43 = 18 ∨ 43 = 41) => absurd h (by decide)) (fun (h : 43 = 18) => absurd h (by decide)) (fun _ h16 => (Or.inr ⟨f_n_t31, (Ab_some (y := (32, m_md t24, t &&& 1)) rfl (show n < m_md t24 from by omega)), H50_no la_n_t31 wl_n_t31 (by decide)⟩)) r [] (fun y hy => absurd hy List.not_mem_nil) hS⟩⟩⟩
        · exact (Aj_up (x := (3, m_md t24, (t &&& 1) ||| 0)) (Aj_up (x := (2, m_md t24, ((t &&& 1) ||| 0) ||| (1 * 256))) (Aj_sub (y := (32, m_md t24, t &&& 1)) hJ (Nat.le_of_ble_eq_true rfl)) (Or.inr (show 9 - (((t &&& 1) ||| 0) ||| (1 * 256)) / 256 < 9 from by have := or_256 (b := 1) (show ((t &&& 1) ||| 0) < 256 from by omega); omega))) (Or.inr (show 2 < 9 - (((t &&& 1) ||| 0) ||| (1 * 256)) / 256 from by have := or_256 (b := 1) (show ((t &&& 1) ||| 0) < 256 from by omega); omega)))
        · show m_dp t31 = (dlt 3 + (dlt 2 + (dlt 32 + sD r)))
          have : dlt 2 = 0 := rfl; have : dlt 3 = 0 := rfl; have : dlt 32 = 0 := rfl; have : dlt 43 = 0 := rfl; omega
        · show m_rw t31 = (rho 3 + (rho 2 + (rho 32 + sR r)))
          have : rho 2 = 0 := rfl; have : rho 3 = 0 := rfl; have : rho 32 = 0 := rfl; have : rho 43 = 0 := rfl; omega
        · show m_md t31 + (mu7 3 + (mu7 2 + (mu7 32 + sM r))) ≤ 3 * m_at t31 + 7 * (r.length + 1 + 1 + 1) + 10
          have : mu7 2 = 7 := rfl; have : mu7 3 = 5 := rfl; have : mu7 32 = 7 := rfl; have : mu7 43 = 4 := rfl; omega
        · show (wt 3 + (wt 2 + (wt 32 + sW r))) + 6 * (4096 - m_at t31) + 4 * (600 - (r.length + 1 + 1 + 1)) < (wt 43 + sW r) + 6 * (4096 - m_at t0) + 4 * (600 - (r.length + 1))
          have : wt 2 = 5 := rfl; have : wt 3 = 3 := rfl; have : wt 32 = 5 := rfl; have : wt 43 = 0 := rfl; omega
      · refine Ok_bnc ?_
        try unfold b_X6_expression
        refine Kp_push C_t26 (by omega) (fun t33 C_t33 X_t33 a_t33 b_t33 d_t33 w_t33 u_t33 v_t33 j_t33 l_t33 => ?_)
        have e_t33 := C_t33.2.2.2.1
        rw [a_t26] at a_t33
        rw [b_t26] at b_t33
        rw [d_t26] at d_t33
        rw [w_t26] at w_t33
        rw [u_t26] at u_t33
        rw [v_t26] at v_t33
        clear d_t26 w_t26 u_t26 v_t26 e_t26 a_t26 b_t26
        have I_n_t33 := I_n_t26.flat X_t33
        have f_n_t33 := f_n_t26.ex I_n_t26 (X_t33 0)
        have u_n_t33 := u_n_t26.ex I_n_t26 (X_t33 0)
        have I_m_mdt0_t33 := I_m_mdt0_t26.flat X_t33
        have f_m_mdt0_t33 := f_m_mdt0_t26.ex I_m_mdt0_t26 (X_t33 0)
        have I_m_mdt24_t33 := I_m_mdt24_t26.flat X_t33
        have u_m_mdt24_t33 := u_m_mdt24_t26.ex I_m_mdt24_t26 (X_t33 0)
        have la_n_t33 : m_la t33 n = (m_md t0) + 1 := by rw [j_t33.2.2.1]; exact la_n_t26
        have wl_n_t33 : m_wh t33 ((m_md t0)) = 54 := by rw [j_t33.1]; exact wl_n_t26
        clear la_n_t26 wl_n_t26
        have la_m_mdt0_t33 : m_la t33 (m_md t0) = (m_md t24) + 1 := by rw [j_t33.2.2.1]; exact la_m_mdt0_t26
        have wl_m_mdt0_t33 : m_wh t33 ((m_md t24)) = 13 := by rw [j_t33.1]; exact wl_m_mdt0_t26
        clear la_m_mdt0_t26 wl_m_mdt0_t26
        refine Kp_push C_t33 (by omega) (fun t34 C_t34 X_t34 a_t34 b_t34 d_t34 w_t34 u_t34 v_t34 j_t34 l_t34 => ?_)
        have e_t34 := C_t34.2.2.2.1
        rw [a_t33] at a_t34
        rw [b_t33] at b_t34
        rw [d_t33] at d_t34
        rw [w_t33] at w_t34
        rw [u_t33] at u_t34
        rw [v_t33] at v_t34
        clear d_t33 w_t33 u_t33 v_t33 e_t33 a_t33 b_t33
        have I_n_t34 := I_n_t33.flat X_t34
        have f_n_t34 := f_n_t33.ex I_n_t33 (X_t34 0)
        have u_n_t34 := u_n_t33.ex I_n_t33 (X_t34 0)
        have I_m_mdt0_t34 := I_m_mdt0_t33.flat X_t34
        have f_m_mdt0_t34 := f_m_mdt0_t33.ex I_m_mdt0_t33 (X_t34 0)
        have I_m_mdt24_t34 := I_m_mdt24_t33.flat X_t34
        have u_m_mdt24_t34 := u_m_mdt24_t33.ex I_m_mdt24_t33 (X_t34 0)
        have la_n_t34 : m_la t34 n = (m_md t0) + 1 := by rw [j_t34.2.2.1]; exact la_n_t33
        have wl_n_t34 : m_wh t34 ((m_md t0)) = 54 := by rw [j_t34.1]; exact wl_n_t33
        clear la_n_t33 wl_n_t33
        have la_m_mdt0_t34 : m_la t34 (m_md t0) = (m_md t24) + 1 := by rw [j_t34.2.2.1]; exact la_m_mdt0_t33
        have wl_m_mdt0_t34 : m_wh t34 ((m_md t24)) = 13 := by rw [j_t34.1]; exact wl_m_mdt0_t33
        clear la_m_mdt0_t33 wl_m_mdt0_t33
        refine Ok_ret (show Ok _ _ _ from ?_)
        refine Ok_ret (show Ok _ _ _ from ?_)
        refine Ok_ret (show Ok _ _ _ from ?_)
        refine Hv_mk (Kv_c (x := (3, m_md t24, (t &&& 1) ||| 0)) rfl (Kv_c (x := (2, m_md t24, ((t &&& 1) ||| 0) ||| (1 * 256))) rfl hK)) (C_t34.1.2.2.2.2.2.2 hTt) C_t34 hT (by omega) (by omega) (by omega) ?_ ?_ ?_ (by omega) ?_ ?_ ?_
        · exact ⟨(Io_n (by decide) (show (t &&& 1) ||| 0 < 4096 from by omega) I_m_mdt24_t34.1 I_m_mdt24_t34.2.1 I_m_mdt24_t34.2.2.1 (fun q => absurd q (by decide)) (fun q => absurd q (by decide)) I_m_mdt24_t34.2.2.2), (Nd_0 (by decide) Mo_nil), ⟨(Io_2 (by have := or_256 (b := 1) (show ((t &&& 1) ||| 0) < 256 from by omega); omega) (by have := or_256 (b := 1) (show ((t &&& 1) ||| 0) < 256 from by omega); omega) (by have := or_256 (b := 1) (show ((t &&& 1) ||| 0) < 256 from by omega); omega) I_m_mdt24_t34.1 I_m_mdt24_t34.2.1 I_m_mdt24_t34.2.2.1 I_m_mdt24_t34.2.2.2), (Nd_A (by decide) (Mo_cons (fun q => show m_md t24 ≤ m_md t24 from by omega) Mo_nil) (Or.inr ⟨(3, m_md t24, (t &&& 1) ||| 0), List.mem_cons_self, rfl, Or.inl rfl⟩)), Stk_step (N := n) (pop := (43, n, t)) (new := [(2, m_md t24, ((t &&& 1) ||| 0) ||| (1 * 256)), (3, m_md t24, (t &&& 1) ||| 0)]) F0 C_t34.1.to2 (fun (h : nk 43 = false) => absurd h (by decide)) (fun q _ h => h (43, n, t) rfl) (fun _ => rfl) (fun y hy hk => ⟨rfl, (Mo_cons (fun q => show n ≤ m_md t24 from by omega) (Mo_cons (fun q => show n ≤ m_md t24 from by omega) Mo_nil)) y hy hk⟩) (fun (h : 43 = 3 ∨ 43 = 18 ∨ 43 = 41) => absurd h (by decide)) (fun (h : 43 = 18) => absurd h (by decide)) (fun _ h16 => (Or.inr ⟨f_n_t34, (Ab_some (y := (2, m_md t24, ((t &&& 1) ||| 0) ||| (1 * 256))) rfl (show n < m_md t24 from by omega)), H50_no la_n_t34 wl_n_t34 (by decide)⟩)) r [] (fun y hy => absurd hy List.not_mem_nil) hS⟩⟩
        · exact (Aj_up (x := (3, m_md t24, (t &&& 1) ||| 0)) (Aj_sub (y := (2, m_md t24, ((t &&& 1) ||| 0) ||| (1 * 256))) hJ (show 9 - (((t &&& 1) ||| 0) ||| (1 * 256)) / 256 ≤ 10 from by have := or_256 (b := 1) (show ((t &&& 1) ||| 0) < 256 from by omega); omega)) (Or.inr (show 2 < 9 - (((t &&& 1) ||| 0) ||| (1 * 256)) / 256 from by have := or_256 (b := 1) (show ((t &&& 1) ||| 0) < 256 from by omega); omega)))
        · show m_dp t34 = (dlt 3 + (dlt 2 + sD r))
          have : dlt 2 = 0 := rfl; have : dlt 3 = 0 := rfl; have : dlt 43 = 0 := rfl; omega
        · show m_rw t34 = (rho 3 + (rho 2 + sR r))
          have : rho 2 = 0 := rfl; have : rho 3 = 0 := rfl; have : rho 43 = 0 := rfl; omega
        · show m_md t34 + (mu7 3 + (mu7 2 + sM r)) ≤ 3 * m_at t34 + 7 * (r.length + 1 + 1) + 10
          have : mu7 2 = 7 := rfl; have : mu7 3 = 5 := rfl; have : mu7 43 = 4 := rfl; omega
        · show (wt 3 + (wt 2 + sW r)) + 6 * (4096 - m_at t34) + 4 * (600 - (r.length + 1 + 1)) < (wt 43 + sW r) + 6 * (4096 - m_at t0) + 4 * (600 - (r.length + 1))
          have : wt 2 = 5 := rfl; have : wt 3 = 3 := rfl; have : wt 43 = 0 := rfl; omega

