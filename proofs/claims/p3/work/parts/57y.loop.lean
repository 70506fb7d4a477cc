/-! listRest: along the chain. -/
theorem Q_43_loop {t0 : Mm} {n t : Nat} {r : List It} (H : Hp t0 (43, n, t) r) {E : Mm → Prop} : Ok (Qh (mz t0 ((43, n, t) :: r))) E (lp_X6_listRest_18 LF n t (m_la t0 n - 1) 1 (m_fi t0 (m_la t0 n - 1)) t0) := by
  obtain ⟨hK, hT, hc, hw0, ha, hC, hS, hJ, hdp, hdl9, hrw, hmd, htd, hln, hm16, hI, hD, hTt⟩ := Hp_out H
  have C_t0 := hC n
  have F0 := C_t0.2.1
  have I_n : Nq t0 n := ⟨(hI.2.1 rfl).1, (hI.2.1 rfl).2.1, (hI.2.1 rfl).2.2, hI.2.2.2 rfl⟩
  obtain ⟨f5, -, -, g43, w43⟩ := hD.2.2.2.1 rfl
  obtain ⟨hla0, hla2, -, -⟩ := Fo_lp F0 I_n f5
  have hk : m_la t0 n - 1 < m_md t0 := by omega
  have g43 : GdS t0 (m_la t0 n - 1) := g43
  by_cases h0 : m_fi t0 (m_la t0 n - 1) = 0
  · rw [h0]
    exact Q_listRest_18 H 19999 1 (by decide)
  · obtain ⟨l, e, c1, c2, c3, c4, c5⟩ := Fo_ch F0 hk g43 h0
    have step : ∀ (y y4 f : Nat), y < m_md t0 → y4 ≤ 1 → (∀ y4', y4' ≤ 1 → Ok (Qh (mz t0 ((43, n, t) :: r))) E (lp_X6_listRest_18 f n t (m_la t0 n - 1) y4' (m_nx t0 y) t0)) → Ok (Qh (mz t0 ((43, n, t) :: r))) E (lp_X6_listRest_18 (f + 1) n t (m_la t0 n - 1) y4 (y + 1) t0) := by
      intro y y4 f hy h4 ih
      rw [lp_X6_listRest_18]
      refine Ok_ifz (by omega) (fun q => absurd q (Nat.succ_ne_zero _)) (fun _ => ?_)
      refine Ok_ifz (by omega) (fun q => ?_) (fun q => ?_)
      · exact Ok_ck (Nat.succ_ne_zero _) (Ok_ck (show y + 1 - 1 < 65536 from by omega) (ih 0 (by decide)))
      · refine Ok_ck (Nat.succ_ne_zero _) (Ok_ck (show y + 1 - 1 < 65536 from by omega) ?_)
        refine Ok_ife (Nat.lt_trans (C_t0.2.2.2.2.2.2.1 _) (by decide)) (by decide) (fun _ => ?_) (fun _ => ?_)
        · exact Ok_ck (Nat.succ_ne_zero _) (Ok_ck (show y + 1 - 1 < 65536 from by omega) (ih 1 (by decide)))
        · exact Ok_ck (Nat.succ_ne_zero _) (Ok_ck (show y + 1 - 1 < 65536 from by omega) (ih 0 (by decide)))
    have loop : ∀ (l : List Nat) (f y4 : Nat), Sl (m_nx t0) l e → y4 ≤ 1 → l.length + 1 < f → Ok (Qh (mz t0 ((43, n, t) :: r))) E (lp_X6_listRest_18 f n t (m_la t0 n - 1) y4 (hdl l e + 1) t0) := by
      intro l
      induction l with
      | nil =>
        intro f y4 hS h4 hf
        obtain ⟨f, rfl⟩ : ∃ j, f = j + 1 + 1 := ⟨f - 2, by have : ([] : List Nat).length = 0 := rfl; omega⟩
        refine step e y4 (f + 1) c4 h4 (fun y' hy' => ?_)
        have h9 : m_nx t0 e = 0 := hS
        rw [h9]
        exact Q_listRest_18 H f y' hy'
      | cons x l ih =>
        intro f y4 hS h4 hf
        obtain ⟨f, rfl⟩ : ∃ j, f = j + 1 := ⟨f - 1, by omega⟩
        have hx := Sl_lt _ e hS x List.mem_cons_self
        refine step x y4 f (by omega) h4 (fun y' hy' => ?_)
        rw [hS.1]
        exact ih f y' hS.2.2 hy' (by simpa using hf)
    rw [c1]
    have hlen := Sl_len l e c3
    exact loop l LF 1 c3 (by decide) (by unfold LF; omega)
