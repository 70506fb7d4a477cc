/-! The stack of the reference: items (what to do, node, truths), the top first. -/
abbrev It : Type := Nat × Nat × Nat
def dlt (d : Nat) : Nat := if d = 6 then 1 else if d = 8 then 1 else if d = 9 then 1 else if d = 10 then 1 else if d = 11 then 1 else if d = 12 then 1 else if d = 13 then 1 else if d = 14 then 1 else if d = 15 then 1 else if d = 20 then 1 else if d = 24 then 1 else if d = 25 then 1 else if d = 26 then 1 else if d = 27 then 1 else if d = 28 then 1 else if d = 34 then 1 else if d = 35 then 1 else if d = 51 then 1 else 0
def rho (d : Nat) : Nat := if d = 24 then 1 else if d = 25 then 1 else 0
def mu7 (d : Nat) : Nat := if d = 3 then 5 else if d = 7 then 4 else if d = 8 then 4 else if d = 9 then 4 else if d = 10 then 4 else if d = 11 then 4 else if d = 12 then 5 else if d = 13 then 4 else if d = 14 then 4 else if d = 15 then 4 else if d = 17 then 5 else if d = 18 then 5 else if d = 21 then 3 else if d = 23 then 2 else if d = 24 then 4 else if d = 25 then 4 else if d = 26 then 4 else if d = 27 then 4 else if d = 28 then 4 else if d = 29 then 6 else if d = 34 then 4 else if d = 35 then 4 else if d = 37 then 5 else if d = 38 then 2 else if d = 41 then 6 else if d = 42 then 8 else if d = 43 then 4 else if d = 46 then 2 else if d = 48 then 0 else if d = 49 then 1 else if d = 50 then 1 else if d = 51 then 4 else if d = 52 then 5 else if d = 55 then 4 else if d = 57 then 5 else if d = 59 then 6 else 7
/-- the measure of the loop: what is still to do weighs so much -/
def wt (d : Nat) : Nat := if d = 2 then 5 else if d = 3 then 3 else if d = 4 then 5 else if d = 5 then 5 else if d = 6 then 5 else if d = 9 then 1 else if d = 12 then 1 else if d = 14 then 3 else if d = 16 then 5 else if d = 17 then 5 else if d = 20 then 5 else if d = 21 then 2 else if d = 22 then 5 else if d = 25 then 1 else if d = 27 then 1 else if d = 30 then 5 else if d = 31 then 5 else if d = 32 then 5 else if d = 33 then 2 else if d = 35 then 1 else if d = 36 then 5 else if d = 37 then 2 else if d = 39 then 9 else if d = 40 then 5 else if d = 41 then 6 else if d = 42 then 5 else if d = 44 then 5 else if d = 45 then 5 else if d = 47 then 5 else if d = 52 then 4 else if d = 53 then 5 else if d = 54 then 5 else if d = 56 then 5 else if d = 58 then 5 else if d = 59 then 7 else 0
/-- the rank of an item among those of its depth: they go down towards the top -/
def rkI (d n t : Nat) : Nat := if d = 2 then 9 - t / 256 else if d = 7 then (if n = 79 then 11 else 9) else if d = 18 then (if t = 1 then 0 else 10) else if d = 56 then (if t = 0 then 1 else 10) else if d = 3 then 2 else if d = 4 then 2 else if d = 5 then 1 else if d = 16 then 9 else if d = 17 then 8 else if d = 21 then 10 else if d = 22 then 10 else if d = 31 then 14 else if d = 32 then 9 else if d = 33 then 11 else if d = 36 then 11 else if d = 37 then 11 else if d = 38 then 12 else if d = 39 then 14 else if d = 40 then 14 else if d = 41 then 10 else if d = 42 then 10 else if d = 43 then 10 else if d = 44 then 11 else if d = 45 then 13 else if d = 46 then 12 else if d = 47 then 9 else if d = 48 then 12 else if d = 49 then 11 else if d = 50 then 11 else if d = 52 then 14 else if d = 53 then 11 else if d = 54 then 13 else if d = 55 then 13 else if d = 57 then 1 else if d = 58 then 11 else if d = 59 then 13 else 0
theorem ite_le1 {p : Prop} [Decidable p] {a b c : Nat} (h1 : a ≤ c) (h2 : b ≤ c) : (if p then a else b) ≤ c := by split <;> assumption
theorem dlt_le (d : Nat) : dlt d ≤ 1 := by
  unfold dlt
  repeat (refine ite_le1 (by decide) ?_)
  decide
theorem rho_le (d : Nat) : rho d ≤ dlt d := by
  by_cases h : d = 24
  · subst h; decide
  · by_cases h2 : d = 25
    · subst h2; decide
    · unfold rho; rw [if_neg h, if_neg h2]; exact Nat.zero_le _
theorem rkI_le (d n t : Nat) : rkI d n t ≤ 14 := by
  unfold rkI
  refine ite_le1 (by omega) (ite_le1 (ite_le1 (by decide) (by decide)) (ite_le1 (ite_le1 (by decide) (by decide)) (ite_le1 (ite_le1 (by decide) (by decide)) ?_)))
  repeat (refine ite_le1 (by decide) ?_)
  decide
def sD : List It → Nat
  | [] => 0
  | x :: r => dlt x.1 + sD r
def sR : List It → Nat
  | [] => 0
  | x :: r => rho x.1 + sR r
def sM : List It → Nat
  | [] => 0
  | x :: r => mu7 x.1 + sM r
def sW : List It → Nat
  | [] => 0
  | x :: r => wt x.1 + sW r
theorem sR_le : ∀ r : List It, sR r ≤ sD r := by
  intro r
  induction r with
  | nil => exact Nat.le_refl _
  | cons x r ih => have := rho_le x.1; show rho x.1 + sR r ≤ dlt x.1 + sD r; omega
/-- neighbours: y below x -/
def Aj : List It → Prop
  | [] => True
  | [_] => True
  | x :: y :: r => (1 ≤ dlt y.1 ∨ rkI x.1 x.2.1 x.2.2 < rkI y.1 y.2.1 y.2.2) ∧ Aj (y :: r)
theorem Aj_len : ∀ (r : List It) (x : It), Aj (x :: r) → r.length + rkI x.1 x.2.1 x.2.2 ≤ 16 * sD r + 14 := by
  intro r
  induction r with
  | nil => intro x _; have := rkI_le x.1 x.2.1 x.2.2; show 0 + _ ≤ 16 * 0 + 14; omega
  | cons y r ih =>
    intro x h
    have h1 := ih y h.2
    have h2 := rkI_le x.1 x.2.1 x.2.2
    show r.length + 1 + rkI x.1 x.2.1 x.2.2 ≤ 16 * (dlt y.1 + sD r) + 14
    rcases h.1 with h3 | h3
    · omega
    · omega
theorem Aj_tl {x : It} {r : List It} (h : Aj (x :: r)) : Aj r := by
  cases r with
  | nil => trivial
  | cons y r => exact h.2
theorem Aj_max {r : List It} (h : Aj r) : r.length ≤ 16 * sD r + 15 := by
  cases r with
  | nil => exact Nat.zero_le _
  | cons x r => have := Aj_len r x h; show r.length + 1 ≤ 16 * (dlt x.1 + sD r) + 15; omega
/-- the rows hold the stack -/
def Arr (dz no tr : Nat → Nat) : Nat → List It → Prop
  | td, [] => td = 0
  | td, x :: r => ∃ k, td = k + 1 ∧ dz k = x.1 ∧ no k = x.2.1 ∧ tr k = x.2.2 ∧ Arr dz no tr k r
theorem Arr_fr {dz no tr dz' no' tr' : Nat → Nat} : ∀ (r : List It) (td : Nat), (∀ k, k < td → dz' k = dz k ∧ no' k = no k ∧ tr' k = tr k) → Arr dz no tr td r → Arr dz' no' tr' td r := by
  intro r
  induction r with
  | nil => intro td _ h; exact h
  | cons x r ih =>
    intro td f h
    obtain ⟨k, rfl, h1, h2, h3, h4⟩ := h
    obtain ⟨f1, f2, f3⟩ := f k (Nat.lt_succ_self k)
    exact ⟨k, rfl, by rw [f1, h1], by rw [f2, h2], by rw [f3, h3], ih k (fun j hj => f j (by omega)) h4⟩
theorem Arr_len {dz no tr : Nat → Nat} : ∀ (r : List It) (td : Nat), Arr dz no tr td r → td = r.length := by
  intro r
  induction r with
  | nil => intro td h; exact h
  | cons x r ih => intro td h; obtain ⟨k, rfl, -, -, -, h4⟩ := h; rw [ih k h4]; rfl
abbrev Ar (s : Mm) (r : List It) : Prop := Arr (m_dz s) (m_no s) (m_tr s) (m_td s) r
/-- all but the stack -/
def Sp6 (s s' : Mm) : Prop := m_th s' = m_th s ∧ m_ct s' = m_ct s ∧ m_md s' = m_md s ∧ m_nd s' = m_nd s ∧ m_at s' = m_at s ∧ m_dp s' = m_dp s ∧ m_wr s' = m_wr s ∧ m_rw s' = m_rw s ∧ m_kd s' = m_kd s ∧ m_wh s' = m_wh s ∧ m_pa s' = m_pa s ∧ m_fi s' = m_fi s ∧ m_la s' = m_la s ∧ m_nx s' = m_nx s ∧ m_nm s' = m_nm s ∧ m_pl s' = m_pl s ∧ m_pe s' = m_pe s ∧ m_en s' = m_en s
theorem Ok_push {E : Mm → Prop} {d n t : Nat} {s : Mm} {r : List It} (hA : Ar s r) (h : m_td s < 4096) : Ok (fun v s' => v = 0 ∧ Sp6 s s' ∧ m_td s' = m_td s + 1 ∧ Ar s' ((d, n, t) :: r)) E (b_X6_push d n t s) := by
  unfold b_X6_push
  refine Ok_ck h (Ok_st (Ok_ck h (Ok_st (Ok_ck h (Ok_st (Ok_st (Ok_ret ⟨rfl, ⟨rfl, rfl, rfl, rfl, rfl, rfl, rfl, rfl, rfl, rfl, rfl, rfl, rfl, rfl, rfl, rfl, rfl, rfl⟩, rfl, ?_⟩)))))))
  refine ⟨m_td s, rfl, upN_at, upN_at, upN_at, Arr_fr r (m_td s) (fun k hk => ⟨upN_ne (Nat.ne_of_lt hk), upN_ne (Nat.ne_of_lt hk), upN_ne (Nat.ne_of_lt hk)⟩) hA⟩
/-- the tokens: kinds below 128, none of them 0 -/
def Tk (s : Mm) : Prop := m_ct s ≤ 16384 ∧ ∀ i, i < m_ct s → m_kd s i ≠ 0 ∧ m_kd s i < 128
/-- the token at i; 0 behind the last -/
def lo (s : Mm) (i : Nat) : Nat := if i < m_ct s then m_kd s i else 0
theorem lo_lt {s : Mm} (h : Tk s) (i : Nat) : lo s i < 128 := by
  unfold lo
  split
  · rename_i hi; exact (h.2 i hi).2
  · decide
theorem lo_ne {s : Mm} {i : Nat} (h : lo s i ≠ 0) : i < m_ct s := by
  unfold lo at h
  by_cases hi : i < m_ct s
  · exact hi
  · rw [if_neg hi] at h; exact absurd rfl h
section LOOK
variable {P : Nat → Mm → Prop} {E : Mm → Prop} {s : Mm} {k : Nat → Mm → Rs Mm} {x : Nat}
theorem Ok_look (h : Tk s) (ha : m_at s < 2147483648) (A : Ok P E (k (lo s (m_at s)) s)) : Ok P E (bn (b_X6_look s) k) := by
  have hc := h.1
  unfold b_X6_look
  rw [ifl_of ha (by omega)]
  unfold lo at A
  by_cases hi : m_at s < m_ct s
  · rw [if_pos hi] at A ⊢
    rw [ck_t (show m_at s < 16385 by omega)]; exact A
  · rw [if_neg hi] at A ⊢; exact A
theorem Ok_ahead (h : Tk s) (ha : m_at s < 2147483647) (A : Ok P E (k (lo s (m_at s + 1)) s)) : Ok P E (bn (b_X6_ahead s) k) := by
  have hc := h.1
  unfold b_X6_ahead
  rw [ifl_of (by omega) (by omega)]
  unfold lo at A
  by_cases hi : m_at s + 1 < m_ct s
  · rw [if_pos hi] at A ⊢
    rw [ck_t (show m_at s + 1 < 16385 by omega)]; exact A
  · rw [if_neg hi] at A ⊢; exact A
/-- all but the place, the depth, and what is wrong -/
def Sw (s s' : Mm) : Prop := m_th s' = m_th s ∧ m_ct s' = m_ct s ∧ m_md s' = m_md s ∧ m_nd s' = m_nd s ∧ m_td s' = m_td s ∧ m_rw s' = m_rw s ∧ m_kd s' = m_kd s ∧ m_wh s' = m_wh s ∧ m_pa s' = m_pa s ∧ m_fi s' = m_fi s ∧ m_la s' = m_la s ∧ m_nx s' = m_nx s ∧ m_dz s' = m_dz s ∧ m_no s' = m_no s ∧ m_tr s' = m_tr s ∧ m_nm s' = m_nm s ∧ m_pl s' = m_pl s ∧ m_pe s' = m_pe s ∧ m_en s' = m_en s
theorem Sw_rf (s : Mm) : Sw s s := ⟨rfl, rfl, rfl, rfl, rfl, rfl, rfl, rfl, rfl, rfl, rfl, rfl, rfl, rfl, rfl, rfl, rfl, rfl, rfl⟩
theorem Ok_error (hw : m_wr s < 2147483648) : Ok (fun v s' => v = 0 ∧ Sw s s' ∧ m_at s' = m_at s ∧ m_dp s' = m_dp s ∧ m_wr s' ≠ 0 ∧ m_wr s' ≤ m_wr s + m_at s + 1) E (b_X6_error s) := by
  unfold b_X6_error
  refine Ok_ifz hw (fun q => Ok_st (Ok_ret ⟨rfl, Sw_rf s, rfl, rfl, Nat.succ_ne_zero _, ?_⟩)) (fun q => Ok_ret ⟨rfl, Sw_rf s, rfl, rfl, q, by omega⟩)
  show m_at s + 1 ≤ _
  omega
theorem Ok_more (hw : m_wr s < 2147483648) (hd : m_dp s < 1000000) : Ok (fun v s' => v = 0 ∧ Sw s s' ∧ m_at s' = m_at s ∧ m_dp s' = m_dp s + 1 ∧ ((m_wr s' = m_wr s ∧ m_dp s' ≤ 30) ∨ (m_wr s' ≠ 0 ∧ m_wr s' ≤ m_wr s + m_at s + 1))) E (b_X6_more s) := by
  unfold b_X6_more
  refine Ok_st ?_
  refine Ok_ifl (by decide) (show m_dp s + 1 < 2147483648 by omega) (fun q => ?_) (fun q => ?_)
  · refine Ok_bn (Ok_error (s := w_dp s (m_dp s + 1)) hw) (fun v s' h => Ok_ret ⟨rfl, h.2.1, h.2.2.1, h.2.2.2.1, Or.inr ⟨h.2.2.2.2.1, h.2.2.2.2.2⟩⟩)
  · exact Ok_ret ⟨rfl, Sw_rf s, rfl, rfl, Or.inl ⟨rfl, by have q : ¬ 30 < m_dp s + 1 := q; show m_dp s + 1 ≤ 30; omega⟩⟩
theorem Ok_pass (h : Tk s) (ha : m_at s < 1000000) (hx : x < 2147483648) (hw : m_wr s < 2147483648) : Ok (fun v s' => v = 0 ∧ Sw s s' ∧ m_at s' = m_at s + 1 ∧ m_dp s' = m_dp s ∧ ((m_wr s' = m_wr s ∧ lo s (m_at s) = x) ∨ (m_wr s' ≠ 0 ∧ m_wr s' ≤ m_wr s + m_at s + 1))) E (b_X6_pass x s) := by
  unfold b_X6_pass
  refine Ok_look h (by omega) ?_
  have hl := lo_lt h (m_at s)
  refine Ok_ife (by omega) hx (fun q => Ok_st (Ok_ret ⟨rfl, Sw_rf s, rfl, rfl, Or.inl ⟨rfl, q⟩⟩)) (fun q => ?_)
  refine Ok_bn (Ok_error hw) (fun v s' h => Ok_st (Ok_ret ⟨rfl, h.2.1, ?_, h.2.2.2.1, Or.inr ⟨h.2.2.2.2.1, h.2.2.2.2.2⟩⟩))
  show m_at s' + 1 = _
  rw [h.2.2.1]
end LOOK
