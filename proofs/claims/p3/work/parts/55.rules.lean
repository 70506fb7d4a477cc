/-! Rules along a step of the reference on the node N. -/
/-- the rows of a list of params -/
def Pb (s : Mm) : Prop := ∀ k, m_pl s k < 2 ∧ m_nm s k < 2 ∧ m_en s k < 2 ∧ (k < m_rw s → m_pe s k ≤ m_at s)
/-- what nodes are called -/
def Wb (s : Mm) : Prop := ∀ k, m_wh s k < 256
/-- and none is numbered yet -/
def Wd (s : Mm) : Prop := Wb s ∧ m_nd s = 0 ∧ 0 < m_md s
theorem Wb_eq {s s' : Mm} (h : Wd s) (e : m_wh s' = m_wh s) (e2 : m_nd s' = m_nd s) (e3 : m_md s ≤ m_md s') : Wd s' := ⟨fun k => by rw [e]; exact h.1 k, by rw [e2]; exact h.2.1, Nat.lt_of_lt_of_le h.2.2 e3⟩
theorem Wb_up {s s' : Mm} {i v : Nat} (h : Wd s) (hv : v < 256) (e : m_wh s' = upN (m_wh s) i v) (e2 : m_nd s' = m_nd s) (e3 : m_md s ≤ m_md s') : Wd s' := ⟨fun k => by
  rw [e]; unfold upN; split
  · exact hv
  · exact h.1 k, by rw [e2]; exact h.2.1, Nat.lt_of_lt_of_le h.2.2 e3⟩
/-- what is carried from state to state: the tokens, the nodes that stood before, the stack -/
def Cy (N : Nat) (s0 s : Mm) (r : List It) : Prop := Ex N s0 s ∧ FoS s ∧ Ar s r ∧ m_ct s = m_ct s0 ∧ m_kd s = m_kd s0 ∧ Pb s ∧ Wd s
theorem Cy.tk {N : Nat} {s0 s : Mm} {r : List It} (h : Cy N s0 s r) (t : Tk s0) : Tk s := by
  obtain ⟨-, -, -, h1, h2, -, -⟩ := h
  unfold Tk
  rw [h1, h2]; exact t
theorem lo_eq {s s' : Mm} {i : Nat} (h1 : m_ct s' = m_ct s) (h2 : m_kd s' = m_kd s) : lo s' i = lo s i := by unfold lo; rw [h1, h2]
theorem Pb_eq {s s' : Mm} (h : Pb s) (ha : m_at s ≤ m_at s') (h1 : m_pl s' = m_pl s) (h2 : m_nm s' = m_nm s) (h3 : m_en s' = m_en s) (h4 : m_pe s' = m_pe s) (h5 : m_rw s' = m_rw s) : Pb s' := fun k => by
  rw [h1, h2, h3, h4, h5]
  exact ⟨(h k).1, (h k).2.1, (h k).2.2.1, fun q => Nat.le_trans ((h k).2.2.2 q) ha⟩
/-- the nodes are as they were -/
def Nst (s s' : Mm) : Prop := m_wh s' = m_wh s ∧ m_fi s' = m_fi s ∧ m_la s' = m_la s ∧ m_pa s' = m_pa s ∧ m_pe s' = m_pe s
/-- a new child of p -/
def Chd (p w : Nat) (s s' : Mm) : Prop := m_wh s' (m_md s) = w ∧ m_fi s' (m_md s) = 0 ∧ m_la s' (m_md s) = 0 ∧ m_pa s' (m_md s) = p + 1 ∧ m_fi s' p ≠ 0 ∧ m_la s' p = m_md s + 1 ∧ (∀ q, q < m_md s → m_pa s' q = m_pa s q ∧ m_wh s' q = m_wh s q) ∧ (∀ q, q < m_md s → q ≠ p → m_la s' q = m_la s q ∧ m_fi s' q = m_fi s q) ∧ (m_fi s p ≠ 0 → m_fi s' p = m_fi s p) ∧ m_pe s' = m_pe s
/-- a wrap of the last child of p -/
def Wrp (p w : Nat) (s s' : Mm) : Prop := m_wh s' (m_md s) = w ∧ m_fi s' (m_md s) = m_la s p ∧ m_la s p ≠ 0 ∧ m_la s p ≤ m_md s ∧ m_pa s' (m_md s) = p + 1 ∧ GdS s' (m_md s) ∧ m_fi s' p ≠ 0 ∧ m_la s' p = m_md s + 1 ∧ (∀ q, q < m_md s → m_wh s' q = m_wh s q) ∧ (∀ q, q < m_md s → q ≠ p → m_la s' q = m_la s q ∧ m_fi s' q = m_fi s q) ∧ m_la s' (m_md s) = m_la s p ∧ (Tt s → ∀ c, c < m_md s → m_nx s' c = m_md s + 1 → c < m_la s p - 1) ∧ m_pa s' (m_la s p - 1) = m_md s + 1
theorem Ok_share {σ : Type} {P : Nat → σ → Prop} {E : σ → Prop} {A X : Rs σ} {Q : Prop} (hA : Q → Ok P E A) (K : (Q → Ok P E A) → Ok P E X) : Ok P E X := K hA
section KP
variable {N : Nat} {s0 s : Mm} {r : List It} {P : Nat → Mm → Prop} {E : Mm → Prop} {k : Nat → Mm → Rs Mm}
theorem Ok_bnc {σ : Type} {P : Nat → σ → Prop} {E : σ → Prop} {r : Rs σ} {k : Nat → σ → Rs σ} (h : Ok (fun v s' => Ok P E (k v s')) E r) : Ok P E (bn r k) := Ok_bn h (fun _ _ q => q)
theorem Kp_push {d n t : Nat} (C : Cy N s0 s r) (ht : m_td s < 4096) (A : ∀ s', Cy N s0 s' ((d, n, t) :: r) → (∀ M, Ex M s s') → m_at s' = m_at s → m_md s' = m_md s → m_dp s' = m_dp s → m_wr s' = m_wr s → m_rw s' = m_rw s → m_td s' = m_td s + 1 → Nst s s' → lo s' (m_at s') = lo s (m_at s) → Ok P E (k 0 s')) : Ok P E (bn (b_X6_push d n t s) k) := by
  obtain ⟨c1, c2, c3, c4, c5, c6, c7⟩ := C
  refine Ok_bn (Ok_push c3 ht) (fun v s' h => ?_)
  obtain ⟨rfl, ⟨h1, h2, h3, h4, h5, h6, h7, h8, h9, h10, h11, h12, h13, h14, h15, h16, h17, h18⟩, htd, hA⟩ := h
  have hE : ∀ M, Ex M s s' := fun M => Ex.same c2 h3 h10 h11 h12 h13 h14
  exact A s' ⟨c1.trans (hE N), (hE N).1, hA, by rw [h2, c4], by rw [h9, c5], Pb_eq c6 (by omega) h16 h15 h18 h17 h8, Wb_eq c7 h10 h4 (by omega)⟩ hE h5 h3 h6 h7 h8 htd ⟨h10, h12, h13, h11, h17⟩ (by rw [h5]; exact lo_eq h2 h9)
theorem Kp_child {p w t : Nat} (C : Cy N s0 s r) (hp : p < m_md s) (hg : GdS s p) (hw : m_wh s p ≠ 50) (hN : N ≤ p) (hm : m_md s < 20000) (hk : w ≠ 69) (hk2 : w < 256) (A : ∀ s', Cy N s0 s' (r) → (∀ M, M ≤ p → Ex M s s') → m_at s' = m_at s → m_md s' = m_md s + 1 → m_dp s' = m_dp s → m_wr s' = m_wr s → m_rw s' = m_rw s → m_td s' = m_td s → Chd p w s s' → lo s' (m_at s') = lo s (m_at s) → Ok P E (k (m_md s) s')) : Ok P E (bn (b_X6_child p w t s) k) := by
  obtain ⟨c1, c2, c3, c4, c5, c6, c7⟩ := C
  refine Ok_bn (Ok_child c2 hp hg hm) (fun v s' h => ?_)
  obtain ⟨rfl, hC⟩ := h
  have hE : ∀ M, M ≤ p → Ex M s s' := fun M hM => Ex_child c2 hp hg hw hk hM hC
  obtain ⟨f1, ⟨h1, h2, h3, h4, h5, h6, h7, h8, h9, h10, h11, h12, h13, h14, h15, h16⟩, f3, f4, f5, f6, f7, f8, -⟩ := hC
  refine A s' ⟨c1.trans (hE N hN), (hE N hN).1, ?_, by rw [h2, c4], by rw [h9, c5], Pb_eq c6 (by omega) h14 h13 h16 h15 h8, Wb_up c7 hk2 f4 h3 (by omega)⟩ hE h5 f3 h6 h7 h8 h4 ⟨by rw [f4, upN_at], ?_, by rw [f7, upN_ne (by omega), upN_at], by rw [f5, upN_at], ?_, by rw [f7, upN_at], fun q hq => ⟨by rw [f5, upN_ne (by omega)], by rw [f4, upN_ne (by omega)]⟩, fun q hq hqp => ⟨by rw [f7, upN_ne hqp, upN_ne (by omega)], ?_⟩, fun h0 => by rw [f6, if_neg h0, upN_ne (by omega)], h15⟩ (by rw [h5]; exact lo_eq h2 h9)
  · show Arr (m_dz s') (m_no s') (m_tr s') (m_td s') r
    rw [h10, h11, h12, h4]; exact c3
  · rw [f6]
    split
    · rw [upN_ne (by omega), upN_at]
    · rw [upN_at]
  · rw [f6]
    split
    · rw [upN_at]; omega
    · rename_i h0; rw [upN_ne (by omega)]; exact h0
  · rw [f6]
    split
    · rw [upN_ne hqp, upN_ne (by omega)]
    · rw [upN_ne (by omega)]
theorem Kp_wrap {p w t : Nat} (C : Cy N s0 s r) (hp : p < m_md s) (hg : GdS s p) (h0 : m_fi s p ≠ 0) (hw : m_wh s p ≠ 50) (hN : N ≤ p) (hm : m_md s < 20000) (hk2 : w < 256) (A : ∀ s', Cy N s0 s' (r) → (∀ M, M ≤ p → Ex M s s') → m_at s' = m_at s → m_md s' = m_md s + 1 → m_dp s' = m_dp s → m_wr s' = m_wr s → m_rw s' = m_rw s → m_td s' = m_td s → Wrp p w s s' → lo s' (m_at s') = lo s (m_at s) → Ok P E (k (m_md s) s')) : Ok P E (bn (b_X6_wrap p w t s) k) := by
  obtain ⟨c1, c2, c3, c4, c5, c6, c7⟩ := C
  refine Ok_bn (Ok_wrap c2 hp hg h0 hm) (fun v s' h => ?_)
  obtain ⟨rfl, hC⟩ := h
  have hE : ∀ M, M ≤ p → Ex M s s' := fun M hM => Ex_wrap c2 hp hg h0 hw hM hC
  obtain ⟨l, e, a, b, c, d, g⟩ := Fo_ch c2 hp hg h0
  obtain ⟨f1, ⟨h1, h2, h3, h4, h5, h6, h7, h8, h9, h10, h11, h12, h13, h14, h15, h16⟩, f3, f4, f5, f6, f7, f8, -, f9⟩ := hC
  have hfw : m_fi s' (m_md s) = m_la s p := by
    rcases f6 with ⟨-, f6⟩ | ⟨-, f6⟩
    · rw [f6, upN_ne (by omega), upN_at]
    · rw [f6, upN_at]
  refine A s' ⟨c1.trans (hE N hN), (hE N hN).1, ?_, by rw [h2, c4], by rw [h9, c5], Pb_eq c6 (by omega) h14 h13 h16 h15 h8, Wb_up c7 hk2 f4 h3 (by omega)⟩ hE h5 f3 h6 h7 h8 h4 ⟨by rw [f4, upN_at], hfw, by omega, by omega, by rw [f5, upN_ne (by omega), upN_at], Or.inr ?_, ((hE N hN).2.2.1 p hp).2.2.1 h0, by rw [f7, upN_at], fun q hq => by rw [f4, upN_ne (by omega)], fun q hq hqp => ⟨by rw [f7, upN_ne hqp, upN_ne (by omega)], ?_⟩, by rw [f7, upN_ne (by omega), upN_at], fun T c hc1 hc3 => ?_, by rw [f5, upN_at]⟩ (by rw [h5]; exact lo_eq h2 h9)
  · show Arr (m_dz s') (m_no s') (m_tr s') (m_td s') r
    rw [h10, h11, h12, h4]; exact c3
  · rw [hfw, f5, b, Nat.add_sub_cancel, upN_at]
  · rcases f6 with ⟨-, f6⟩ | ⟨-, f6⟩
    · rw [f6, upN_ne hqp, upN_ne (by omega)]
    · rw [f6, upN_ne (by omega)]
  · obtain ⟨-, -, lo, hi, T⟩ := T
    have t3 := (T c hc1).2.2.1
    have := f9 c hc1 (by omega) hc3
    omega
theorem Kp_at {k : Mm → Rs Mm} (C : Cy N s0 s r) (A : ∀ s', Cy N s0 s' (r) → (∀ M, Ex M s s') → m_at s' = m_at s + 1 → m_md s' = m_md s → m_dp s' = m_dp s → m_wr s' = m_wr s → m_rw s' = m_rw s → m_td s' = m_td s → Nst s s' → lo s' (m_at s') = lo s (m_at s + 1) → Ok P E (k s')) : Ok P E (st1 (w_at s (m_at s + 1)) k) := by
  obtain ⟨c1, c2, c3, c4, c5, c6, c7⟩ := C
  have hE : ∀ M, Ex M s (w_at s (m_at s + 1)) := fun M => Ex.same c2 rfl rfl rfl rfl rfl rfl
  exact Ok_st (A _ ⟨c1.trans (hE N), (hE N).1, c3, c4, c5, Pb_eq c6 (Nat.le_succ _) rfl rfl rfl rfl rfl, c7⟩ hE rfl rfl rfl rfl rfl rfl ⟨rfl, rfl, rfl, rfl, rfl⟩ rfl)
theorem Kp_dp {k : Mm → Rs Mm} (C : Cy N s0 s r) (A : ∀ s', Cy N s0 s' (r) → (∀ M, Ex M s s') → m_at s' = m_at s → m_md s' = m_md s → m_dp s' = m_dp s - 1 → m_wr s' = m_wr s → m_rw s' = m_rw s → m_td s' = m_td s → Nst s s' → lo s' (m_at s') = lo s (m_at s) → Ok P E (k s')) : Ok P E (st1 (w_dp s (m_dp s - 1)) k) := by
  obtain ⟨c1, c2, c3, c4, c5, c6, c7⟩ := C
  have hE : ∀ M, Ex M s (w_dp s (m_dp s - 1)) := fun M => Ex.same c2 rfl rfl rfl rfl rfl rfl
  exact Ok_st (A _ ⟨c1.trans (hE N), (hE N).1, c3, c4, c5, Pb_eq c6 (Nat.le_refl _) rfl rfl rfl rfl rfl, c7⟩ hE rfl rfl rfl rfl rfl rfl ⟨rfl, rfl, rfl, rfl, rfl⟩ rfl)
theorem Kp_tk {k : Mm → Rs Mm} {f : Nat → Nat} (C : Cy N s0 s r) (A : ∀ s', Cy N s0 s' (r) → (∀ M, Ex M s s') → m_at s' = m_at s → m_md s' = m_md s → m_dp s' = m_dp s → m_wr s' = m_wr s → m_rw s' = m_rw s → m_td s' = m_td s → Nst s s' → lo s' (m_at s') = lo s (m_at s) → Ok P E (k s')) : Ok P E (st1 (w_tk s f) k) := by
  obtain ⟨c1, c2, c3, c4, c5, c6, c7⟩ := C
  have hE : ∀ M, Ex M s (w_tk s f) := fun M => Ex.same c2 rfl rfl rfl rfl rfl rfl
  exact Ok_st (A _ ⟨c1.trans (hE N), (hE N).1, c3, c4, c5, Pb_eq c6 (Nat.le_refl _) rfl rfl rfl rfl rfl, c7⟩ hE rfl rfl rfl rfl rfl rfl ⟨rfl, rfl, rfl, rfl, rfl⟩ rfl)
theorem Kp_wh {k : Mm → Rs Mm} {u v : Nat} (C : Cy N s0 s r) (h50 : v ≠ 50) (h21 : v ≠ 21) (h69 : v ≠ 69) (hv : v < 256) (A : ∀ s', Cy N s0 s' (r) → (∀ M, Ex M s s') → m_at s' = m_at s → m_md s' = m_md s → m_dp s' = m_dp s → m_wr s' = m_wr s → m_rw s' = m_rw s → m_td s' = m_td s → (m_wh s' = upN (m_wh s) u v ∧ m_fi s' = m_fi s ∧ m_la s' = m_la s ∧ m_pa s' = m_pa s ∧ m_pe s' = m_pe s) → lo s' (m_at s') = lo s (m_at s) → Ok P E (k s')) : Ok P E (st1 (w_wh s (upN (m_wh s) u v)) k) := by
  obtain ⟨c1, c2, c3, c4, c5, c6, c7⟩ := C
  have hE : ∀ M, Ex M s (w_wh s (upN (m_wh s) u v)) := fun M => Ex_wh c2 h50 h21 h69 rfl rfl rfl rfl rfl rfl
  exact Ok_st (A _ ⟨c1.trans (hE N), (hE N).1, c3, c4, c5, Pb_eq c6 (Nat.le_refl _) rfl rfl rfl rfl rfl, Wb_up c7 hv rfl rfl (Nat.le_refl _)⟩ hE rfl rfl rfl rfl rfl rfl ⟨rfl, rfl, rfl, rfl, rfl⟩ rfl)
theorem Kp_nm {k : Mm → Rs Mm} {i v : Nat} (C : Cy N s0 s r) (hv : v < 2) (A : ∀ s', Cy N s0 s' (r) → (∀ M, Ex M s s') → m_at s' = m_at s → m_md s' = m_md s → m_dp s' = m_dp s → m_wr s' = m_wr s → m_rw s' = m_rw s → m_td s' = m_td s → Nst s s' → lo s' (m_at s') = lo s (m_at s) → Ok P E (k s')) : Ok P E (st1 (w_nm s (upN (m_nm s) i v)) k) := by
  obtain ⟨c1, c2, c3, c4, c5, c6, c7⟩ := C
  have hE : ∀ M, Ex M s (w_nm s (upN (m_nm s) i v)) := fun M => Ex.same c2 rfl rfl rfl rfl rfl rfl
  exact Ok_st (A _ ⟨c1.trans (hE N), (hE N).1, c3, c4, c5, fun j => ⟨(c6 j).1, by show upN _ _ _ j < 2; unfold upN; split; exact hv; exact (c6 j).2.1, (c6 j).2.2.1, (c6 j).2.2.2⟩, c7⟩ hE rfl rfl rfl rfl rfl rfl ⟨rfl, rfl, rfl, rfl, rfl⟩ rfl)
theorem Kp_pl {k : Mm → Rs Mm} {i v : Nat} (C : Cy N s0 s r) (hv : v < 2) (A : ∀ s', Cy N s0 s' (r) → (∀ M, Ex M s s') → m_at s' = m_at s → m_md s' = m_md s → m_dp s' = m_dp s → m_wr s' = m_wr s → m_rw s' = m_rw s → m_td s' = m_td s → Nst s s' → lo s' (m_at s') = lo s (m_at s) → Ok P E (k s')) : Ok P E (st1 (w_pl s (upN (m_pl s) i v)) k) := by
  obtain ⟨c1, c2, c3, c4, c5, c6, c7⟩ := C
  have hE : ∀ M, Ex M s (w_pl s (upN (m_pl s) i v)) := fun M => Ex.same c2 rfl rfl rfl rfl rfl rfl
  exact Ok_st (A _ ⟨c1.trans (hE N), (hE N).1, c3, c4, c5, fun j => ⟨by show upN _ _ _ j < 2; unfold upN; split; exact hv; exact (c6 j).1, (c6 j).2.1, (c6 j).2.2.1, (c6 j).2.2.2⟩, c7⟩ hE rfl rfl rfl rfl rfl rfl ⟨rfl, rfl, rfl, rfl, rfl⟩ rfl)
theorem Kp_en {k : Mm → Rs Mm} {i v : Nat} (C : Cy N s0 s r) (hv : v < 2) (A : ∀ s', Cy N s0 s' (r) → (∀ M, Ex M s s') → m_at s' = m_at s → m_md s' = m_md s → m_dp s' = m_dp s → m_wr s' = m_wr s → m_rw s' = m_rw s → m_td s' = m_td s → Nst s s' → lo s' (m_at s') = lo s (m_at s) → Ok P E (k s')) : Ok P E (st1 (w_en s (upN (m_en s) i v)) k) := by
  obtain ⟨c1, c2, c3, c4, c5, c6, c7⟩ := C
  have hE : ∀ M, Ex M s (w_en s (upN (m_en s) i v)) := fun M => Ex.same c2 rfl rfl rfl rfl rfl rfl
  exact Ok_st (A _ ⟨c1.trans (hE N), (hE N).1, c3, c4, c5, fun j => ⟨(c6 j).1, (c6 j).2.1, by show upN _ _ _ j < 2; unfold upN; split; exact hv; exact (c6 j).2.2.1, (c6 j).2.2.2⟩, c7⟩ hE rfl rfl rfl rfl rfl rfl ⟨rfl, rfl, rfl, rfl, rfl⟩ rfl)
theorem Kp_pe {k : Mm → Rs Mm} {i v : Nat} (C : Cy N s0 s r) (hv : v ≤ m_at s) (A : ∀ s', Cy N s0 s' (r) → (∀ M, Ex M s s') → m_at s' = m_at s → m_md s' = m_md s → m_dp s' = m_dp s → m_wr s' = m_wr s → m_rw s' = m_rw s → m_td s' = m_td s → m_pe s' = upN (m_pe s) i v → lo s' (m_at s') = lo s (m_at s) → Ok P E (k s')) : Ok P E (st1 (w_pe s (upN (m_pe s) i v)) k) := by
  obtain ⟨c1, c2, c3, c4, c5, c6, c7⟩ := C
  have hE : ∀ M, Ex M s (w_pe s (upN (m_pe s) i v)) := fun M => Ex.same c2 rfl rfl rfl rfl rfl rfl
  exact Ok_st (A _ ⟨c1.trans (hE N), (hE N).1, c3, c4, c5, fun j => ⟨(c6 j).1, (c6 j).2.1, (c6 j).2.2.1, fun q => by show upN _ _ _ j ≤ m_at s; unfold upN; split; exact hv; exact (c6 j).2.2.2 q⟩, c7⟩ hE rfl rfl rfl rfl rfl rfl rfl rfl)
theorem Kp_rw {k : Mm → Rs Mm} {v : Nat} (C : Cy N s0 s r) (hv : ∀ k, k < v → m_pe s k ≤ m_at s) (A : ∀ s', Cy N s0 s' (r) → (∀ M, Ex M s s') → m_at s' = m_at s → m_md s' = m_md s → m_dp s' = m_dp s → m_wr s' = m_wr s → m_rw s' = v → m_td s' = m_td s → Nst s s' → lo s' (m_at s') = lo s (m_at s) → Ok P E (k s')) : Ok P E (st1 (w_rw s v) k) := by
  obtain ⟨c1, c2, c3, c4, c5, c6, c7⟩ := C
  have hE : ∀ M, Ex M s (w_rw s v) := fun M => Ex.same c2 rfl rfl rfl rfl rfl rfl
  exact Ok_st (A _ ⟨c1.trans (hE N), (hE N).1, c3, c4, c5, fun j => ⟨(c6 j).1, (c6 j).2.1, (c6 j).2.2.1, hv j⟩, c7⟩ hE rfl rfl rfl rfl rfl rfl ⟨rfl, rfl, rfl, rfl, rfl⟩ rfl)
theorem Kp_error (C : Cy N s0 s r) (hw : m_wr s < 2147483648) (A : ∀ s', Cy N s0 s' (r) → (∀ M, Ex M s s') → m_at s' = m_at s → m_md s' = m_md s → m_dp s' = m_dp s → (m_wr s' ≠ 0 ∧ m_wr s' ≤ m_wr s + m_at s + 1) → m_rw s' = m_rw s → m_td s' = m_td s → Nst s s' → lo s' (m_at s') = lo s (m_at s) → Ok P E (k 0 s')) : Ok P E (bn (b_X6_error s) k) := by
  have htk := trivial
  obtain ⟨c1, c2, c3, c4, c5, c6, c7⟩ := C
  refine Ok_bn (Ok_error hw) (fun v s' h => ?_)
  obtain ⟨rfl, ⟨h1, h2, h3, h4, h5, h6, h7, h8, h9, h10, h11, h12, h13, h14, h15, h16, h17, h18, h19⟩, g1, g2, g3, g4⟩ := h
  have hE : ∀ M, Ex M s s' := fun M => Ex.same c2 h3 h8 h9 h10 h11 h12
  refine A s' ⟨c1.trans (hE N), (hE N).1, ?_, by rw [h2, c4], by rw [h7, c5], Pb_eq c6 (by omega) h17 h16 h19 h18 h6, Wb_eq c7 h8 h4 (by omega)⟩ hE g1 h3 g2 ⟨g3, g4⟩ h6 h5 ⟨h8, h10, h11, h9, h18⟩ (by rw [g1]; exact lo_eq h2 h7)
  show Arr (m_dz s') (m_no s') (m_tr s') (m_td s') r
  rw [h13, h14, h15, h5]; exact c3
theorem Kp_more (C : Cy N s0 s r) (hw : m_wr s < 2147483648) (hd : m_dp s < 1000000) (A : ∀ s', Cy N s0 s' (r) → (∀ M, Ex M s s') → m_at s' = m_at s → m_md s' = m_md s → m_dp s' = m_dp s + 1 → ((m_wr s' = m_wr s ∧ m_dp s' ≤ 30) ∨ (m_wr s' ≠ 0 ∧ m_wr s' ≤ m_wr s + m_at s + 1)) → m_rw s' = m_rw s → m_td s' = m_td s → Nst s s' → lo s' (m_at s') = lo s (m_at s) → Ok P E (k 0 s')) : Ok P E (bn (b_X6_more s) k) := by
  have htk := trivial
  obtain ⟨c1, c2, c3, c4, c5, c6, c7⟩ := C
  refine Ok_bn (Ok_more hw hd) (fun v s' h => ?_)
  obtain ⟨rfl, ⟨h1, h2, h3, h4, h5, h6, h7, h8, h9, h10, h11, h12, h13, h14, h15, h16, h17, h18, h19⟩, g1, g2, g3⟩ := h
  have hE : ∀ M, Ex M s s' := fun M => Ex.same c2 h3 h8 h9 h10 h11 h12
  refine A s' ⟨c1.trans (hE N), (hE N).1, ?_, by rw [h2, c4], by rw [h7, c5], Pb_eq c6 (by omega) h17 h16 h19 h18 h6, Wb_eq c7 h8 h4 (by omega)⟩ hE g1 h3 g2 g3 h6 h5 ⟨h8, h10, h11, h9, h18⟩ (by rw [g1]; exact lo_eq h2 h7)
  show Arr (m_dz s') (m_no s') (m_tr s') (m_td s') r
  rw [h13, h14, h15, h5]; exact c3
theorem Kp_pass {x : Nat} (C : Cy N s0 s r) (ht : Tk s0) (ha : m_at s < 1000000) (hx : x < 2147483648) (hw : m_wr s < 2147483648) (A : ∀ s', Cy N s0 s' (r) → (∀ M, Ex M s s') → m_at s' = m_at s + 1 → m_md s' = m_md s → m_dp s' = m_dp s → ((m_wr s' = m_wr s ∧ lo s (m_at s) = x) ∨ (m_wr s' ≠ 0 ∧ m_wr s' ≤ m_wr s + m_at s + 1)) → m_rw s' = m_rw s → m_td s' = m_td s → Nst s s' → lo s' (m_at s') = lo s (m_at s + 1) → Ok P E (k 0 s')) : Ok P E (bn (b_X6_pass x s) k) := by
  have htk := C.tk ht
  obtain ⟨c1, c2, c3, c4, c5, c6, c7⟩ := C
  refine Ok_bn (Ok_pass htk ha hx hw) (fun v s' h => ?_)
  obtain ⟨rfl, ⟨h1, h2, h3, h4, h5, h6, h7, h8, h9, h10, h11, h12, h13, h14, h15, h16, h17, h18, h19⟩, g1, g2, g3⟩ := h
  have hE : ∀ M, Ex M s s' := fun M => Ex.same c2 h3 h8 h9 h10 h11 h12
  refine A s' ⟨c1.trans (hE N), (hE N).1, ?_, by rw [h2, c4], by rw [h7, c5], Pb_eq c6 (by omega) h17 h16 h19 h18 h6, Wb_eq c7 h8 h4 (by omega)⟩ hE g1 h3 g2 g3 h6 h5 ⟨h8, h10, h11, h9, h18⟩ (by rw [g1]; exact lo_eq h2 h7)
  show Arr (m_dz s') (m_no s') (m_tr s') (m_td s') r
  rw [h13, h14, h15, h5]; exact c3
theorem Kp_unwrap {p : Nat} (C : Cy N s0 s r) (hp : p < m_md s) (hg : GdS s p) (h0 : m_fi s p ≠ 0) (hw : m_wh s p ≠ 50) (hN : N ≤ p) (hm : m_md s < 20000) (h5 : m_wh s (m_la s p - 1) = 50) (h50 : H50 s p) (A : ∀ s', Cy N s0 s' (r) → (∀ M, M ≤ p → Ex M s s') → m_at s' = m_at s → m_md s' = m_md s → m_dp s' = m_dp s → m_wr s' = m_wr s → m_rw s' = m_rw s → m_td s' = m_td s → (m_fi s' p ≠ 0) → lo s' (m_at s') = lo s (m_at s) → Ok P E (k 0 s')) : Ok P E (bn (b_X6_unwrap p s) k) := by
  obtain ⟨c1, c2, c3, c4, c5, c6, c7⟩ := C
  obtain ⟨l, e, a, b, c, d, g⟩ := Fo_ch c2 hp hg h0
  obtain ⟨k1, k2, k3, k4, k5⟩ := h50 (by omega) h5
  obtain ⟨o, ho⟩ : ∃ o, m_fi s (m_la s p - 1) = o + 1 := ⟨m_fi s (m_la s p - 1) - 1, by omega⟩
  rw [ho, Nat.add_sub_cancel] at k2 k3 k4 k5
  refine Ok_bn (Ok_unwrap c2 hp hg h0 hm ho k2 k3 k4) (fun v s' h => ?_)
  obtain ⟨rfl, hC⟩ := h
  have hE : ∀ M, M ≤ p → Ex M s s' := fun M hM => Ex_unwrap c2 hp hg h0 h5 hM hw k5 ho k2 k3 hC
  obtain ⟨f1, ⟨h1, h2, h3, h4, h5, h6, h7, h8, h9, h10, h11, h12, h13, h14, h15, h16⟩, f3, f4, f5, f6, f7, f8, -⟩ := hC
  refine A s' ⟨c1.trans (hE N hN), (hE N hN).1, ?_, by rw [h2, c4], by rw [h9, c5], Pb_eq c6 (by omega) h14 h13 h16 h15 h8, Wb_eq c7 f4 h3 (by omega)⟩ hE h5 f3 h6 h7 h8 h4 (((hE N hN).2.2.1 p hp).2.2.1 h0) (by rw [h5]; exact lo_eq h2 h9)
  show Arr (m_dz s') (m_no s') (m_tr s') (m_td s') r
  rw [h10, h11, h12, h4]; exact c3
theorem Kp_look (C : Cy N s0 s r) (ht : Tk s0) (ha : m_at s < 1000000) (A : Ok P E (k (lo s (m_at s)) s)) : Ok P E (bn (b_X6_look s) k) := Ok_look (C.tk ht) (by omega) A
theorem lo_2 {N1 : Nat} {s' : Mm} {r' : List It} {i j : Nat} (C : Cy N s0 s r) (C' : Cy N1 s0 s' r') (h : i = j) : lo s i = lo s' j := by rw [lo_eq C.2.2.2.1 C.2.2.2.2.1, lo_eq C'.2.2.2.1 C'.2.2.2.2.1, h]
theorem Kp_ahead (C : Cy N s0 s r) (ht : Tk s0) (ha : m_at s < 1000000) (A : Ok P E (k (lo s (m_at s + 1)) s)) : Ok P E (bn (b_X6_ahead s) k) := Ok_ahead (C.tk ht) (by omega) A
end KP
