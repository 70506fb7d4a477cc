/-! Rules along a step of the reference on the node N. -/
/-- what is carried from state to state: the tokens, the nodes that stood before, the stack -/
def Cy (N : Nat) (s0 s : Mm) (r : List It) : Prop := Ex N s0 s ∧ FoS s ∧ Ar s r ∧ m_ct s = m_ct s0 ∧ m_kd s = m_kd s0
theorem Cy.tk {N : Nat} {s0 s : Mm} {r : List It} (h : Cy N s0 s r) (t : Tk s0) : Tk s := by
  obtain ⟨-, -, -, h1, h2⟩ := h
  unfold Tk
  rw [h1, h2]; exact t
theorem lo_eq {s s' : Mm} {i : Nat} (h1 : m_ct s' = m_ct s) (h2 : m_kd s' = m_kd s) : lo s' i = lo s i := by unfold lo; rw [h1, h2]
section KP
variable {N : Nat} {s0 s : Mm} {r : List It} {P : Nat → Mm → Prop} {E : Mm → Prop} {k : Nat → Mm → Rs Mm}
theorem Ok_bnc {σ : Type} {P : Nat → σ → Prop} {E : σ → Prop} {r : Rs σ} {k : Nat → σ → Rs σ} (h : Ok (fun v s' => Ok P E (k v s')) E r) : Ok P E (bn r k) := Ok_bn h (fun _ _ q => q)
theorem Kp_push {d n t : Nat} (C : Cy N s0 s r) (ht : m_td s < 4096) (A : ∀ s', Cy N s0 s' ((d, n, t) :: r) → Ex N s s' → m_at s' = m_at s → m_md s' = m_md s → m_dp s' = m_dp s → m_wr s' = m_wr s → m_rw s' = m_rw s → m_td s' = m_td s + 1 → m_wh s' = m_wh s → m_fi s' = m_fi s → m_la s' = m_la s → lo s' (m_at s') = lo s (m_at s) → Ok P E (k 0 s')) : Ok P E (bn (b_X6_push d n t s) k) := by
  obtain ⟨c1, c2, c3, c4, c5⟩ := C
  refine Ok_bn (Ok_push c3 ht) (fun v s' h => ?_)
  obtain ⟨rfl, ⟨h1, h2, h3, h4, h5, h6, h7, h8, h9, h10, h11, h12, h13, h14, -⟩, htd, hA⟩ := h
  have hE : Ex N s s' := Ex.same c2 h3 h10 h11 h12 h13 h14
  exact A s' ⟨c1.trans hE, hE.1, hA, by rw [h2, c4], by rw [h9, c5]⟩ hE h5 h3 h6 h7 h8 htd h10 h12 h13 (by rw [h5]; exact lo_eq h2 h9)
theorem Kp_child {p w t : Nat} (C : Cy N s0 s r) (hp : p < m_md s) (hg : GdS s p) (hw : m_wh s p ≠ 50) (hN : N ≤ p) (hm : m_md s < 20000) (A : ∀ s', Cy N s0 s' r → Ex N s s' → m_at s' = m_at s → m_md s' = m_md s + 1 → m_dp s' = m_dp s → m_wr s' = m_wr s → m_rw s' = m_rw s → m_td s' = m_td s → m_wh s' (m_md s) = w → m_fi s' (m_md s) = 0 → m_fi s' p ≠ 0 → m_la s' p = m_md s + 1 → lo s' (m_at s') = lo s (m_at s) → Ok P E (k (m_md s) s')) : Ok P E (bn (b_X6_child p w t s) k) := by
  obtain ⟨c1, c2, c3, c4, c5⟩ := C
  refine Ok_bn (Ok_child c2 hp hg hm) (fun v s' h => ?_)
  obtain ⟨rfl, hC⟩ := h
  have hE : Ex N s s' := Ex_child c2 hp hg hw hN hC
  obtain ⟨f1, ⟨h1, h2, h3, h4, h5, h6, h7, h8, h9, h10, h11, h12, h13, h14, h15, h16⟩, f3, f4, f5, f6, f7, f8⟩ := hC
  refine A s' ⟨c1.trans hE, hE.1, ?_, by rw [h2, c4], by rw [h9, c5]⟩ hE h5 f3 h6 h7 h8 h4 (by rw [f4, upN_at]) ?_ ?_ (by rw [f7, upN_at]) (by rw [h5]; exact lo_eq h2 h9)
  · show Arr (m_dz s') (m_no s') (m_tr s') (m_td s') r
    rw [h10, h11, h12, h4]; exact c3
  · rw [f6]
    split
    · rw [upN_ne (by omega), upN_at]
    · rw [upN_at]
  · rw [f6]
    split
    · rw [upN_at]; omega
    · rename_i h0; rw [upN_ne (by omega)]; exact h0
theorem Kp_wrap {p w t : Nat} (C : Cy N s0 s r) (hp : p < m_md s) (hg : GdS s p) (h0 : m_fi s p ≠ 0) (hw : m_wh s p ≠ 50) (hN : N ≤ p) (hm : m_md s < 20000) (A : ∀ s', Cy N s0 s' r → Ex N s s' → m_at s' = m_at s → m_md s' = m_md s + 1 → m_dp s' = m_dp s → m_wr s' = m_wr s → m_rw s' = m_rw s → m_td s' = m_td s → m_wh s' (m_md s) = w → m_fi s' (m_md s) ≠ 0 → GdS s' (m_md s) → m_fi s' p ≠ 0 → m_la s' p = m_md s + 1 → lo s' (m_at s') = lo s (m_at s) → Ok P E (k (m_md s) s')) : Ok P E (bn (b_X6_wrap p w t s) k) := by
  obtain ⟨c1, c2, c3, c4, c5⟩ := C
  refine Ok_bn (Ok_wrap c2 hp hg h0 hm) (fun v s' h => ?_)
  obtain ⟨rfl, hC⟩ := h
  have hE : Ex N s s' := Ex_wrap c2 hp hg h0 hw hN hC
  obtain ⟨l, e, a, b, c, d, g⟩ := Fo_ch c2 hp hg h0
  obtain ⟨f1, ⟨h1, h2, h3, h4, h5, h6, h7, h8, h9, h10, h11, h12, h13, h14, h15, h16⟩, f3, f4, f5, f6, f7, f8⟩ := hC
  have hfw : m_fi s' (m_md s) = m_la s p := by
    rcases f6 with ⟨-, f6⟩ | ⟨-, f6⟩
    · rw [f6, upN_ne (by omega), upN_at]
    · rw [f6, upN_at]
  refine A s' ⟨c1.trans hE, hE.1, ?_, by rw [h2, c4], by rw [h9, c5]⟩ hE h5 f3 h6 h7 h8 h4 (by rw [f4, upN_at]) (by rw [hfw]; omega) (Or.inr ?_) ((hE.2.2.1 p hp).2.2.1 h0) (by rw [f7, upN_at]) (by rw [h5]; exact lo_eq h2 h9)
  · show Arr (m_dz s') (m_no s') (m_tr s') (m_td s') r
    rw [h10, h11, h12, h4]; exact c3
  · rw [hfw, f5, b, Nat.add_sub_cancel, upN_at]
/-- a field that is no node's: the place -/
theorem Kp_at {k : Mm → Rs Mm} (C : Cy N s0 s r) (A : ∀ s', Cy N s0 s' r → Ex N s s' → m_at s' = m_at s + 1 → m_md s' = m_md s → m_dp s' = m_dp s → m_wr s' = m_wr s → m_rw s' = m_rw s → m_td s' = m_td s → m_wh s' = m_wh s → m_fi s' = m_fi s → m_la s' = m_la s → lo s' (m_at s') = lo s (m_at s + 1) → Ok P E (k s')) : Ok P E (st1 (w_at s (m_at s + 1)) k) := by
  obtain ⟨c1, c2, c3, c4, c5⟩ := C
  have hE : Ex N s (w_at s (m_at s + 1)) := Ex.same c2 rfl rfl rfl rfl rfl rfl
  exact Ok_st (A _ ⟨c1.trans hE, hE.1, c3, c4, c5⟩ hE rfl rfl rfl rfl rfl rfl rfl rfl rfl rfl)
theorem Kp_dp {k : Mm → Rs Mm} (C : Cy N s0 s r) (A : ∀ s', Cy N s0 s' r → Ex N s s' → m_at s' = m_at s → m_md s' = m_md s → m_dp s' = m_dp s - 1 → m_wr s' = m_wr s → m_rw s' = m_rw s → m_td s' = m_td s → m_wh s' = m_wh s → m_fi s' = m_fi s → m_la s' = m_la s → lo s' (m_at s') = lo s (m_at s) → Ok P E (k s')) : Ok P E (st1 (w_dp s (m_dp s - 1)) k) := by
  obtain ⟨c1, c2, c3, c4, c5⟩ := C
  have hE : Ex N s (w_dp s (m_dp s - 1)) := Ex.same c2 rfl rfl rfl rfl rfl rfl
  exact Ok_st (A _ ⟨c1.trans hE, hE.1, c3, c4, c5⟩ hE rfl rfl rfl rfl rfl rfl rfl rfl rfl rfl)
theorem Kp_error (C : Cy N s0 s r) (hw : m_wr s < 2147483648) (A : ∀ s', Cy N s0 s' r → Ex N s s' → m_at s' = m_at s → m_md s' = m_md s → m_dp s' = m_dp s → m_wr s' ≠ 0 → m_wr s' ≤ m_wr s + m_at s + 1 → m_rw s' = m_rw s → m_td s' = m_td s → m_wh s' = m_wh s → m_fi s' = m_fi s → m_la s' = m_la s → lo s' (m_at s') = lo s (m_at s) → Ok P E (k 0 s')) : Ok P E (bn (b_X6_error s) k) := by
  obtain ⟨c1, c2, c3, c4, c5⟩ := C
  refine Ok_bn (Ok_error hw) (fun v s' h => ?_)
  obtain ⟨rfl, ⟨h1, h2, h3, h4, h5, h6, h7, h8, h9, h10, h11, h12, h13, h14, h15, -⟩, g1, g2, g3, g4⟩ := h
  have hE : Ex N s s' := Ex.same c2 h3 h8 h9 h10 h11 h12
  refine A s' ⟨c1.trans hE, hE.1, ?_, by rw [h2, c4], by rw [h7, c5]⟩ hE g1 h3 g2 g3 g4 h6 h5 h8 h10 h11 (by rw [g1]; exact lo_eq h2 h7)
  show Arr (m_dz s') (m_no s') (m_tr s') (m_td s') r
  rw [h13, h14, h15, h5]; exact c3
theorem Kp_more (C : Cy N s0 s r) (hw : m_wr s < 2147483648) (hd : m_dp s < 1000000) (A : ∀ s', Cy N s0 s' r → Ex N s s' → m_at s' = m_at s → m_md s' = m_md s → m_dp s' = m_dp s + 1 → ((m_wr s' = m_wr s ∧ m_dp s' ≤ 30) ∨ (m_wr s' ≠ 0 ∧ m_wr s' ≤ m_wr s + m_at s + 1)) → m_rw s' = m_rw s → m_td s' = m_td s → m_wh s' = m_wh s → m_fi s' = m_fi s → m_la s' = m_la s → lo s' (m_at s') = lo s (m_at s) → Ok P E (k 0 s')) : Ok P E (bn (b_X6_more s) k) := by
  obtain ⟨c1, c2, c3, c4, c5⟩ := C
  refine Ok_bn (Ok_more hw hd) (fun v s' h => ?_)
  obtain ⟨rfl, ⟨h1, h2, h3, h4, h5, h6, h7, h8, h9, h10, h11, h12, h13, h14, h15, -⟩, g1, g2, g3⟩ := h
  have hE : Ex N s s' := Ex.same c2 h3 h8 h9 h10 h11 h12
  refine A s' ⟨c1.trans hE, hE.1, ?_, by rw [h2, c4], by rw [h7, c5]⟩ hE g1 h3 g2 g3 h6 h5 h8 h10 h11 (by rw [g1]; exact lo_eq h2 h7)
  show Arr (m_dz s') (m_no s') (m_tr s') (m_td s') r
  rw [h13, h14, h15, h5]; exact c3
theorem Kp_pass {x : Nat} (C : Cy N s0 s r) (ht : Tk s0) (ha : m_at s < 1000000) (hx : x < 2147483648) (hw : m_wr s < 2147483648) (A : ∀ s', Cy N s0 s' r → Ex N s s' → m_at s' = m_at s + 1 → m_md s' = m_md s → m_dp s' = m_dp s → ((m_wr s' = m_wr s ∧ lo s (m_at s) = x) ∨ (m_wr s' ≠ 0 ∧ m_wr s' ≤ m_wr s + m_at s + 1)) → m_rw s' = m_rw s → m_td s' = m_td s → m_wh s' = m_wh s → m_fi s' = m_fi s → m_la s' = m_la s → lo s' (m_at s') = lo s (m_at s + 1) → Ok P E (k 0 s')) : Ok P E (bn (b_X6_pass x s) k) := by
  have htk := C.tk ht
  obtain ⟨c1, c2, c3, c4, c5⟩ := C
  refine Ok_bn (Ok_pass htk ha hx hw) (fun v s' h => ?_)
  obtain ⟨rfl, ⟨h1, h2, h3, h4, h5, h6, h7, h8, h9, h10, h11, h12, h13, h14, h15, -⟩, g1, g2, g3⟩ := h
  have hE : Ex N s s' := Ex.same c2 h3 h8 h9 h10 h11 h12
  refine A s' ⟨c1.trans hE, hE.1, ?_, by rw [h2, c4], by rw [h7, c5]⟩ hE g1 h3 g2 g3 h6 h5 h8 h10 h11 (by rw [g1]; exact lo_eq h2 h7)
  show Arr (m_dz s') (m_no s') (m_tr s') (m_td s') r
  rw [h13, h14, h15, h5]; exact c3
theorem Kp_look (C : Cy N s0 s r) (ht : Tk s0) (ha : m_at s < 1000000) (A : Ok P E (k (lo s (m_at s)) s)) : Ok P E (bn (b_X6_look s) k) := Ok_look (C.tk ht) (by omega) A
theorem Kp_ahead (C : Cy N s0 s r) (ht : Tk s0) (ha : m_at s < 1000000) (A : Ok P E (k (lo s (m_at s + 1)) s)) : Ok P E (bn (b_X6_ahead s) k) := Ok_ahead (C.tk ht) (by omega) A
end KP
