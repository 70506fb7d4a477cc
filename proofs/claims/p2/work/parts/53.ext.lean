/-! What a step of the reference on the node N leaves as it was. -/
def Up (s : Mm) (q : Nat) : Prop := m_fi s q = 0 ∨ q + 1 < m_fi s q
/-- if the last child of n is a 50, it can be taken off -/
def H50 (s : Mm) (n : Nat) : Prop := m_la s n ≠ 0 → m_wh s (m_la s n - 1) = 50 → m_fi s (m_la s n - 1) ≠ 0 ∧ m_pa s (m_fi s (m_la s n - 1) - 1) = m_la s n ∧ n < m_fi s (m_la s n - 1) - 1 ∧ ∀ c, c < m_md s → m_pa s c = n + 1 → m_nx s c = m_la s n → c < m_fi s (m_la s n - 1) - 1
def Ex (N : Nat) (s s' : Mm) : Prop := FoS s' ∧ m_md s ≤ m_md s' ∧ (∀ q, q < m_md s → (m_wh s q ≠ 50 → m_wh s' q ≠ 50) ∧ (m_wh s q ≠ 50 → GdS s q → GdS s' q) ∧ (m_fi s q ≠ 0 → m_fi s' q ≠ 0) ∧ (Up s q → Up s' q) ∧ (m_wh s' q = 21 → m_wh s q = 21)) ∧ ∀ q, q < N → q < m_md s → GdS s q → m_wh s q ≠ 50 → m_la s' q = m_la s q ∧ (H50 s q → H50 s' q)
theorem Ex.trans {N : Nat} {s s1 s2 : Mm} (h1 : Ex N s s1) (h2 : Ex N s1 s2) : Ex N s s2 := by
  obtain ⟨-, a2, a3, a4⟩ := h1
  obtain ⟨b1, b2, b3, b4⟩ := h2
  refine ⟨b1, Nat.le_trans a2 b2, fun q hq => ?_, fun q hN hq hg hw => ?_⟩
  · obtain ⟨c1, c2, c3, c4, c5⟩ := a3 q hq
    obtain ⟨d1, d2, d3, d4, d5⟩ := b3 q (by omega)
    exact ⟨fun h => d1 (c1 h), fun h g => d2 (c1 h) (c2 h g), fun h => d3 (c3 h), fun h => d4 (c4 h), fun h => c5 (d5 h)⟩
  · obtain ⟨c1, c2, -⟩ := a3 q hq
    obtain ⟨e1, e2⟩ := a4 q hN hq hg hw
    obtain ⟨f1, f2⟩ := b4 q hN (by omega) (c2 hw hg) (c1 hw)
    exact ⟨by rw [f1, e1], fun h => f2 (e2 h)⟩
theorem Ex.same {N : Nat} {s s' : Mm} (F : FoS s) (h1 : m_md s' = m_md s) (h2 : m_wh s' = m_wh s) (h3 : m_pa s' = m_pa s) (h4 : m_fi s' = m_fi s) (h5 : m_la s' = m_la s) (h6 : m_nx s' = m_nx s) : Ex N s s' := by
  refine ⟨?_, by omega, fun q hq => ?_, fun q hN hq hg hw => ?_⟩
  · show Fo (m_md s') (m_pa s') (m_fi s') (m_la s') (m_nx s')
    rw [h1, h3, h4, h5, h6]; exact F
  · unfold GdS Up
    rw [h2, h3, h4]
    exact ⟨id, fun _ h => h, id, id, id⟩
  · unfold H50
    rw [h1, h2, h3, h4, h5, h6]
    exact ⟨rfl, id⟩
theorem Fo_la {s : Mm} (F : FoS s) {n : Nat} (hn : n < m_md s) (hg : GdS s n) (h : m_la s n ≠ 0) : m_la s n - 1 < m_md s ∧ m_pa s (m_la s n - 1) = n + 1 := by
  by_cases h0 : m_fi s n = 0
  · obtain ⟨-, hF⟩ := F n hn
    rcases hF hg with ⟨-, b⟩ | ⟨l, e, a, -⟩
    · exact absurd b h
    · omega
  · obtain ⟨l, e, a, b, c, d, g⟩ := Fo_ch F hn hg h0
    rw [b, Nat.add_sub_cancel]
    exact ⟨d, (g e (Or.inr rfl)).1⟩
theorem Ex_child {N p k : Nat} {s s' : Mm} (F : FoS s) (hp : p < m_md s) (hg : GdS s p) (hw : m_wh s p ≠ 50) (hN : N ≤ p) (h : Cr p k s s') : Ex N s s' := by
  obtain ⟨h1, h2, h3, h4, h5, h6, h7, h8⟩ := h
  have hfi : ∀ q, q < m_md s → q ≠ p → m_fi s' q = m_fi s q := fun q hq hqp => by
    rw [h6]
    split
    · rw [upN_ne hqp, upN_ne (by omega)]
    · rw [upN_ne (by omega)]
  refine ⟨h1, by omega, fun q hq => ?_, fun q hqN hq hgq hwq => ?_⟩
  · have e1 : m_wh s' q = m_wh s q := by rw [h4, upN_ne (by omega)]
    have hb := (F q hq).1
    by_cases e2 : q = p
    · subst e2
      by_cases f0 : m_fi s q = 0
      · have e3 : m_fi s' q = m_md s + 1 := by rw [h6, if_pos f0, upN_at]
        refine ⟨fun h => by rw [e1]; exact h, fun _ _ => Or.inr ?_, fun h => absurd f0 h, fun _ => Or.inr (by rw [e3]; omega), fun h => by rw [← e1]; exact h⟩
        rw [e3, Nat.add_sub_cancel, h5, upN_at]
      · have e3 : m_fi s' q = m_fi s q := by rw [h6, if_neg f0, upN_ne (by omega)]
        refine ⟨fun h => by rw [e1]; exact h, fun _ g => ?_, fun h => by rw [e3]; exact h, fun h => ?_, fun h => by rw [← e1]; exact h⟩
        · rcases g with g | g
          · exact absurd g f0
          · refine Or.inr ?_
            rw [e3, h5, upN_ne (by omega)]; exact g
        · unfold Up; rw [e3]; exact h
    · have e3 := hfi q hq e2
      refine ⟨fun h => by rw [e1]; exact h, fun _ g => ?_, fun h => by rw [e3]; exact h, fun h => ?_, fun h => by rw [← e1]; exact h⟩
      · rcases g with g | g
        · exact Or.inl (by rw [e3]; exact g)
        · by_cases f0 : m_fi s q = 0
          · exact Or.inl (by rw [e3]; exact f0)
          · refine Or.inr ?_
            rw [e3, h5, upN_ne (by omega)]; exact g
      · unfold Up; rw [e3]; exact h
  · have e1 : m_la s' q = m_la s q := by rw [h7, upN_ne (by omega), upN_ne (by omega)]
    refine ⟨e1, fun hh hl hw5 => ?_⟩
    rw [e1] at hl hw5 ⊢
    obtain ⟨g1, g2⟩ := Fo_la F hq hgq hl
    have e2 : m_wh s' (m_la s q - 1) = m_wh s (m_la s q - 1) := by rw [h4, upN_ne (by omega)]
    rw [e2] at hw5
    have hne : m_la s q - 1 ≠ p := fun h => hw (by rw [← h]; exact hw5)
    have e3 := hfi _ g1 hne
    have hb := (F _ g1).1
    obtain ⟨k1, k2, k3, k4⟩ := hh hl hw5
    rw [e3]
    refine ⟨k1, by rw [h5, upN_ne (by omega)]; exact k2, k3, fun c hc hpc hnc => ?_⟩
    rw [h5] at hpc
    by_cases ec : c = m_md s
    · rw [ec, upN_at] at hpc; omega
    · rw [upN_ne ec] at hpc
      rw [h8 c ec (by omega)] at hnc
      exact k4 c (by omega) hpc hnc
theorem Ex_wrap {N p k : Nat} {s s' : Mm} (F : FoS s) (hp : p < m_md s) (hg : GdS s p) (h0 : m_fi s p ≠ 0) (hw : m_wh s p ≠ 50) (hN : N ≤ p) (h : Wr p k s s') : Ex N s s' := by
  obtain ⟨h1, h2, h3, h4, h5, h6, h7, h8⟩ := h
  obtain ⟨l, e, a, b, c, d, g⟩ := Fo_ch F hp hg h0
  have ge := g e (Or.inr rfl)
  rw [b, Nat.add_sub_cancel] at h5
  have hfi : ∀ q, q < m_md s → q ≠ p → m_fi s' q = m_fi s q := fun q hq hqp => by
    rcases h6 with ⟨-, h6⟩ | ⟨-, h6⟩
    · rw [h6, upN_ne hqp, upN_ne (by omega)]
    · rw [h6, upN_ne (by omega)]
  have hfp : m_fi s' p = m_md s + 1 ∨ (m_fi s p ≠ m_la s p ∧ m_fi s' p = m_fi s p) := by
    rcases h6 with ⟨-, h6⟩ | ⟨h9, h6⟩
    · exact Or.inl (by rw [h6, upN_at])
    · exact Or.inr ⟨h9, by rw [h6, upN_ne (by omega)]⟩
  refine ⟨h1, by omega, fun q hq => ?_, fun q hqN hq hgq hwq => ?_⟩
  · have e1 : m_wh s' q = m_wh s q := by rw [h4, upN_ne (by omega)]
    have hb := (F q hq).1
    by_cases e2 : q = p
    · subst e2
      rcases hfp with e3 | ⟨e9, e3⟩
      · refine ⟨fun h => by rw [e1]; exact h, fun _ _ => Or.inr ?_, fun _ => by rw [e3]; omega, fun _ => Or.inr (by rw [e3]; omega), fun h => by rw [← e1]; exact h⟩
        rw [e3, Nat.add_sub_cancel, h5, upN_ne (by omega), upN_at]
      · refine ⟨fun h => by rw [e1]; exact h, fun _ _ => Or.inr ?_, fun h => by rw [e3]; exact h, fun h => ?_, fun h => by rw [← e1]; exact h⟩
        · rw [e3, h5, upN_ne (by omega), upN_ne (by omega)]
          rcases hg with g0 | g0
          · exact absurd g0 h0
          · exact g0
        · unfold Up; rw [e3]; exact h
    · have e3 := hfi q hq e2
      refine ⟨fun h => by rw [e1]; exact h, fun _ g9 => ?_, fun h => by rw [e3]; exact h, fun h => ?_, fun h => by rw [← e1]; exact h⟩
      · rcases g9 with g9 | g9
        · exact Or.inl (by rw [e3]; exact g9)
        · by_cases f0 : m_fi s q = 0
          · exact Or.inl (by rw [e3]; exact f0)
          · refine Or.inr ?_
            rw [e3, h5, upN_ne (fun h => by rw [h, ge.1] at g9; omega), upN_ne (by omega)]; exact g9
      · unfold Up; rw [e3]; exact h
  · have e1 : m_la s' q = m_la s q := by rw [h7, upN_ne (by omega), upN_ne (by omega)]
    refine ⟨e1, fun hh hl hw5 => ?_⟩
    rw [e1] at hl hw5 ⊢
    obtain ⟨g1, g2⟩ := Fo_la F hq hgq hl
    have e2 : m_wh s' (m_la s q - 1) = m_wh s (m_la s q - 1) := by rw [h4, upN_ne (by omega)]
    rw [e2] at hw5
    have hne : m_la s q - 1 ≠ p := fun h => hw (by rw [← h]; exact hw5)
    have e3 := hfi _ g1 hne
    have hb := (F _ g1).1
    obtain ⟨k1, k2, k3, k4⟩ := hh hl hw5
    rw [e3]
    refine ⟨k1, ?_, k3, fun c hc hpc hnc => ?_⟩
    · rw [h5, upN_ne (fun h => by rw [h, ge.1] at k2; omega), upN_ne (by omega)]; exact k2
    · rw [h5] at hpc
      by_cases ee : c = e
      · rw [ee, upN_at] at hpc; omega
      · rw [upN_ne ee] at hpc
        by_cases ec : c = m_md s
        · rw [ec, upN_at] at hpc; omega
        · rw [upN_ne ec] at hpc
          rw [h8 c ec (by omega)] at hnc
          exact k4 c (by omega) hpc hnc
theorem Ex_unwrap {N p o : Nat} {s s' : Mm} (F : FoS s) (hp : p < m_md s) (hg : GdS s p) (h0 : m_fi s p ≠ 0) (hw5 : m_wh s (m_la s p - 1) = 50) (hN : N ≤ p) (hw : m_wh s p ≠ 50) (ho : m_fi s (m_la s p - 1) = o + 1) (hgw : m_pa s o = m_la s p) (hpo : p < o) (h : Uw p o s s') : Ex N s s' := by
  obtain ⟨h1, h2, h3, h4, h5, h6, h7, h8⟩ := h
  obtain ⟨l, e, a, b, c, d, g⟩ := Fo_ch F hp hg h0
  have ge := g e (Or.inr rfl)
  rw [b, Nat.add_sub_cancel] at hw5 ho
  rw [b] at hgw
  have hom : o < m_md s := by have := (F e d).1; omega
  have hfi : ∀ q, q ≠ p → m_fi s' q = m_fi s q := fun q hqp => by
    rcases h6 with ⟨-, h6⟩ | ⟨-, h6⟩
    · rw [h6, upN_ne hqp]
    · rw [h6]
  have hfp : m_fi s' p = o + 1 ∨ (m_fi s p ≠ m_la s p ∧ m_fi s' p = m_fi s p) := by
    rcases h6 with ⟨-, h6⟩ | ⟨h9, h6⟩
    · exact Or.inl (by rw [h6, upN_at])
    · exact Or.inr ⟨h9, by rw [h6]⟩
  refine ⟨h1, by omega, fun q hq => ?_, fun q hqN hq hgq hwq => ?_⟩
  · have e1 : m_wh s' q = m_wh s q := by rw [h4]
    by_cases e2 : q = p
    · subst e2
      rcases hfp with e3 | ⟨e9, e3⟩
      · refine ⟨fun h => by rw [e1]; exact h, fun _ _ => Or.inr ?_, fun _ => by rw [e3]; omega, fun _ => Or.inr (by rw [e3]; omega), fun h => by rw [← e1]; exact h⟩
        rw [e3, Nat.add_sub_cancel, h5, upN_at]
      · refine ⟨fun h => by rw [e1]; exact h, fun _ _ => Or.inr ?_, fun h => by rw [e3]; exact h, fun h => ?_, fun h => by rw [← e1]; exact h⟩
        · rcases hg with g0 | g0
          · exact absurd g0 h0
          · rw [e3, h5, upN_ne (fun h => by rw [h, hgw] at g0; exact ge.2 (by omega))]; exact g0
        · unfold Up; rw [e3]; exact h
    · have e3 := hfi q e2
      refine ⟨fun h => by rw [e1]; exact h, fun h5q g9 => ?_, fun h => by rw [e3]; exact h, fun h => ?_, fun h => by rw [← e1]; exact h⟩
      · rcases g9 with g9 | g9
        · exact Or.inl (by rw [e3]; exact g9)
        · refine Or.inr ?_
          rw [e3, h5, upN_ne (fun h => by
            rw [h, hgw] at g9
            exact h5q (by rw [show q = e by omega]; exact hw5))]
          exact g9
      · unfold Up; rw [e3]; exact h
  · have e1 : m_la s' q = m_la s q := by rw [h7, upN_ne (by omega)]
    refine ⟨e1, fun hh hl hw6 => ?_⟩
    rw [e1] at hl hw6 ⊢
    obtain ⟨g1, g2⟩ := Fo_la F hq hgq hl
    rw [h4] at hw6
    have hne : m_la s q - 1 ≠ p := fun h => hw (by rw [← h]; exact hw6)
    have e3 := hfi _ hne
    obtain ⟨k1, k2, k3, k4⟩ := hh hl hw6
    rw [e3]
    have hqe : m_la s q ≠ e + 1 := fun h => by
      rw [h, Nat.add_sub_cancel] at g2
      rw [ge.1] at g2; omega
    refine ⟨k1, ?_, k3, fun c hc hpc hnc => ?_⟩
    · rw [h5, upN_ne (fun h => by rw [h, hgw] at k2; omega)]; exact k2
    · rw [h5] at hpc
      by_cases ee : c = o
      · rw [ee, upN_at] at hpc; omega
      · rw [upN_ne ee] at hpc
        rw [h8 c ee (by omega)] at hnc
        exact k4 c (by omega) hpc hnc
