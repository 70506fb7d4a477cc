/-! What a step of the reference on the node N leaves as it was. -/
def Up (s : Mm) (q : Nat) : Prop := m_fi s q = 0 ∨ q + 1 < m_fi s q
/-- if the last child of n is a 50, it can be taken off -/
def H50 (s : Mm) (n : Nat) : Prop := m_la s n ≠ 0 → m_wh s (m_la s n - 1) = 50 → m_fi s (m_la s n - 1) ≠ 0 ∧ m_pa s (m_fi s (m_la s n - 1) - 1) = m_la s n ∧ n < m_fi s (m_la s n - 1) - 1 ∧ (∀ c, c < m_md s → m_pa s c = n + 1 → m_nx s c = m_la s n → c < m_fi s (m_la s n - 1) - 1) ∧ m_wh s (m_fi s (m_la s n - 1) - 1) ≠ 69
/-- if the last child of q is a 69, its first child can be moved -/
def U69 (s : Mm) (q : Nat) : Prop := m_la s q ≠ 0 → m_wh s (m_la s q - 1) = 69 → GdS s (m_la s q - 1) ∧ m_fi s (m_la s q - 1) ≠ 0 ∧ q + 1 < m_fi s (m_la s q - 1)
def Ex (N : Nat) (s s' : Mm) : Prop := FoS s' ∧ m_md s ≤ m_md s' ∧ (∀ q, q < m_md s → (m_wh s q ≠ 50 → m_wh s' q ≠ 50) ∧ (m_wh s q ≠ 50 → GdS s q → GdS s' q) ∧ (m_fi s q ≠ 0 → m_fi s' q ≠ 0) ∧ (Up s q → Up s' q) ∧ (m_wh s' q = 21 → m_wh s q = 21)) ∧ (∀ q, q < N → q < m_md s → GdS s q → m_wh s q ≠ 50 → m_la s' q = m_la s q ∧ (H50 s q → H50 s' q) ∧ m_fi s' q = m_fi s q) ∧ (∀ q, q ≤ N → q < m_md s → m_pa s q ≤ q → m_pa s' q = m_pa s q) ∧ (∀ q, q ≤ N → q < m_md s → GdS s q → m_wh s q ≠ 50 → Up s q → U69 s q → U69 s' q) ∧ (Tt s → Tt s')
/-- the same, but for the goodness of a 69 below -/
def Ex2 (N : Nat) (s s' : Mm) : Prop := FoS s' ∧ m_md s ≤ m_md s' ∧ (∀ q, q < m_md s → (m_wh s q ≠ 50 → m_wh s' q ≠ 50) ∧ (m_wh s q ≠ 50 → m_pa s q ≤ N + 1 → GdS s q → GdS s' q) ∧ (m_fi s q ≠ 0 → m_fi s' q ≠ 0) ∧ (Up s q → Up s' q) ∧ (m_wh s' q = 21 → m_wh s q = 21)) ∧ (∀ q, q < N → q < m_md s → GdS s q → m_wh s q ≠ 50 → m_la s' q = m_la s q ∧ (H50 s q → H50 s' q) ∧ m_fi s' q = m_fi s q) ∧ (∀ q, q ≤ N → q < m_md s → m_pa s q ≤ q → m_pa s' q = m_pa s q) ∧ (∀ q, q ≤ N → q < m_md s → GdS s q → m_wh s q ≠ 50 → Up s q → U69 s q → U69 s' q) ∧ (Tt s → Tt s')
theorem Ex.to2 {N : Nat} {s s' : Mm} (h : Ex N s s') : Ex2 N s s' := ⟨h.1, h.2.1, fun q hq => ⟨(h.2.2.1 q hq).1, fun a _ b => (h.2.2.1 q hq).2.1 a b, (h.2.2.1 q hq).2.2⟩, h.2.2.2⟩
theorem Ex.trans {N : Nat} {s s1 s2 : Mm} (h1 : Ex N s s1) (h2 : Ex N s1 s2) : Ex N s s2 := by
  obtain ⟨-, a2, a3, a4, a5, a6, a7⟩ := h1
  obtain ⟨b1, b2, b3, b4, b5, b6, b7⟩ := h2
  refine ⟨b1, Nat.le_trans a2 b2, fun q hq => ?_, fun q hN hq hg hw => ?_, fun q hN hq hp => ?_, fun q hN hq hg hw hu h6 => ?_, fun t => b7 (a7 t)⟩
  · obtain ⟨c1, c2, c3, c4, c5⟩ := a3 q hq
    obtain ⟨d1, d2, d3, d4, d5⟩ := b3 q (by omega)
    exact ⟨fun h => d1 (c1 h), fun h g => d2 (c1 h) (c2 h g), fun h => d3 (c3 h), fun h => d4 (c4 h), fun h => c5 (d5 h)⟩
  · obtain ⟨c1, c2, -⟩ := a3 q hq
    obtain ⟨e1, e2, e3⟩ := a4 q hN hq hg hw
    obtain ⟨f1, f2, f3⟩ := b4 q hN (by omega) (c2 hw hg) (c1 hw)
    exact ⟨by rw [f1, e1], fun h => f2 (e2 h), by rw [f3, e3]⟩
  · have e := a5 q hN hq hp
    rw [b5 q hN (by omega) (by omega), e]
  · obtain ⟨c1, c2, -, c4, -⟩ := a3 q hq
    exact b6 q hN (by omega) (c2 hw hg) (c1 hw) (c4 hu) (a6 q hN hq hg hw hu h6)
theorem Ex.same {N : Nat} {s s' : Mm} (F : FoS s) (h1 : m_md s' = m_md s) (h2 : m_wh s' = m_wh s) (h3 : m_pa s' = m_pa s) (h4 : m_fi s' = m_fi s) (h5 : m_la s' = m_la s) (h6 : m_nx s' = m_nx s) : Ex N s s' := by
  refine ⟨?_, by omega, fun q hq => ?_, fun q hN hq hg hw => ?_, fun q _ _ _ => by rw [h3], fun q _ _ _ _ _ => ?_, ?_⟩
  · show Fo (m_md s') (m_pa s') (m_fi s') (m_la s') (m_nx s')
    rw [h1, h3, h4, h5, h6]; exact F
  · unfold GdS Up
    rw [h2, h3, h4]
    exact ⟨id, fun _ h => h, id, id, id⟩
  · unfold H50
    rw [h1, h2, h3, h4, h5, h6]
    exact ⟨rfl, id, rfl⟩
  · unfold U69 GdS
    rw [h2, h3, h4, h5]
    exact id
  · unfold Tt
    rw [h1, h3, h4, h6]
    exact id
/-- what a node is called changes -/
theorem Ex_wh {N u v : Nat} {s s' : Mm} (F : FoS s) (h50 : v ≠ 50) (h21 : v ≠ 21) (h69 : v ≠ 69) (h1 : m_md s' = m_md s) (h2 : m_wh s' = upN (m_wh s) u v) (h3 : m_pa s' = m_pa s) (h4 : m_fi s' = m_fi s) (h5 : m_la s' = m_la s) (h6 : m_nx s' = m_nx s) : Ex N s s' := by
  have hwh : ∀ q x, m_wh s' q = x → x ≠ v → m_wh s q = x := fun q x h hx => by
    rw [h2] at h
    by_cases e : q = u
    · rw [e, upN_at] at h; exact absurd h.symm hx
    · rw [upN_ne e] at h; exact h
  refine ⟨?_, by omega, fun q hq => ?_, fun q hN hq hg hw => ?_, fun q _ _ _ => by rw [h3], fun q _ _ _ _ _ => ?_, ?_⟩
  · show Fo (m_md s') (m_pa s') (m_fi s') (m_la s') (m_nx s')
    rw [h1, h3, h4, h5, h6]; exact F
  · unfold GdS Up
    rw [h3, h4]
    exact ⟨fun h h9 => h (hwh q 50 h9 (Ne.symm h50)), fun _ h => h, id, id, fun h => hwh q 21 h (Ne.symm h21)⟩
  · unfold H50
    rw [h1, h3, h4, h5, h6]
    refine ⟨rfl, fun h hl hw5 => ?_, rfl⟩
    obtain ⟨k1, k2, k3, k4, k5⟩ := h hl (hwh _ 50 hw5 (Ne.symm h50))
    exact ⟨k1, k2, k3, k4, fun h9 => k5 (hwh _ 69 h9 (Ne.symm h69))⟩
  · unfold U69 GdS
    rw [h3, h4, h5]
    exact fun h hl hw => h hl (hwh _ 69 hw (Ne.symm h69))
  · unfold Tt
    rw [h1, h3, h4, h6]
    exact id
theorem Fo_la {s : Mm} (F : FoS s) {n : Nat} (hn : n < m_md s) (hg : GdS s n) (h : m_la s n ≠ 0) : m_la s n - 1 < m_md s ∧ m_pa s (m_la s n - 1) = n + 1 := by
  by_cases h0 : m_fi s n = 0
  · obtain ⟨-, hF⟩ := F n hn
    rcases hF hg with ⟨-, b⟩ | ⟨l, e, a, -⟩
    · exact absurd b h
    · omega
  · obtain ⟨l, e, a, b, c, d, g⟩ := Fo_ch F hn hg h0
    rw [b, Nat.add_sub_cancel]
    exact ⟨d, (g e (Or.inr rfl)).1⟩
theorem Ex_child {N p k : Nat} {s s' : Mm} (F : FoS s) (hp : p < m_md s) (hg : GdS s p) (hw : m_wh s p ≠ 50) (hk : k ≠ 69) (hN : N ≤ p) (h : Cr p k s s') : Ex N s s' := by
  obtain ⟨h1, h2, h3, h4, h5, h6, h7, h8, h10⟩ := h
  have hfi : ∀ q, q < m_md s → q ≠ p → m_fi s' q = m_fi s q := fun q hq hqp => by
    rw [h6]
    split
    · rw [upN_ne hqp, upN_ne (by omega)]
    · rw [upN_ne (by omega)]
  have key : ∀ q, q < m_md s → (m_wh s q ≠ 50 → m_wh s' q ≠ 50) ∧ (m_wh s q ≠ 50 → GdS s q → GdS s' q) ∧ (m_fi s q ≠ 0 → m_fi s' q ≠ 0) ∧ (Up s q → Up s' q) ∧ (m_wh s' q = 21 → m_wh s q = 21) := by
    intro q hq
    have e1 : m_wh s' q = m_wh s q := by rw [h4, upN_ne (by omega)]
    have hb := (F q hq).1
    by_cases e2 : q = p
    · subst e2
      by_cases f0 : m_fi s q = 0
      · have e3 : m_fi s' q = m_md s + 1 := by rw [h6, if_pos f0, upN_at]
        refine ⟨fun h => by rw [e1]; exact h, fun _ _ => Or.inr ?_, fun h => absurd f0 h, fun _ => Or.inr (by rw [e3]; omega), fun h => by rw [← e1]; exact h⟩
        rw [e3, Nat.add_sub_cancel, h5, upN_at]
      · have e3 : m_fi s' q = m_fi s q := by rw [h6, if_neg f0, upN_ne (by omega)]
        refine ⟨fun h => by rw [e1]; exact h, fun _ g => ?_, fun h => by rw [e3]; exact h, fun h => ?_, fun h => by rw [← e1]; exact h⟩
        · rcases g with g | g
          · exact absurd g f0
          · refine Or.inr ?_
            rw [e3, h5, upN_ne (by omega)]; exact g
        · unfold Up; rw [e3]; exact h
    · have e3 := hfi q hq e2
      refine ⟨fun h => by rw [e1]; exact h, fun _ g => ?_, fun h => by rw [e3]; exact h, fun h => ?_, fun h => by rw [← e1]; exact h⟩
      · rcases g with g | g
        · exact Or.inl (by rw [e3]; exact g)
        · by_cases f0 : m_fi s q = 0
          · exact Or.inl (by rw [e3]; exact f0)
          · refine Or.inr ?_
            rw [e3, h5, upN_ne (by omega)]; exact g
      · unfold Up; rw [e3]; exact h
  refine ⟨h1, by omega, key, fun q hqN hq hgq hwq => ?_, fun q hqN hq hpq => ?_, fun q hqN hq hgq hwq hu h6q => ?_, h10⟩
  · have e1 : m_la s' q = m_la s q := by rw [h7, upN_ne (by omega), upN_ne (by omega)]
    refine ⟨e1, fun hh hl hw5 => ?_, hfi q hq (by omega)⟩
    rw [e1] at hl hw5 ⊢
    obtain ⟨g1, g2⟩ := Fo_la F hq hgq hl
    have e2 : m_wh s' (m_la s q - 1) = m_wh s (m_la s q - 1) := by rw [h4, upN_ne (by omega)]
    rw [e2] at hw5
    have hne : m_la s q - 1 ≠ p := fun h => hw (by rw [← h]; exact hw5)
    have e3 := hfi _ g1 hne
    have hb := (F _ g1).1
    obtain ⟨k1, k2, k3, k4, k5⟩ := hh hl hw5
    rw [e3]
    refine ⟨k1, by rw [h5, upN_ne (by omega)]; exact k2, k3, fun c hc hpc hnc => ?_, by rw [h4, upN_ne (by omega)]; exact k5⟩
    rw [h5] at hpc
    by_cases ec : c = m_md s
    · rw [ec, upN_at] at hpc; omega
    · rw [upN_ne ec] at hpc
      rw [h8 c ec (by omega)] at hnc
      exact k4 c (by omega) hpc hnc
  · rw [h5, upN_ne (by omega)]
  · intro hl h69
    by_cases e2 : q = p
    · rw [e2, h7, upN_at, Nat.add_sub_cancel, h4, upN_at] at h69
      exact absurd h69 hk
    · have e1 : m_la s' q = m_la s q := by rw [h7, upN_ne e2, upN_ne (by omega)]
      rw [e1] at hl h69 ⊢
      obtain ⟨g1, -⟩ := Fo_la F hq hgq hl
      rw [h4, upN_ne (by omega)] at h69
      obtain ⟨k1, k2, k3⟩ := h6q hl h69
      obtain ⟨-, c2, c3, -⟩ := key _ g1
      refine ⟨c2 (by rw [h69]; decide) k1, c3 k2, ?_⟩
      by_cases e3 : m_la s q - 1 = p
      · rw [e3] at k2 k3 ⊢
        rw [h6, if_neg k2, upN_ne (by omega)]; exact k3
      · rw [hfi _ g1 e3]; exact k3
theorem Ex_wrap {N p k : Nat} {s s' : Mm} (F : FoS s) (hp : p < m_md s) (hg : GdS s p) (h0 : m_fi s p ≠ 0) (hw : m_wh s p ≠ 50) (hN : N ≤ p) (h : Wr p k s s') : Ex N s s' := by
  obtain ⟨h1, h2, h3, h4, h5, h6, h7, h8, h10, -⟩ := h
  obtain ⟨l, e, a, b, c, d, g⟩ := Fo_ch F hp hg h0
  have ge := g e (Or.inr rfl)
  rw [b, Nat.add_sub_cancel] at h5
  have hfi : ∀ q, q < m_md s → q ≠ p → m_fi s' q = m_fi s q := fun q hq hqp => by
    rcases h6 with ⟨-, h6⟩ | ⟨-, h6⟩
    · rw [h6, upN_ne hqp, upN_ne (by omega)]
    · rw [h6, upN_ne (by omega)]
  have hfp : m_fi s' p = m_md s + 1 ∨ (m_fi s p ≠ m_la s p ∧ m_fi s' p = m_fi s p) := by
    rcases h6 with ⟨-, h6⟩ | ⟨h9, h6⟩
    · exact Or.inl (by rw [h6, upN_at])
    · exact Or.inr ⟨h9, by rw [h6, upN_ne (by omega)]⟩
  have key : ∀ q, q < m_md s → (m_wh s q ≠ 50 → m_wh s' q ≠ 50) ∧ (m_wh s q ≠ 50 → GdS s q → GdS s' q) ∧ (m_fi s q ≠ 0 → m_fi s' q ≠ 0) ∧ (Up s q → Up s' q) ∧ (m_wh s' q = 21 → m_wh s q = 21) := by
    intro q hq
    have e1 : m_wh s' q = m_wh s q := by rw [h4, upN_ne (by omega)]
    have hb := (F q hq).1
    by_cases e2 : q = p
    · subst e2
      rcases hfp with e3 | ⟨e9, e3⟩
      · refine ⟨fun h => by rw [e1]; exact h, fun _ _ => Or.inr ?_, fun _ => by rw [e3]; omega, fun _ => Or.inr (by rw [e3]; omega), fun h => by rw [← e1]; exact h⟩
        rw [e3, Nat.add_sub_cancel, h5, upN_ne (by omega), upN_at]
      · refine ⟨fun h => by rw [e1]; exact h, fun _ _ => Or.inr ?_, fun h => by rw [e3]; exact h, fun h => ?_, fun h => by rw [← e1]; exact h⟩
        · rw [e3, h5, upN_ne (by omega), upN_ne (by omega)]
          rcases hg with g0 | g0
          · exact absurd g0 h0
          · exact g0
        · unfold Up; rw [e3]; exact h
    · have e3 := hfi q hq e2
      refine ⟨fun h => by rw [e1]; exact h, fun _ g9 => ?_, fun h => by rw [e3]; exact h, fun h => ?_, fun h => by rw [← e1]; exact h⟩
      · rcases g9 with g9 | g9
        · exact Or.inl (by rw [e3]; exact g9)
        · by_cases f0 : m_fi s q = 0
          · exact Or.inl (by rw [e3]; exact f0)
          · refine Or.inr ?_
            rw [e3, h5, upN_ne (fun h => by rw [h, ge.1] at g9; omega), upN_ne (by omega)]; exact g9
      · unfold Up; rw [e3]; exact h
  refine ⟨h1, by omega, key, fun q hqN hq hgq hwq => ?_, fun q hqN hq hpq => ?_, fun q hqN hq hgq hwq hu h6q => ?_, h10⟩
  · have e1 : m_la s' q = m_la s q := by rw [h7, upN_ne (by omega), upN_ne (by omega)]
    refine ⟨e1, fun hh hl hw5 => ?_, hfi q hq (by omega)⟩
    rw [e1] at hl hw5 ⊢
    obtain ⟨g1, g2⟩ := Fo_la F hq hgq hl
    have e2 : m_wh s' (m_la s q - 1) = m_wh s (m_la s q - 1) := by rw [h4, upN_ne (by omega)]
    rw [e2] at hw5
    have hne : m_la s q - 1 ≠ p := fun h => hw (by rw [← h]; exact hw5)
    have e3 := hfi _ g1 hne
    have hb := (F _ g1).1
    obtain ⟨k1, k2, k3, k4, k5⟩ := hh hl hw5
    rw [e3]
    refine ⟨k1, ?_, k3, fun c hc hpc hnc => ?_, by rw [h4, upN_ne (by omega)]; exact k5⟩
    · rw [h5, upN_ne (fun h => by rw [h, ge.1] at k2; omega), upN_ne (by omega)]; exact k2
    · rw [h5] at hpc
      by_cases ee : c = e
      · rw [ee, upN_at] at hpc; omega
      · rw [upN_ne ee] at hpc
        by_cases ec : c = m_md s
        · rw [ec, upN_at] at hpc; omega
        · rw [upN_ne ec] at hpc
          rw [h8 c ec (by omega)] at hnc
          exact k4 c (by omega) hpc hnc
  · rw [h5, upN_ne (fun h => by rw [h, ge.1] at hpq; omega), upN_ne (by omega)]
  · intro hl h69
    by_cases e2 : q = p
    · subst e2
      have hle := Sl_le l e c
      have hfe : m_fi s' (m_md s) = e + 1 := by
        rcases h6 with ⟨-, h6⟩ | ⟨-, h6⟩
        · rw [h6, upN_ne (by omega), upN_at, b]
        · rw [h6, upN_at, b]
      rw [h7, upN_at, Nat.add_sub_cancel]
      refine ⟨Or.inr ?_, by omega, ?_⟩
      · rw [hfe, Nat.add_sub_cancel, h5, upN_at]
      · rcases hu with hu | hu
        · exact absurd hu h0
        · omega
    · have e1 : m_la s' q = m_la s q := by rw [h7, upN_ne e2, upN_ne (by omega)]
      rw [e1] at hl h69 ⊢
      obtain ⟨g1, -⟩ := Fo_la F hq hgq hl
      rw [h4, upN_ne (by omega)] at h69
      obtain ⟨k1, k2, k3⟩ := h6q hl h69
      obtain ⟨-, c2, c3, -⟩ := key _ g1
      refine ⟨c2 (by rw [h69]; decide) k1, c3 k2, ?_⟩
      by_cases e3 : m_la s q - 1 = p
      · rw [e3] at k2 k3 ⊢
        rcases hfp with h9 | ⟨-, h9⟩
        · omega
        · omega
      · rw [hfi _ g1 e3]; exact k3
theorem Ex_unwrap {N p o : Nat} {s s' : Mm} (F : FoS s) (hp : p < m_md s) (hg : GdS s p) (h0 : m_fi s p ≠ 0) (hw5 : m_wh s (m_la s p - 1) = 50) (hN : N ≤ p) (hw : m_wh s p ≠ 50) (h69o : m_wh s o ≠ 69) (ho : m_fi s (m_la s p - 1) = o + 1) (hgw : m_pa s o = m_la s p) (hpo : p < o) (h : Uw p o s s') : Ex N s s' := by
  obtain ⟨h1, h2, h3, h4, h5, h6, h7, h8, h10⟩ := h
  obtain ⟨l, e, a, b, c, d, g⟩ := Fo_ch F hp hg h0
  have ge := g e (Or.inr rfl)
  rw [b, Nat.add_sub_cancel] at hw5 ho
  rw [b] at hgw
  have hom : o < m_md s := by have := (F e d).1; omega
  have hfi : ∀ q, q ≠ p → m_fi s' q = m_fi s q := fun q hqp => by
    rcases h6 with ⟨-, h6⟩ | ⟨-, h6⟩
    · rw [h6, upN_ne hqp]
    · rw [h6]
  have hfp : m_fi s' p = o + 1 ∨ (m_fi s p ≠ m_la s p ∧ m_fi s' p = m_fi s p) := by
    rcases h6 with ⟨-, h6⟩ | ⟨h9, h6⟩
    · exact Or.inl (by rw [h6, upN_at])
    · exact Or.inr ⟨h9, by rw [h6]⟩
  have key : ∀ q, q < m_md s → (m_wh s q ≠ 50 → m_wh s' q ≠ 50) ∧ (m_wh s q ≠ 50 → GdS s q → GdS s' q) ∧ (m_fi s q ≠ 0 → m_fi s' q ≠ 0) ∧ (Up s q → Up s' q) ∧ (m_wh s' q = 21 → m_wh s q = 21) := by
    intro q hq
    have e1 : m_wh s' q = m_wh s q := by rw [h4]
    by_cases e2 : q = p
    · subst e2
      rcases hfp with e3 | ⟨e9, e3⟩
      · refine ⟨fun h => by rw [e1]; exact h, fun _ _ => Or.inr ?_, fun _ => by rw [e3]; omega, fun _ => Or.inr (by rw [e3]; omega), fun h => by rw [← e1]; exact h⟩
        rw [e3, Nat.add_sub_cancel, h5, upN_at]
      · refine ⟨fun h => by rw [e1]; exact h, fun _ _ => Or.inr ?_, fun h => by rw [e3]; exact h, fun h => ?_, fun h => by rw [← e1]; exact h⟩
        · rcases hg with g0 | g0
          · exact absurd g0 h0
          · rw [e3, h5, upN_ne (fun h => by rw [h, hgw] at g0; exact ge.2 (by omega))]; exact g0
        · unfold Up; rw [e3]; exact h
    · have e3 := hfi q e2
      refine ⟨fun h => by rw [e1]; exact h, fun h5q g9 => ?_, fun h => by rw [e3]; exact h, fun h => ?_, fun h => by rw [← e1]; exact h⟩
      · rcases g9 with g9 | g9
        · exact Or.inl (by rw [e3]; exact g9)
        · refine Or.inr ?_
          rw [e3, h5, upN_ne (fun h => by
            rw [h, hgw] at g9
            exact h5q (by rw [show q = e by omega]; exact hw5))]
          exact g9
      · unfold Up; rw [e3]; exact h
  refine ⟨h1, by omega, key, fun q hqN hq hgq hwq => ?_, fun q hqN hq hpq => ?_, fun q hqN hq hgq hwq hu h6q => ?_, h10⟩
  · have e1 : m_la s' q = m_la s q := by rw [h7, upN_ne (by omega)]
    refine ⟨e1, fun hh hl hw6 => ?_, hfi q (by omega)⟩
    rw [e1] at hl hw6 ⊢
    obtain ⟨g1, g2⟩ := Fo_la F hq hgq hl
    rw [h4] at hw6
    have hne : m_la s q - 1 ≠ p := fun h => hw (by rw [← h]; exact hw6)
    have e3 := hfi _ hne
    obtain ⟨k1, k2, k3, k4, k5⟩ := hh hl hw6
    rw [e3]
    have hqe : m_la s q ≠ e + 1 := fun h => by
      rw [h, Nat.add_sub_cancel] at g2
      rw [ge.1] at g2; omega
    refine ⟨k1, ?_, k3, fun c hc hpc hnc => ?_, by rw [h4]; exact k5⟩
    · rw [h5, upN_ne (fun h => by rw [h, hgw] at k2; omega)]; exact k2
    · rw [h5] at hpc
      by_cases ee : c = o
      · rw [ee, upN_at] at hpc; omega
      · rw [upN_ne ee] at hpc
        rw [h8 c ee (by omega)] at hnc
        exact k4 c (by omega) hpc hnc
  · rw [h5, upN_ne (by omega)]
  · intro hl h69
    by_cases e2 : q = p
    · rw [e2, h7, upN_at, Nat.add_sub_cancel, h4] at h69
      exact absurd h69 h69o
    · have e1 : m_la s' q = m_la s q := by rw [h7, upN_ne e2]
      rw [e1] at hl h69 ⊢
      obtain ⟨g1, -⟩ := Fo_la F hq hgq hl
      rw [h4] at h69
      obtain ⟨k1, k2, k3⟩ := h6q hl h69
      obtain ⟨-, c2, c3, -⟩ := key _ g1
      refine ⟨c2 (by rw [h69]; decide) k1, c3 k2, ?_⟩
      by_cases e3 : m_la s q - 1 = p
      · rw [e3] at k2 k3 ⊢
        rcases hfp with h9 | ⟨-, h9⟩
        · omega
        · omega
      · rw [hfi _ e3]; exact k3
/-- 'guarded': the first child o of the 69 g, the last of r, comes under w, behind its first child -/
theorem Ex_surg {s s' : Mm} {w r g o f : Nat} (F : FoS s) (hw : w < m_md s) (gw : GdS s w) (h0 : m_fi s w = f + 1) (hfw : f < w) (hla : m_la s w = r + 1) (hfl : f < r) (hpf : m_pa s w < m_fi s w) (hp0 : m_pa s w ≠ 0) (hp5 : m_wh s (m_pa s w - 1) ≠ 50) (hwr : w < r) (hgr : GdS s r) (hlr : m_la s r = g + 1) (h69 : m_wh s g = 69) (hgg : GdS s g) (hfg : m_fi s g = o + 1) (hro : r < o) (h1 : m_md s' = m_md s) (h2 : m_wh s' = upN (m_wh s) w 69) (h3 : m_pa s' = upN (m_pa s) o (w + 1)) (h4 : m_fi s' = m_fi s) (h5 : m_la s' = upN (m_la s) w (o + 1)) (h6 : m_nx s' = upN (upN (m_nx s) f (o + 1)) o 0) : Ex2 w s s' := by
  have pf : m_pa s f = w + 1 := by
    rcases gw with q | q
    · omega
    · rw [h0, Nat.add_sub_cancel] at q; exact q
  obtain ⟨hr, pr⟩ := Fo_la F hw gw (by omega)
  rw [hla, Nat.add_sub_cancel] at hr pr
  obtain ⟨hg, pg⟩ := Fo_la F hr hgr (by omega)
  rw [hlr, Nat.add_sub_cancel] at hg pg
  have po : m_pa s o = g + 1 := by
    rcases hgg with q | q
    · omega
    · rw [hfg, Nat.add_sub_cancel] at q; exact q
  have ho : o < m_md s := by have := (F g hg).1; omega
  have hgw : g ≠ w := fun h => by rw [h] at pg; omega
  refine ⟨?_, by omega, fun q hq => ?_, fun q hqN hq hgq hwq => ?_, fun q hqN hq hpq => ?_, fun q hqN hq hgq hwq hu h6q => ?_, ?_⟩
  · show Fo (m_md s') (m_pa s') (m_fi s') (m_la s') (m_nx s')
    rw [h1, h3, h4, h5, h6]
    exact Fo_surg F hw h0 pf (by omega) ho (by omega) (by omega) hfg po hgw
  · refine ⟨fun h => ?_, fun _ hp hG => ?_, fun h => by rw [h4]; exact h, fun h => by unfold Up; rw [h4]; exact h, fun h => ?_⟩
    · rw [h2]
      by_cases e : q = w
      · rw [e, upN_at]; decide
      · rw [upN_ne e]; exact h
    · rcases hG with hG | hG
      · exact Or.inl (by rw [h4]; exact hG)
      · refine Or.inr ?_
        rw [h3, h4]
        by_cases e : m_fi s q - 1 = o
        · rw [e, po] at hG
          rw [show q = g by omega, pg] at hp
          omega
        · rw [upN_ne e]; exact hG
    · rw [h2] at h
      by_cases e : q = w
      · rw [e, upN_at] at h; exact absurd h (by decide)
      · rw [upN_ne e] at h; exact h
  · have e1 : m_la s' q = m_la s q := by rw [h5, upN_ne (by omega)]
    refine ⟨e1, fun hh hl hw5 => ?_, by rw [h4]⟩
    rw [e1] at hl hw5 ⊢
    obtain ⟨g1, g2⟩ := Fo_la F hq hgq hl
    have hne : m_la s q - 1 ≠ w := fun h => by rw [h, h2, upN_at] at hw5; exact absurd hw5 (by decide)
    rw [h2, upN_ne hne] at hw5
    obtain ⟨k1, k2, k3, k4, k5⟩ := hh hl hw5
    rw [h4]
    refine ⟨k1, ?_, k3, fun c hc hpc hnc => ?_, ?_⟩
    · rw [h3, upN_ne (fun h => by
        rw [h, po] at k2
        rw [show m_la s q - 1 = g by omega, h69] at hw5
        exact absurd hw5 (by decide))]
      exact k2
    · rw [h3] at hpc
      by_cases ec : c = o
      · rw [ec, upN_at] at hpc; omega
      · rw [upN_ne ec] at hpc
        rw [h6, upN_ne ec, upN_ne (fun h => by rw [h, pf] at hpc; omega)] at hnc
        exact k4 c (by omega) hpc hnc
    · rw [h2]
      rw [upN_ne (fun h => by
        rw [h] at k2
        exact hp5 (by rw [k2]; exact hw5))]
      exact k5
  · rw [h3, upN_ne (by omega)]
  · by_cases e2 : q = w
    · subst e2
      rcases hu with hu | hu
      · omega
      · omega
    · intro hl h9
      have e1 : m_la s' q = m_la s q := by rw [h5, upN_ne e2]
      rw [e1] at hl h9 ⊢
      obtain ⟨g1, g2⟩ := Fo_la F hq hgq hl
      by_cases e3 : m_la s q - 1 = w
      · rw [e3] at g2 ⊢
        refine ⟨Or.inr ?_, by rw [h4]; omega, by rw [h4]; omega⟩
        rw [h4, h0, Nat.add_sub_cancel, h3, upN_ne (by omega)]; exact pf
      · rw [h2, upN_ne e3] at h9
        obtain ⟨k1, k2, k3⟩ := h6q hl h9
        refine ⟨?_, by rw [h4]; exact k2, by rw [h4]; exact k3⟩
        rcases k1 with k1 | k1
        · exact absurd k1 k2
        · refine Or.inr ?_
          have hne : m_fi s (m_la s q - 1) - 1 ≠ o := fun h => by
            rw [h, po] at k1
            have h9 : m_la s q - 1 = g := by omega
            rw [h9, pg] at g2
            omega
          rw [h3, h4, upN_ne hne]
          exact k1
  · rintro ⟨t1, t2, lo, hi, T⟩
    obtain ⟨l, e, a, b, c, d, gg⟩ := Fo_ch F hw gw (by omega)
    have her : e = r := by omega
    subst her
    have hfl2 : f ∈ l := by
      cases l with
      | nil => have a : m_fi s w = e + 1 := a; omega
      | cons y l => have a : m_fi s w = y + 1 := a; rw [show f = y by omega]; exact List.mem_cons_self
    have k1 := Tq_sl T l e c d f hfl2
    have T1 := T o ho
    have T2 := T g hg
    have T3 := T e hr
    rw [po, Nat.add_sub_cancel] at T1
    rw [pg, Nat.add_sub_cancel] at T2
    rw [pr, Nat.add_sub_cancel] at T3
    have f0 : f ≠ 0 := fun h => by rw [h, t1] at pf; omega
    refine ⟨by rw [h3, upN_ne (by omega)]; exact t1, by rw [h6, upN_ne (by omega), upN_ne (by omega)]; exact t2, lo, hi, ?_⟩
    rw [h1]
    refine Tq_move T hw ho (by omega) (by omega) (fun x hx => Or.inl (by rw [h4])) (fun x hx => ?_) (fun x hx hx2 => by rw [h3, upN_ne hx2]) (by rw [h3, upN_at])
    by_cases e1 : x = o
    · rw [h6, e1]; exact Or.inr (Or.inl upN_at)
    · by_cases e2 : x = f
      · rw [h6, e2, upN_ne (by omega)]; exact Or.inr (Or.inr ⟨by omega, upN_at⟩)
      · rw [h6, upN_ne e1, upN_ne e2]; exact Or.inl rfl
