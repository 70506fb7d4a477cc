/-! The nodes as a tree: each node has a span of its own; spans of children lie inside, in their order. -/
def Tq (md : Nat) (pa fi nx lo hi : Nat → Nat) : Prop := ∀ x, x < md → lo x < hi x ∧ (fi x = 0 ∨ (fi x ≤ md ∧ lo x < lo (fi x - 1))) ∧ (nx x = 0 ∨ (nx x ≤ md ∧ hi x < lo (nx x - 1))) ∧ (pa x = 0 ∨ (pa x ≤ md ∧ hi x < hi (pa x - 1) ∧ lo (pa x - 1) < lo x))
def Tt (s : Mm) : Prop := m_pa s 0 = 0 ∧ m_nx s 0 = 0 ∧ ∃ lo hi, Tq (m_md s) (m_pa s) (m_fi s) (m_nx s) lo hi
section TQ
variable {md : Nat} {pa fi nx pa' fi' nx' lo hi : Nat → Nat} {p e o w f : Nat}
theorem Tq_child (T : Tq md pa fi nx lo hi) (hp : p < md) (hf : ∀ x, x < md → fi' x = fi x ∨ (x = p ∧ fi' x = md + 1)) (hf1 : fi' md = 0) (hn : ∀ x, x < md → nx' x = nx x ∨ (pa x = p + 1 ∧ nx' x = md + 1)) (hn1 : nx' md = 0) (ha : ∀ x, x < md → pa' x = pa x) (ha1 : pa' md = p + 1) :
    Tq (md + 1) pa' fi' nx' (upN (fun x => 3 * lo x) md (3 * hi p - 2)) (upN (fun x => 3 * hi x) md (3 * hi p - 1)) := by
  have up : ∀ (g : Nat → Nat) (v j : Nat), j < md → upN (fun x => 3 * g x) md v j = 3 * g j := fun g v j h => upN_ne (by omega)
  obtain ⟨p1, -⟩ := T p hp
  intro x hx
  by_cases ex : x = md
  · subst ex
    rw [upN_at, upN_at, hf1, hn1, ha1, Nat.add_sub_cancel, up _ _ p hp, up _ _ p hp]
    exact ⟨by omega, Or.inl rfl, Or.inl rfl, Or.inr ⟨by omega, by omega, by omega⟩⟩
  · have hx' : x < md := by omega
    obtain ⟨t1, t2, t3, t4⟩ := T x hx'
    rw [up _ _ x hx', up _ _ x hx', ha x hx']
    refine ⟨by omega, ?_, ?_, ?_⟩
    · rcases hf x hx' with h | ⟨h, h2⟩
      · rw [h]
        rcases t2 with t2 | ⟨t2, t5⟩
        · exact Or.inl t2
        · by_cases h0 : fi x = 0
          · exact Or.inl h0
          · refine Or.inr ⟨by omega, ?_⟩
            rw [up _ _ _ (by omega)]; omega
      · refine Or.inr ⟨by omega, ?_⟩
        rw [h2, Nat.add_sub_cancel, upN_at, h]; omega
    · rcases hn x hx' with h | ⟨h, h2⟩
      · rw [h]
        rcases t3 with t3 | ⟨t3, t5⟩
        · exact Or.inl t3
        · by_cases h0 : nx x = 0
          · exact Or.inl h0
          · refine Or.inr ⟨by omega, ?_⟩
            rw [up _ _ _ (by omega)]; omega
      · refine Or.inr ⟨by omega, ?_⟩
        rw [h2, Nat.add_sub_cancel, upN_at]
        rw [h, Nat.add_sub_cancel] at t4
        omega
    · by_cases h0 : pa x = 0
      · exact Or.inl h0
      · rcases t4 with t4 | ⟨t4, t5, t6⟩
        · exact absurd t4 h0
        · refine Or.inr ⟨by omega, ?_, ?_⟩
          · rw [up _ _ _ (by omega)]; omega
          · rw [up _ _ _ (by omega)]; omega
theorem Tq_wrap (T : Tq md pa fi nx lo hi) (hp : p < md) (he : e < md) (pe : pa e = p + 1) (hf : ∀ x, x < md → fi' x = fi x ∨ (x = p ∧ fi' x = md + 1)) (hf1 : fi' md = e + 1) (hn : ∀ x, x < md → nx' x = nx x ∨ (nx x = e + 1 ∧ nx' x = md + 1)) (hn1 : nx' md = 0) (ha : ∀ x, x < md → x ≠ e → pa' x = pa x) (ha1 : pa' e = md + 1) (ha2 : pa' md = p + 1) :
    Tq (md + 1) pa' fi' nx' (upN (fun x => 3 * lo x) md (3 * lo e - 1)) (upN (fun x => 3 * hi x) md (3 * hi e + 1)) := by
  have up : ∀ (g : Nat → Nat) (v j : Nat), j < md → upN (fun x => 3 * g x) md v j = 3 * g j := fun g v j h => upN_ne (by omega)
  obtain ⟨p1, -⟩ := T p hp
  obtain ⟨e1, -, -, e4⟩ := T e he
  rw [pe, Nat.add_sub_cancel] at e4
  intro x hx
  by_cases ex : x = md
  · subst ex
    rw [upN_at, upN_at, hf1, hn1, ha2, Nat.add_sub_cancel, Nat.add_sub_cancel, up _ _ p hp, up _ _ p hp, up _ _ e he]
    exact ⟨by omega, Or.inr ⟨by omega, by omega⟩, Or.inl rfl, Or.inr ⟨by omega, by omega, by omega⟩⟩
  · have hx' : x < md := by omega
    obtain ⟨t1, t2, t3, t4⟩ := T x hx'
    rw [up _ _ x hx', up _ _ x hx']
    refine ⟨by omega, ?_, ?_, ?_⟩
    · rcases hf x hx' with h | ⟨h, h2⟩
      · rw [h]
        rcases t2 with t2 | ⟨t2, t5⟩
        · exact Or.inl t2
        · by_cases h0 : fi x = 0
          · exact Or.inl h0
          · refine Or.inr ⟨by omega, ?_⟩
            rw [up _ _ _ (by omega)]; omega
      · refine Or.inr ⟨by omega, ?_⟩
        rw [h2, Nat.add_sub_cancel, upN_at, h]; omega
    · rcases hn x hx' with h | ⟨h, h2⟩
      · rw [h]
        rcases t3 with t3 | ⟨t3, t5⟩
        · exact Or.inl t3
        · by_cases h0 : nx x = 0
          · exact Or.inl h0
          · refine Or.inr ⟨by omega, ?_⟩
            rw [up _ _ _ (by omega)]; omega
      · refine Or.inr ⟨by omega, ?_⟩
        rw [h2, Nat.add_sub_cancel, upN_at]
        rw [h, Nat.add_sub_cancel] at t3
        omega
    · by_cases h9 : x = e
      · subst h9
        rw [ha1, Nat.add_sub_cancel, upN_at, upN_at]
        exact Or.inr ⟨by omega, by omega, by omega⟩
      · rw [ha x hx' h9]
        by_cases h0 : pa x = 0
        · exact Or.inl h0
        · rcases t4 with t4 | ⟨t4, t5, t6⟩
          · exact absurd t4 h0
          · refine Or.inr ⟨by omega, ?_, ?_⟩
            · rw [up _ _ _ (by omega)]; omega
            · rw [up _ _ _ (by omega)]; omega
/-- o comes under p, behind f; it lay deeper before -/
theorem Tq_move (T : Tq md pa fi nx lo hi) (hp : p < md) (ho : o < md) (o1 : hi o < hi p) (o2 : lo p < lo o) (hf : ∀ x, x < md → fi' x = fi x ∨ (x = p ∧ fi' x = o + 1)) (hn : ∀ x, x < md → nx' x = nx x ∨ nx' x = 0 ∨ (hi x < lo o ∧ nx' x = o + 1)) (ha : ∀ x, x < md → x ≠ o → pa' x = pa x) (ha1 : pa' o = p + 1) : Tq md pa' fi' nx' lo hi := by
  intro x hx
  obtain ⟨t1, t2, t3, t4⟩ := T x hx
  refine ⟨t1, ?_, ?_, ?_⟩
  · rcases hf x hx with h | ⟨h, h2⟩
    · rw [h]; exact t2
    · rw [h2, Nat.add_sub_cancel, h]; exact Or.inr ⟨by omega, o2⟩
  · rcases hn x hx with h | h | ⟨h, h2⟩
    · rw [h]; exact t3
    · exact Or.inl h
    · rw [h2, Nat.add_sub_cancel]; exact Or.inr ⟨by omega, h⟩
  · by_cases h : x = o
    · rw [h, ha1, Nat.add_sub_cancel]; exact Or.inr ⟨by omega, o1, o2⟩
    · rw [ha x hx h]; exact t4
/-- along a chain -/
theorem Tq_sl (T : Tq md pa fi nx lo hi) : ∀ (l : List Nat) (e : Nat), Sl nx l e → e < md → ∀ x, x ∈ l → hi x < lo e := by
  intro l
  induction l with
  | nil => intro e _ _ x hx; cases hx
  | cons a l ih =>
    intro e h he x hx
    have hle := Sl_le l e h.2.2
    rcases List.mem_cons.mp hx with rfl | hx
    · obtain ⟨t1, t2, t3, t4⟩ := T x (by have := h.2.1; omega)
      rw [h.1, Nat.add_sub_cancel] at t3
      cases l with
      | nil => have t3 : hdl [] e + 1 = 0 ∨ (hdl [] e + 1 ≤ md ∧ hi x < lo e) := t3; omega
      | cons b l =>
        have t3 : b + 1 = 0 ∨ (b + 1 ≤ md ∧ hi x < lo b) := t3
        have hb := ih e h.2.2 he b List.mem_cons_self
        obtain ⟨b1, -⟩ := T b (by omega)
        omega
    · exact ih e h.2.2 he x hx
end TQ
/-- a node o that lay deeper becomes the second and last child of w -/
theorem Fo_surg {md : Nat} {pa fi la nx : Nat → Nat} {w f g o : Nat} (F : Fo md pa fi la nx) (hw : w < md) (hf : fi w = f + 1) (pf : pa f = w + 1) (hfw : f ≠ w) (ho : o < md) (how : o ≠ w) (hfo : f < o) (fg : fi g = o + 1) (po : pa o = g + 1) (hgw : g ≠ w) : Fo md (upN pa o (w + 1)) fi (upN la w (o + 1)) (upN (upN nx f (o + 1)) o 0) := by
  intro q hq
  obtain ⟨h1, h2⟩ := F q hq
  refine ⟨h1, fun hg1 => ?_⟩
  by_cases e1 : q = w
  · subst e1
    refine Or.inr ⟨[f], o, hf, upN_at, ⟨?_, hfo, upN_at⟩, ho, fun x hx => ?_⟩
    · rw [upN_ne (by omega), upN_at]; rfl
    · rcases hx with hx | rfl
      · rw [List.mem_singleton.mp hx, upN_ne (by omega)]; exact ⟨pf, hfw⟩
      · rw [upN_at]; exact ⟨rfl, how⟩
  · have hg' : Gd pa fi q ∧ q ≠ g := by
      rcases hg1 with hg1 | hg1
      · exact ⟨Or.inl hg1, fun h => by rw [h, fg] at hg1; omega⟩
      · by_cases h8 : fi q - 1 = o
        · rw [h8, upN_at] at hg1; omega
        · rw [upN_ne h8] at hg1
          exact ⟨Or.inr hg1, fun h => h8 (by rw [h, fg]; rfl)⟩
    rcases h2 hg'.1 with ⟨a1, b1⟩ | ⟨l1, f1, a1, b1, c1, d1, g1⟩
    · exact Or.inl ⟨a1, by rw [upN_ne e1]; exact b1⟩
    · have h8 : ∀ x, x ∈ l1 ∨ x = f1 → x ≠ o := fun x hx h => by
        have p1 := (g1 x hx).1
        rw [h, po] at p1
        exact hg'.2 (by omega)
      have h7 : ∀ x, x ∈ l1 ∨ x = f1 → x ≠ f := fun x hx h => by
        have p1 := (g1 x hx).1
        rw [h, pf] at p1
        omega
      exact Or.inr ⟨l1, f1, a1, by rw [upN_ne e1]; exact b1, Sl_fr l1 f1 (fun x hx => by rw [upN_ne (h8 x hx), upN_ne (h7 x hx)]) c1, d1, fun x hx => by rw [upN_ne (h8 x hx)]; exact g1 x hx⟩
