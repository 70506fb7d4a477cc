/-! The nodes of the reference as chains of children. -/
def hdl (l : List Nat) (e : Nat) : Nat := match l with
  | [] => e
  | b :: _ => b
/-- the nodes l, then e, by next; e is the last -/
def Sl (nx : Nat → Nat) : List Nat → Nat → Prop
  | [], e => nx e = 0
  | a :: l, e => nx a = hdl l e + 1 ∧ a < hdl l e ∧ Sl nx l e
theorem Sl_le {nx : Nat → Nat} : ∀ (l : List Nat) (e : Nat), Sl nx l e → hdl l e ≤ e := by
  intro l
  induction l with
  | nil => intro e _; exact Nat.le_refl _
  | cons a l ih => intro e h; have := ih e h.2.2; have := h.2.1; show a ≤ e; omega
theorem Sl_lt {nx : Nat → Nat} : ∀ (l : List Nat) (e : Nat), Sl nx l e → ∀ x, x ∈ l → x < e := by
  intro l
  induction l with
  | nil => intro e _ x hx; cases hx
  | cons a l ih =>
    intro e h x hx
    rcases List.mem_cons.mp hx with rfl | hx
    · have := Sl_le l e h.2.2; have := h.2.1; omega
    · exact ih e h.2.2 x hx
theorem Sl_len {nx : Nat → Nat} : ∀ (l : List Nat) (e : Nat), Sl nx l e → hdl l e + l.length ≤ e := by
  intro l
  induction l with
  | nil => intro e _; exact Nat.le_refl _
  | cons a l ih => intro e h; have := ih e h.2.2; have := h.2.1; show a + (l.length + 1) ≤ e; omega
theorem Sl_nx {nx : Nat → Nat} : ∀ (l : List Nat) (e : Nat), Sl nx l e → nx e = 0 := by
  intro l
  induction l with
  | nil => intro e h; exact h
  | cons a l ih => intro e h; exact ih e h.2.2
theorem Sl_fr {nx nx' : Nat → Nat} : ∀ (l : List Nat) (e : Nat), (∀ x, x ∈ l ∨ x = e → nx' x = nx x) → Sl nx l e → Sl nx' l e := by
  intro l
  induction l with
  | nil => intro e f h; show nx' e = 0; rw [f e (Or.inr rfl)]; exact h
  | cons a l ih =>
    intro e f h
    refine ⟨?_, h.2.1, ih e (fun x hx => f x ?_) h.2.2⟩
    · rw [f a (Or.inl List.mem_cons_self)]; exact h.1
    · rcases hx with hx | hx
      · exact Or.inl (List.mem_cons_of_mem _ hx)
      · exact Or.inr hx
theorem hdl_snoc (l : List Nat) (e c : Nat) : hdl (l ++ [e]) c = hdl l e := by cases l <;> rfl
/-- one more child at the end -/
theorem Sl_add {nx nx' : Nat → Nat} {c : Nat} : ∀ (l : List Nat) (e : Nat), (∀ x, x ∈ l → nx' x = nx x) → nx' e = c + 1 → e < c → nx' c = 0 → Sl nx l e → Sl nx' (l ++ [e]) c := by
  intro l
  induction l with
  | nil => intro e _ h1 h2 h3 _; exact ⟨h1, h2, h3⟩
  | cons a l ih =>
    intro e f h1 h2 h3 h
    refine ⟨?_, ?_, ih e (fun x hx => f x (List.mem_cons_of_mem _ hx)) h1 h2 h3 h.2.2⟩
    · show nx' a = hdl (l ++ [e]) c + 1
      rw [hdl_snoc, f a List.mem_cons_self]; exact h.1
    · show a < hdl (l ++ [e]) c
      rw [hdl_snoc]; exact h.2.1
/-- another last child in the place of the last -/
theorem Sl_rep {nx nx' : Nat → Nat} {w b : Nat} : ∀ (l : List Nat) (e : Nat), (∀ x, x ∈ l → nx' x = nx x) → nx' b = w + 1 → b < w → nx' w = 0 → Sl nx (l ++ [b]) e → Sl nx' (l ++ [b]) w := by
  intro l
  induction l with
  | nil => intro e _ h1 h2 h3 _; exact ⟨h1, h2, h3⟩
  | cons a l ih =>
    intro e f h1 h2 h3 h
    have h' : nx a = hdl (l ++ [b]) e + 1 ∧ a < hdl (l ++ [b]) e ∧ Sl nx (l ++ [b]) e := h
    refine ⟨?_, ?_, ih e (fun x hx => f x (List.mem_cons_of_mem _ hx)) h1 h2 h3 h'.2.2⟩
    · show nx' a = hdl (l ++ [b]) w + 1
      rw [hdl_snoc, f a List.mem_cons_self]; rw [hdl_snoc] at h'; exact h'.1
    · show a < hdl (l ++ [b]) w
      rw [hdl_snoc]; rw [hdl_snoc] at h'; exact h'.2.1
theorem Sl_pre {nx : Nat → Nat} {b : Nat} : ∀ (l : List Nat) (e : Nat), Sl nx (l ++ [b]) e → (∀ x, x ∈ l → x < b) ∧ b < e := by
  intro l
  induction l with
  | nil => intro e h; exact ⟨fun x hx => absurd hx List.not_mem_nil, h.2.1⟩
  | cons a l ih =>
    intro e h
    have h' : nx a = hdl (l ++ [b]) e + 1 ∧ a < hdl (l ++ [b]) e ∧ Sl nx (l ++ [b]) e := h
    obtain ⟨h1, h2⟩ := ih e h'.2.2
    refine ⟨fun x hx => ?_, h2⟩
    rcases List.mem_cons.mp hx with rfl | hx
    · have h3 := h'.2.1
      rw [hdl_snoc] at h3
      cases l with
      | nil => exact h3
      | cons y l => have := h1 y List.mem_cons_self; show x < b; have h3 : x < y := h3; omega
    · exact h1 x hx
/-- the chain of p -/
def Fc (md : Nat) (pa fi la nx : Nat → Nat) (p : Nat) : Prop := (fi p = 0 ∧ la p = 0) ∨ ∃ (l : List Nat) (e : Nat), fi p = hdl l e + 1 ∧ la p = e + 1 ∧ Sl nx l e ∧ e < md ∧ ∀ x, x ∈ l ∨ x = e → pa x = p + 1 ∧ x ≠ p
def Gd (pa fi : Nat → Nat) (p : Nat) : Prop := fi p = 0 ∨ pa (fi p - 1) = p + 1
def Fo (md : Nat) (pa fi la nx : Nat → Nat) : Prop := ∀ p, p < md → fi p ≤ md ∧ (Gd pa fi p → Fc md pa fi la nx p)
section FOR
variable {md : Nat} {pa fi la nx : Nat → Nat} {p : Nat}
theorem upN_at {f : Nat → Nat} {i v : Nat} : upN f i v i = v := by unfold upN; rw [if_pos rfl]
theorem upN_ne {f : Nat → Nat} {i v j : Nat} (h : j ≠ i) : upN f i v j = f j := by unfold upN; rw [if_neg h]
theorem Fc_in {e : Nat} {l : List Nat} (h : Sl nx l e) (he : e < md) : ∀ x, x ∈ l ∨ x = e → x < md := by
  intro x hx
  rcases hx with hx | rfl
  · have := Sl_lt l e h x hx; omega
  · exact he
/-- the first child -/
theorem Fo_child0 (F : Fo md pa fi la nx) (hp : p < md) (h0 : fi p = 0) : Fo (md + 1) (upN pa md (p + 1)) (upN (upN fi md 0) p (md + 1)) (upN (upN la md 0) p (md + 1)) (upN nx md 0) := by
  intro q hq
  by_cases e1 : q = p
  · subst e1
    refine ⟨by rw [upN_at]; omega, fun _ => Or.inr ⟨[], md, ?_, ?_, ?_, by omega, ?_⟩⟩
    · rw [upN_at]; rfl
    · rw [upN_at]
    · show upN nx md 0 md = 0
      rw [upN_at]
    · intro x hx
      rcases hx with hx | rfl
      · cases hx
      · rw [upN_at]; exact ⟨rfl, by omega⟩
  · rw [upN_ne e1]
    by_cases e2 : q = md
    · subst e2
      refine ⟨by rw [upN_at]; omega, fun _ => Or.inl ⟨?_, ?_⟩⟩
      · rw [upN_ne e1, upN_at]
      · rw [upN_ne e1, upN_at]
    · rw [upN_ne e2]
      obtain ⟨h1, h2⟩ := F q (by omega)
      refine ⟨by omega, fun hg => ?_⟩
      have hg' : Gd pa fi q := by
        rcases hg with hg | hg
        · rw [upN_ne e1, upN_ne e2] at hg; exact Or.inl hg
        · rw [upN_ne e1, upN_ne e2] at hg
          by_cases h9 : fi q = 0
          · exact Or.inl h9
          · rw [upN_ne (by omega)] at hg; exact Or.inr hg
      rcases h2 hg' with ⟨a, b⟩ | ⟨l, e, a, b, c, d, g⟩
      · exact Or.inl ⟨by rw [upN_ne e1, upN_ne e2]; exact a, by rw [upN_ne e1, upN_ne e2]; exact b⟩
      · have hin := Fc_in (md := md) c d
        refine Or.inr ⟨l, e, by rw [upN_ne e1, upN_ne e2]; exact a, by rw [upN_ne e1, upN_ne e2]; exact b, Sl_fr l e (fun x hx => upN_ne (by have := hin x hx; omega)) c, by omega, fun x hx => ?_⟩
        rw [upN_ne (by have := hin x hx; omega)]
        exact g x hx
/-- a child behind others -/
theorem Fo_child1 (F : Fo md pa fi la nx) (hp : p < md) (hg : Gd pa fi p) (h0 : fi p ≠ 0) : (la p ≠ 0 ∧ la p ≤ md) ∧ Fo (md + 1) (upN pa md (p + 1)) (upN fi md 0) (upN (upN la md 0) p (md + 1)) (upN (upN nx md 0) (la p - 1) (md + 1)) := by
  obtain ⟨-, hF⟩ := F p hp
  rcases hF hg with ⟨a, -⟩ | ⟨l, e, a, b, c, d, g⟩
  · exact absurd a h0
  have hin := Fc_in (md := md) c d
  have hlt := Sl_lt l e c
  refine ⟨⟨by omega, by omega⟩, ?_⟩
  have hle : la p - 1 = e := by omega
  rw [hle]
  intro q hq
  by_cases e2 : q = md
  · subst e2
    refine ⟨by rw [upN_at]; omega, fun _ => Or.inl ⟨upN_at, ?_⟩⟩
    rw [upN_ne (by omega), upN_at]
  · rw [upN_ne e2]
    obtain ⟨h1, h2⟩ := F q (by omega)
    refine ⟨by omega, fun hg1 => ?_⟩
    by_cases e1 : q = p
    · subst e1
      refine Or.inr ⟨l ++ [e], md, ?_, upN_at, ?_, by omega, ?_⟩
      · rw [upN_ne e2, hdl_snoc]; exact a
      · refine Sl_add l e (fun x hx => ?_) upN_at d ?_ c
        · have := hlt x hx
          rw [upN_ne (by omega), upN_ne (by omega)]
        · rw [upN_ne (by omega), upN_at]
      · intro x hx
        rcases hx with hx | rfl
        · have hx' : x ∈ l ∨ x = e := by
            rcases List.mem_append.mp hx with h | h
            · exact Or.inl h
            · exact Or.inr (List.mem_singleton.mp h)
          rw [upN_ne (by have := hin x hx'; omega)]
          exact g x hx'
        · rw [upN_at]; exact ⟨rfl, by omega⟩
    · have hg' : Gd pa fi q := by
        rcases hg1 with hg1 | hg1
        · rw [upN_ne e2] at hg1; exact Or.inl hg1
        · rw [upN_ne e2] at hg1
          by_cases h9 : fi q = 0
          · exact Or.inl h9
          · rw [upN_ne (by omega)] at hg1; exact Or.inr hg1
      rcases h2 hg' with ⟨a1, b1⟩ | ⟨l1, f1, a1, b1, c1, d1, g1⟩
      · exact Or.inl ⟨by rw [upN_ne e2]; exact a1, by rw [upN_ne e1, upN_ne e2]; exact b1⟩
      · have hin1 := Fc_in (md := md) c1 d1
        refine Or.inr ⟨l1, f1, by rw [upN_ne e2]; exact a1, by rw [upN_ne e1, upN_ne e2]; exact b1, Sl_fr l1 f1 (fun x hx => ?_) c1, by omega, fun x hx => ?_⟩
        · have h8 : x ≠ e := fun h => by
            have p1 := (g1 x hx).1
            have p2 := (g e (Or.inr rfl)).1
            rw [h, p2] at p1
            omega
          rw [upN_ne h8, upN_ne (by have := hin1 x hx; omega)]
        · rw [upN_ne (by have := hin1 x hx; omega)]
          exact g1 x hx
/-- what a chain shows -/
theorem Fo_ch (F : Fo md pa fi la nx) (hp : p < md) (hg : Gd pa fi p) (h0 : fi p ≠ 0) : ∃ (l : List Nat) (e : Nat), fi p = hdl l e + 1 ∧ la p = e + 1 ∧ Sl nx l e ∧ e < md ∧ ∀ x, x ∈ l ∨ x = e → pa x = p + 1 ∧ x ≠ p := by
  obtain ⟨-, hF⟩ := F p hp
  rcases hF hg with ⟨a, -⟩ | h
  · exact absurd a h0
  · exact h
/-- the last child wrapped: it was the only one -/
theorem Fo_wrap0 (F : Fo md pa fi la nx) (hp : p < md) {e : Nat} (b : la p = e + 1) (c : Sl nx [] e) (d : e < md) (g : pa e = p + 1 ∧ e ≠ p) : Fo (md + 1) (upN (upN pa md (p + 1)) e (md + 1)) (upN (upN fi md (e + 1)) p (md + 1)) (upN (upN la md (e + 1)) p (md + 1)) (upN nx md 0) := by
  intro q hq
  by_cases e1 : q = p
  · subst e1
    refine ⟨by rw [upN_at]; omega, fun _ => Or.inr ⟨[], md, by rw [upN_at]; rfl, upN_at, upN_at, by omega, fun x hx => ?_⟩⟩
    rcases hx with hx | rfl
    · exact absurd hx List.not_mem_nil
    · rw [upN_ne (by omega), upN_at]; exact ⟨rfl, by omega⟩
  · rw [upN_ne e1]
    by_cases e2 : q = md
    · subst e2
      refine ⟨by rw [upN_at]; omega, fun _ => Or.inr ⟨[], e, ?_, ?_, ?_, by omega, fun x hx => ?_⟩⟩
      · rw [upN_ne e1, upN_at]; rfl
      · rw [upN_ne e1, upN_at]
      · show upN nx q 0 e = 0
        rw [upN_ne (by omega)]; exact c
      · rcases hx with hx | rfl
        · exact absurd hx List.not_mem_nil
        · rw [upN_at]; exact ⟨rfl, by omega⟩
    · rw [upN_ne e2]
      obtain ⟨h1, h2⟩ := F q (by omega)
      refine ⟨by omega, fun hg1 => ?_⟩
      have hg' : Gd pa fi q := by
        rcases hg1 with hg1 | hg1
        · rw [upN_ne e1, upN_ne e2] at hg1; exact Or.inl hg1
        · rw [upN_ne e1, upN_ne e2] at hg1
          by_cases h9 : fi q = 0
          · exact Or.inl h9
          · by_cases h8 : fi q - 1 = e
            · rw [h8, upN_at] at hg1; omega
            · rw [upN_ne h8, upN_ne (by omega)] at hg1; exact Or.inr hg1
      rcases h2 hg' with ⟨a1, b1⟩ | ⟨l1, f1, a1, b1, c1, d1, g1⟩
      · exact Or.inl ⟨by rw [upN_ne e1, upN_ne e2]; exact a1, by rw [upN_ne e1, upN_ne e2]; exact b1⟩
      · have hin1 := Fc_in (md := md) c1 d1
        refine Or.inr ⟨l1, f1, by rw [upN_ne e1, upN_ne e2]; exact a1, by rw [upN_ne e1, upN_ne e2]; exact b1, Sl_fr l1 f1 (fun x hx => upN_ne (by have := hin1 x hx; omega)) c1, by omega, fun x hx => ?_⟩
        have h8 : x ≠ e := fun h => by
          have p1 := (g1 x hx).1
          rw [h, g.1] at p1
          omega
        rw [upN_ne h8, upN_ne (by have := hin1 x hx; omega)]
        exact g1 x hx
/-- the last child wrapped: b stands before it -/
theorem Fo_wrap1 (F : Fo md pa fi la nx) (hp : p < md) {l : List Nat} {b0 e : Nat} (a : fi p = hdl (l ++ [b0]) e + 1) (b : la p = e + 1) (c : Sl nx (l ++ [b0]) e) (d : e < md) (g : ∀ x, x ∈ l ++ [b0] ∨ x = e → pa x = p + 1 ∧ x ≠ p) : Fo (md + 1) (upN (upN pa md (p + 1)) e (md + 1)) (upN fi md (e + 1)) (upN (upN la md (e + 1)) p (md + 1)) (upN (upN nx md 0) b0 (md + 1)) := by
  obtain ⟨k1, k2⟩ := Sl_pre l e c
  have hlt := Sl_lt _ e c
  have gb := g b0 (Or.inl (List.mem_append.mpr (Or.inr List.mem_cons_self)))
  have ge := g e (Or.inr rfl)
  have hb0 : b0 < md := by omega
  intro q hq
  by_cases e2 : q = md
  · subst e2
    refine ⟨by rw [upN_at]; omega, fun _ => Or.inr ⟨[], e, by rw [upN_at]; rfl, ?_, ?_, by omega, fun x hx => ?_⟩⟩
    · rw [upN_ne (by omega), upN_at]
    · show upN (upN nx q 0) b0 (q + 1) e = 0
      rw [upN_ne (by omega), upN_ne (by omega)]; exact Sl_nx _ e c
    · rcases hx with hx | rfl
      · exact absurd hx List.not_mem_nil
      · rw [upN_at]; exact ⟨rfl, by omega⟩
  · rw [upN_ne e2]
    obtain ⟨h1, h2⟩ := F q (by omega)
    refine ⟨by omega, fun hg1 => ?_⟩
    by_cases e1 : q = p
    · subst e1
      refine Or.inr ⟨l ++ [b0], md, ?_, upN_at, ?_, by omega, fun x hx => ?_⟩
      · rw [upN_ne e2, hdl_snoc]; rw [hdl_snoc] at a; exact a
      · refine Sl_rep l e (fun x hx => ?_) upN_at (by omega) ?_ c
        · have := k1 x hx
          rw [upN_ne (by omega), upN_ne (by omega)]
        · rw [upN_ne (by omega), upN_at]
      · rcases hx with hx | rfl
        · have := hlt x hx
          rw [upN_ne (by omega), upN_ne (by omega)]
          exact g x (Or.inl hx)
        · rw [upN_ne (by omega), upN_at]; exact ⟨rfl, by omega⟩
    · have hg' : Gd pa fi q := by
        rcases hg1 with hg1 | hg1
        · rw [upN_ne e2] at hg1; exact Or.inl hg1
        · rw [upN_ne e2] at hg1
          by_cases h9 : fi q = 0
          · exact Or.inl h9
          · by_cases h8 : fi q - 1 = e
            · rw [h8, upN_at] at hg1; omega
            · rw [upN_ne h8, upN_ne (by omega)] at hg1; exact Or.inr hg1
      rcases h2 hg' with ⟨a1, b1⟩ | ⟨l1, f1, a1, b1, c1, d1, g1⟩
      · exact Or.inl ⟨by rw [upN_ne e2]; exact a1, by rw [upN_ne e1, upN_ne e2]; exact b1⟩
      · have hin1 := Fc_in (md := md) c1 d1
        refine Or.inr ⟨l1, f1, by rw [upN_ne e2]; exact a1, by rw [upN_ne e1, upN_ne e2]; exact b1, Sl_fr l1 f1 (fun x hx => ?_) c1, by omega, fun x hx => ?_⟩
        · have h8 : x ≠ b0 := fun h => by
            have p1 := (g1 x hx).1
            rw [h, gb.1] at p1
            omega
          rw [upN_ne h8, upN_ne (by have := hin1 x hx; omega)]
        · have h8 : x ≠ e := fun h => by
            have p1 := (g1 x hx).1
            rw [h, ge.1] at p1
            omega
          rw [upN_ne h8, upN_ne (by have := hin1 x hx; omega)]
          exact g1 x hx
/-- the wrap taken off: it was the only one -/
theorem Fo_unwrap0 (F : Fo md pa fi la nx) (hp : p < md) {w o : Nat} (hw : w ≠ p) (ho : o < md) (hop : o ≠ p) (po : pa o = w + 1) (fw : fi w = o + 1) : Fo md (upN pa o (p + 1)) (upN fi p (o + 1)) (upN la p (o + 1)) (upN nx o 0) := by
  intro q hq
  by_cases e1 : q = p
  · subst e1
    refine ⟨by rw [upN_at]; omega, fun _ => Or.inr ⟨[], o, by rw [upN_at]; rfl, upN_at, upN_at, by omega, fun x hx => ?_⟩⟩
    rcases hx with hx | rfl
    · exact absurd hx List.not_mem_nil
    · rw [upN_at]; exact ⟨rfl, hop⟩
  · rw [upN_ne e1]
    obtain ⟨h1, h2⟩ := F q hq
    refine ⟨h1, fun hg1 => ?_⟩
    have hg' : Gd pa fi q ∧ q ≠ w := by
      rcases hg1 with hg1 | hg1
      · rw [upN_ne e1] at hg1
        exact ⟨Or.inl hg1, fun h => by rw [h, fw] at hg1; omega⟩
      · rw [upN_ne e1] at hg1
        by_cases h8 : fi q - 1 = o
        · rw [h8, upN_at] at hg1; omega
        · rw [upN_ne h8] at hg1
          exact ⟨Or.inr hg1, fun h => h8 (by rw [h, fw]; rfl)⟩
    rcases h2 hg'.1 with ⟨a1, b1⟩ | ⟨l1, f1, a1, b1, c1, d1, g1⟩
    · exact Or.inl ⟨by rw [upN_ne e1]; exact a1, by rw [upN_ne e1]; exact b1⟩
    · have h8 : ∀ x, x ∈ l1 ∨ x = f1 → x ≠ o := fun x hx h => by
        have p1 := (g1 x hx).1
        rw [h, po] at p1
        exact hg'.2 (by omega)
      exact Or.inr ⟨l1, f1, by rw [upN_ne e1]; exact a1, by rw [upN_ne e1]; exact b1, Sl_fr l1 f1 (fun x hx => upN_ne (h8 x hx)) c1, d1, fun x hx => by rw [upN_ne (h8 x hx)]; exact g1 x hx⟩
/-- the wrap taken off: b0 stands before it -/
theorem Fo_unwrap1 (F : Fo md pa fi la nx) (hp : p < md) {l : List Nat} {b0 w o : Nat} (a : fi p = hdl (l ++ [b0]) w + 1) (c : Sl nx (l ++ [b0]) w) (g : ∀ x, x ∈ l ++ [b0] ∨ x = w → pa x = p + 1 ∧ x ≠ p) (ho : o < md) (hop : o ≠ p) (hbo : b0 < o) (po : pa o = w + 1) (fw : fi w = o + 1) : Fo md (upN pa o (p + 1)) fi (upN la p (o + 1)) (upN (upN nx o 0) b0 (o + 1)) := by
  obtain ⟨k1, k2⟩ := Sl_pre l w c
  have gb := g b0 (Or.inl (List.mem_append.mpr (Or.inr List.mem_cons_self)))
  have gw := g w (Or.inr rfl)
  intro q hq
  obtain ⟨h1, h2⟩ := F q hq
  refine ⟨h1, fun hg1 => ?_⟩
  by_cases e1 : q = p
  · subst e1
    refine Or.inr ⟨l ++ [b0], o, ?_, upN_at, ?_, ho, fun x hx => ?_⟩
    · rw [hdl_snoc]; rw [hdl_snoc] at a; exact a
    · refine Sl_rep l w (fun x hx => ?_) upN_at hbo ?_ c
      · have := k1 x hx
        rw [upN_ne (by omega), upN_ne (by omega)]
      · rw [upN_ne (by omega), upN_at]
    · rcases hx with hx | rfl
      · have h7 := g x (Or.inl hx)
        have h8 : x ≠ o := fun h => by
          have p1 := h7.1
          rw [h, po] at p1
          exact gw.2 (by omega)
        rw [upN_ne h8]; exact h7
      · rw [upN_at]; exact ⟨rfl, hop⟩
  · have hg' : Gd pa fi q ∧ q ≠ w := by
      rcases hg1 with hg1 | hg1
      · exact ⟨Or.inl hg1, fun h => by rw [h, fw] at hg1; omega⟩
      · by_cases h8 : fi q - 1 = o
        · rw [h8, upN_at] at hg1; omega
        · rw [upN_ne h8] at hg1
          exact ⟨Or.inr hg1, fun h => h8 (by rw [h, fw]; rfl)⟩
    rcases h2 hg'.1 with ⟨a1, b1⟩ | ⟨l1, f1, a1, b1, c1, d1, g1⟩
    · exact Or.inl ⟨a1, by rw [upN_ne e1]; exact b1⟩
    · have h8 : ∀ x, x ∈ l1 ∨ x = f1 → x ≠ o := fun x hx h => by
        have p1 := (g1 x hx).1
        rw [h, po] at p1
        exact hg'.2 (by omega)
      have h7 : ∀ x, x ∈ l1 ∨ x = f1 → x ≠ b0 := fun x hx h => by
        have p1 := (g1 x hx).1
        rw [h, gb.1] at p1
        omega
      exact Or.inr ⟨l1, f1, a1, by rw [upN_ne e1]; exact b1, Sl_fr l1 f1 (fun x hx => by rw [upN_ne (h7 x hx), upN_ne (h8 x hx)]) c1, d1, fun x hx => by rw [upN_ne (h8 x hx)]; exact g1 x hx⟩
end FOR
