/-! What holds of the items on the stack; a step on the top keeps it for those below. -/
def nk (d : Nat) : Bool := !(d == 6 || d == 7 || d == 8)
def upk (d : Nat) : Bool := d == 39 || d == 40 || d == 41 || d == 42 || d == 43 || d == 44 || d == 46 || d == 49 || d == 50 || d == 59
/-- somebody above makes a child of n -/
def Fl (n : Nat) (up : List It) : Prop := ∃ y, y ∈ up ∧ y.2.1 = n ∧ (y.1 = 3 ∨ y.1 = 18 ∨ y.1 = 41)
/-- the nearest item that works on a node -/
def fn : List It → Option It
  | [] => none
  | x :: r => if nk x.1 = true then some x else fn r
/-- nobody above works on n -/
def Ab (n : Nat) (up : List It) : Prop := ∀ y, fn up = some y → n < y.2.1
def tb (s : Mm) (x : It) : Prop := (x.1 ≠ 42 → x.1 ≠ 48 → x.2.2 < 4096) ∧ (x.1 = 2 → 1 ≤ x.2.2 / 256 ∧ x.2.2 / 256 ≤ 6) ∧ (x.1 = 42 → x.2.2 < 2097152) ∧ (x.1 = 48 → x.2.2 < m_md s) ∧ (x.1 = 27 → x.2.2 = 26 ∨ x.2.2 = 28) ∧ (x.1 = 7 ∨ x.1 = 8 → 0 < x.2.1 ∧ x.2.1 < 128) ∧ ((x.1 = 33 ∨ x.1 = 34 ∨ x.1 = 35 → x.2.2 ≤ 8) ∧ (x.1 = 41 → x.2.2 < 256))
def Io (s : Mm) (x : It) : Prop := tb s x ∧ (nk x.1 = true → x.2.1 < m_md s ∧ GdS s x.2.1 ∧ m_wh s x.2.1 ≠ 50) ∧ (upk x.1 = true → Up s x.2.1) ∧ (nk x.1 = true → m_pa s x.2.1 ≤ x.2.1)
def N5 (s : Mm) (n : Nat) (up : List It) : Prop := m_fi s n ≠ 0 ∧ Ab n up ∧ (m_wh s (m_la s n - 1) = 21 → m_fi s (m_la s n - 1) ≠ 0 ∨ Fl (m_la s n - 1) up)
def N44 (s : Mm) (n : Nat) (up : List It) : Prop := m_fi s n ≠ 0 ∧ Ab n up ∧ H50 s n
/-- a 56 that waits for what its 13 becomes -/
def N56 (s : Mm) (n : Nat) (up : List It) : Prop := m_fi s n ≠ 0 ∧ m_fi s n ≤ n ∧ m_fi s n < m_la s n ∧ m_pa s n < m_fi s n ∧ (m_pa s n ≠ 0 ∧ m_wh s (m_pa s n - 1) ≠ 50) ∧ (∀ y, fn up = some y → m_la s n ≤ y.2.1 + 1) ∧ n + 1 < m_la s n ∧ (GdS s (m_la s n - 1) ∧ m_wh s (m_la s n - 1) ≠ 50 ∧ Up s (m_la s n - 1) ∧ U69 s (m_la s n - 1)) ∧ (m_fi s (m_la s n - 1) ≠ 0 ∨ Fl (m_la s n - 1) up)
def Nd (s : Mm) (x : It) (up : List It) : Prop := (∀ y, y ∈ up → nk x.1 = true → nk y.1 = true → x.2.1 ≤ y.2.1) ∧
  (x.1 = 2 ∨ x.1 = 4 ∨ x.1 = 42 ∨ x.1 = 50 → m_fi s x.2.1 ≠ 0 ∨ Fl x.2.1 up) ∧
  (x.1 = 5 → (∃ t, fn up = some (18, x.2.1, t)) ∨ N5 s x.2.1 up) ∧
  (x.1 = 43 → m_fi s x.2.1 ≠ 0 ∧ Ab x.2.1 up ∧ m_la s x.2.1 ≠ 0 ∧ GdS s (m_la s x.2.1 - 1) ∧ m_wh s (m_la s x.2.1 - 1) ≠ 50) ∧
  (x.1 = 44 ∨ x.1 = 46 ∨ x.1 = 49 → (∃ y, fn up = some y ∧ y.2.1 = x.2.1 ∧ (y.1 = 41 ∨ y.1 = 42 ∨ y.1 = 43) ∧ y.2.2 &&& 16 = 0) ∨ N44 s x.2.1 up) ∧
  (x.1 = 56 → x.2.2 ≠ 0 → N56 s x.2.1 up) ∧
  (x.1 = 23 → up = [] ∧ lo s (m_at s) ≠ 0)
def Stk (s : Mm) : List It → List It → Prop
  | [], _ => True
  | x :: r, up => Io s x ∧ Nd s x up ∧ Stk s r (x :: up)
theorem fn_app : ∀ (u v : List It), fn (u ++ v) = match fn u with
    | some y => some y
    | none => fn v := by
  intro u v
  induction u with
  | nil => rfl
  | cons x u ih =>
    show (if nk x.1 = true then some x else fn (u ++ v)) = match (if nk x.1 = true then some x else fn u) with
      | some y => some y
      | none => fn v
    by_cases h : nk x.1 = true
    · rw [if_pos h, if_pos h]
    · rw [if_neg h, if_neg h]; exact ih
theorem fn_in : ∀ (u : List It) (y : It), fn u = some y → y ∈ u ∧ nk y.1 = true := by
  intro u
  induction u with
  | nil => intro y h; cases h
  | cons x u ih =>
    intro y h
    unfold fn at h
    by_cases hk : nk x.1 = true
    · rw [if_pos hk] at h; cases h; exact ⟨List.mem_cons_self, hk⟩
    · rw [if_neg hk] at h
      obtain ⟨h1, h2⟩ := ih y h
      exact ⟨List.mem_cons_of_mem _ h1, h2⟩
theorem Io_ex {N : Nat} {s s' : Mm} {x : It} (hE : Ex2 N s s') (hle : nk x.1 = true → x.2.1 ≤ N) (h : Io s x) : Io s' x := by
  obtain ⟨-, e2, e3, -, e5, -⟩ := hE
  obtain ⟨⟨t1, t2, t3, t4, t5, t6, t7⟩, h2, h3, h4⟩ := h
  refine ⟨⟨t1, t2, t3, fun q => by have := t4 q; omega, t5, t6, t7⟩, fun q => ?_, fun q => ?_, fun q => ?_⟩
  · obtain ⟨a, b, c⟩ := h2 q
    obtain ⟨c1, c2, -⟩ := e3 _ a
    have := h4 q
    have := hle q
    exact ⟨by omega, c2 c (by omega) b, c1 c⟩
  · have hk : nk x.1 = true := by
      unfold upk at q
      unfold nk
      simp only [Bool.or_eq_true, beq_iff_eq] at q
      rcases q with ((((((((q | q) | q) | q) | q) | q) | q) | q) | q) | q <;> (rw [q]; rfl)
    obtain ⟨a, b, c⟩ := h2 hk
    exact (e3 _ a).2.2.2.1 (h3 q)
  · obtain ⟨a, b, c⟩ := h2 q
    rw [e5 _ (hle q) a (h4 q)]; exact h4 q
/-- the step on the top item pop, which puts new in its place, is good for those below -/
theorem Stk_step {N : Nat} {s s' : Mm} {pop : It} {new : List It} (F : FoS s) (hE : Ex2 N s s') (hz : nk pop.1 = false → m_md s ≤ N)
    (hb : ∀ n, n < m_md s → Ab n [pop] → n < N) (hn : nk pop.1 = true → pop.2.1 = N) (hnew : ∀ y, y ∈ new → nk y.1 = true → nk pop.1 = true ∧ N ≤ y.2.1)
    (O1 : pop.1 = 3 ∨ pop.1 = 18 ∨ pop.1 = 41 → m_fi s' N ≠ 0 ∨ Fl N new)
    (O5 : pop.1 = 18 → (∃ t, fn new = some (18, N, t)) ∨ N5 s' N new)
    (O44 : pop.1 = 41 ∨ pop.1 = 42 ∨ pop.1 = 43 → pop.2.2 &&& 16 = 0 → (∃ y, fn new = some y ∧ y.2.1 = N ∧ (y.1 = 41 ∨ y.1 = 42 ∨ y.1 = 43) ∧ y.2.2 &&& 16 = 0) ∨ N44 s' N new) :
    ∀ (r U : List It), (∀ y, y ∈ U → nk y.1 = true → nk pop.1 = true → y.2.1 ≤ N) → Stk s r (U ++ [pop]) → Stk s' r (U ++ new) := by
  obtain ⟨F', e2, e3, e4, e5, e6, -⟩ := id hE
  have hnk : pop.1 = 3 ∨ pop.1 = 18 ∨ pop.1 = 41 ∨ pop.1 = 42 ∨ pop.1 = 43 → nk pop.1 = true := by
    rintro (q | q | q | q | q) <;> (rw [q]; rfl)
  -- nobody above: also after the step
  have hAb : ∀ n U, (∀ y, y ∈ U → nk y.1 = true → nk pop.1 = true → y.2.1 ≤ N) → n < m_md s → Ab n (U ++ [pop]) → Ab n (U ++ new) ∧ n < N := by
    intro n U hU9 hm h
    unfold Ab at h ⊢
    rw [fn_app] at h ⊢
    cases hU : fn U with
    | some z =>
      rw [hU] at h
      obtain ⟨m1, m2⟩ := fn_in U z hU
      refine ⟨fun y hy => h y hy, ?_⟩
      have h1 := h z rfl
      by_cases hp : nk pop.1 = true
      · have := hU9 z m1 m2 hp; omega
      · refine hb n hm (fun y hy => ?_)
        have h7 := fn_in [pop] y hy
        rw [List.mem_singleton.mp h7.1] at h7
        exact absurd h7.2 hp
    | none =>
      rw [hU] at h
      have hl := hb n hm h
      refine ⟨fun y hy => ?_, hl⟩
      obtain ⟨m1, m2⟩ := fn_in new y hy
      have := (hnew y m1 m2).2
      omega
  have hFl : ∀ n U, Fl n (U ++ [pop]) → m_fi s' n ≠ 0 ∨ Fl n (U ++ new) := by
    rintro n U ⟨y, hy, h1, h2⟩
    rcases List.mem_append.mp hy with hy | hy
    · exact Or.inr ⟨y, List.mem_append.mpr (Or.inl hy), h1, h2⟩
    · have hy := List.mem_singleton.mp hy
      subst hy
      have hN := hn (hnk (by rcases h2 with q | q | q <;> simp [q]))
      rw [hN] at h1
      rcases O1 h2 with q | ⟨z, z1, z2, z3⟩
      · exact Or.inl (by rw [← h1]; exact q)
      · exact Or.inr ⟨z, List.mem_append.mpr (Or.inr z1), by rw [z2, h1], z3⟩
  intro r
  induction r with
  | nil => intro U _ _; trivial
  | cons x r ih =>
    intro U hU9 h
    obtain ⟨hI, hD, hS⟩ := h
    obtain ⟨d0, d1, d2, d3, d4, d5, d6⟩ := hD
    have hxN : nk x.1 = true → x.2.1 ≤ N := by
      intro k
      by_cases hp : nk pop.1 = true
      · have := d0 pop (List.mem_append.mpr (Or.inr List.mem_cons_self)) k hp
        rw [hn hp] at this; exact this
      · have := hz (by cases h9 : nk pop.1 with
          | true => exact absurd h9 hp
          | false => rfl)
        have := (hI.2.1 k).1
        omega
    refine ⟨Io_ex hE hxN hI, ?_, ih (x :: U) (fun y hy k1 k2 => ?_) hS⟩
    case refine_2 =>
      rcases List.mem_cons.mp hy with rfl | hy
      · have := d0 pop (List.mem_append.mpr (Or.inr List.mem_cons_self)) k1 k2
        rw [hn k2] at this
        exact this
      · exact hU9 y hy k1 k2
    have hIn := hI.2.1
    refine ⟨?_, ?_, ?_, ?_, ?_, ?_, fun q => absurd (d6 q).1 (by simp)⟩
    · intro y hy k1 k2
      rcases List.mem_append.mp hy with hy | hy
      · exact d0 y (List.mem_append.mpr (Or.inl hy)) k1 k2
      · obtain ⟨p1, p2⟩ := hnew y hy k2
        have := d0 pop (List.mem_append.mpr (Or.inr List.mem_cons_self)) k1 p1
        rw [hn p1] at this
        omega
    · intro q
      have k1 : nk x.1 = true := by rcases q with q | q | q | q <;> (rw [q]; rfl)
      obtain ⟨a, b, c⟩ := hIn k1
      rcases d1 q with w | w
      · exact Or.inl ((e3 _ a).2.2.1 w)
      · exact hFl _ U w
    · intro q
      have k1 : nk x.1 = true := by rw [q]; rfl
      obtain ⟨a, b, c⟩ := hIn k1
      rcases d2 q with ⟨t, w⟩ | ⟨w1, w2, w3⟩
      · rw [fn_app] at w
        cases hU : fn U with
        | some z =>
          rw [hU] at w
          exact Or.inl ⟨t, by rw [fn_app, hU]; exact w⟩
        | none =>
          rw [hU] at w
          obtain ⟨m1, m2⟩ := fn_in [pop] _ w
          have m1 := List.mem_singleton.mp m1
          have p1 : pop.1 = 18 := by rw [← m1]
          have p2 : pop.2.1 = x.2.1 := by rw [← m1]
          have hN : x.2.1 = N := by rw [← p2]; exact hn (by rw [p1]; rfl)
          rcases O5 p1 with ⟨t2, o⟩ | ⟨o1, o2, o3⟩
          · exact Or.inl ⟨t2, by rw [fn_app, hU, hN]; exact o⟩
          · refine Or.inr ⟨by rw [hN]; exact o1, ?_, ?_⟩
            · unfold Ab; rw [fn_app, hU, hN]; exact o2
            · rw [hN]
              intro g
              rcases o3 g with o | ⟨z, z1, z2, z3⟩
              · exact Or.inl o
              · exact Or.inr ⟨z, List.mem_append.mpr (Or.inr z1), z2, z3⟩
      · obtain ⟨v1, hlt⟩ := hAb x.2.1 U hU9 a w2
        refine Or.inr ⟨(e3 _ a).2.2.1 w1, v1, ?_⟩
        have la := (e4 _ hlt a b c).1
        rw [la]
        intro g
        have hla : m_la s x.2.1 ≠ 0 := by
          obtain ⟨l, e, _, b9, _⟩ := Fo_ch F a b w1
          omega
        have hk := (Fo_la F a b hla).1
        rcases w3 ((e3 _ hk).2.2.2.2 g) with o | o
        · exact Or.inl ((e3 _ hk).2.2.1 o)
        · exact hFl _ U o
    · intro q
      have k1 : nk x.1 = true := by rw [q]; rfl
      obtain ⟨a, b, c⟩ := hIn k1
      obtain ⟨w1, w2, w3, w4, w5⟩ := d3 q
      obtain ⟨v1, hlt⟩ := hAb x.2.1 U hU9 a w2
      have la := (e4 _ hlt a b c).1
      obtain ⟨hk, hk2⟩ := Fo_la F a b w3
      obtain ⟨c1, c2, -⟩ := e3 _ hk
      rw [la]
      exact ⟨(e3 _ a).2.2.1 w1, v1, w3, c2 w5 (by omega) w4, c1 w5⟩
    · intro q
      have k1 : nk x.1 = true := by rcases q with q | q | q <;> (rw [q]; rfl)
      obtain ⟨a, b, c⟩ := hIn k1
      rcases d4 q with ⟨y, w, w1, w2, w9⟩ | ⟨w1, w2, w3⟩
      · rw [fn_app] at w
        cases hU : fn U with
        | some z =>
          rw [hU] at w
          exact Or.inl ⟨y, by rw [fn_app, hU]; exact w, w1, w2, w9⟩
        | none =>
          rw [hU] at w
          obtain ⟨m1, m2⟩ := fn_in [pop] _ w
          have m1 := List.mem_singleton.mp m1
          subst m1
          have hN : x.2.1 = N := by rw [← w1]; exact hn m2
          rcases O44 w2 w9 with ⟨z, o, o1, o2⟩ | ⟨o1, o2, o3⟩
          · exact Or.inl ⟨z, by rw [fn_app, hU]; exact o, by rw [o1, hN], o2⟩
          · refine Or.inr ⟨by rw [hN]; exact o1, ?_, by rw [hN]; exact o3⟩
            unfold Ab; rw [fn_app, hU, hN]; exact o2
      · obtain ⟨v1, hlt⟩ := hAb x.2.1 U hU9 a w2
        exact Or.inr ⟨(e3 _ a).2.2.1 w1, v1, (e4 _ hlt a b c).2.1 w3⟩
    · intro q q0
      have k1 : nk x.1 = true := by rw [q]; rfl
      obtain ⟨a, b, c⟩ := hIn k1
      have hpx := hI.2.2.2 k1
      obtain ⟨w1, w2, w3, w4, ⟨w5, w6⟩, w7, w8, ⟨w9, w10, w11, w12⟩, w13⟩ := d5 q q0
      -- the 13 stands at or below the place of the step
      have hAb9 : Ab (m_la s x.2.1 - 1 - 1) (U ++ [pop]) := fun y hy => by have := w7 y hy; omega
      obtain ⟨hk, hk2⟩ := Fo_la F a b (by omega)
      have hlt := (hAb _ U hU9 (by omega) hAb9).2
      have hxl : x.2.1 < N := by omega
      obtain ⟨la, -, fi⟩ := e4 _ hxl a b c
      have pa := e5 _ (by omega) a hpx
      obtain ⟨c1, c2, c3, c4, -⟩ := e3 _ hk
      refine ⟨by rw [fi]; exact w1, by rw [fi]; exact w2, by rw [fi, la]; exact w3, by rw [pa, fi]; exact w4, ⟨by rw [pa]; exact w5, by rw [pa]; exact (e3 _ (by omega)).1 w6⟩, ?_, by rw [la]; exact w8, ?_, ?_⟩
      · intro y hy
        rw [la]
        rw [fn_app] at hy
        cases hU : fn U with
        | some z =>
          rw [hU] at hy
          exact w7 y (by rw [fn_app, hU]; exact hy)
        | none =>
          rw [hU] at hy
          obtain ⟨m1, m2⟩ := fn_in new y hy
          have := (hnew y m1 m2).2
          omega
      · rw [la]
        exact ⟨c2 w10 (by omega) w9, c1 w10, c4 w11, e6 _ (by omega) hk w9 w10 w11 w12⟩
      · rw [la]
        rcases w13 with w | w
        · exact Or.inl (c3 w)
        · exact hFl _ U w
