/-! What holds at the head of the reference's loop; how it is put together behind a step. -/
def Hv (s : Mm) (r : List It) : Prop := Tk s ∧ m_ct s ≤ 4096 ∧ m_wr s = 0 ∧ m_at s ≤ m_ct s ∧ FoS s ∧ Ar s r ∧ Stk s r [] ∧ Aj r ∧ m_dp s = sD r ∧ m_dp s ≤ 30 ∧ m_rw s = sR r ∧ m_md s + sM r ≤ 3 * m_at s + 7 * r.length + 10
/-- behind a step: something is wrong, or it holds again -/
def Qh (_ : Nat) (s : Mm) : Prop := (m_wr s ≠ 0 ∧ m_wr s ≤ 100000) ∨ ∃ R, Hv s R
theorem Stk_td {s : Mm} {v : Nat} : ∀ (r U : List It), Stk s r U → Stk (w_td s v) r U := by
  intro r
  induction r with
  | nil => intro U _; trivial
  | cons x r ih => intro U h; exact ⟨h.1, h.2.1, ih _ h.2.2⟩
/-- the state behind 'todo--' -/
theorem Hv_pop {s : Mm} {x : It} {r : List It} (H : Hv s (x :: r)) : Tk (w_td s (m_td s - 1)) ∧ m_ct s ≤ 4096 ∧ m_wr s = 0 ∧ m_at s ≤ m_ct s ∧ (∀ N, Cy N (w_td s (m_td s - 1)) (w_td s (m_td s - 1)) r) ∧ Stk (w_td s (m_td s - 1)) r [x] ∧ Aj (x :: r) ∧ m_dp s = dlt x.1 + sD r ∧ m_dp s ≤ 30 ∧ m_rw s = rho x.1 + sR r ∧ m_md s + mu7 x.1 + sM r ≤ 3 * m_at s + 7 * r.length + 17 ∧ m_td s - 1 = r.length ∧ r.length ≤ 494 ∧ m_md s ≤ 16000 ∧ Io (w_td s (m_td s - 1)) x ∧ Nd (w_td s (m_td s - 1)) x [] := by
  obtain ⟨h1, h2, h3, h4, h5, h6, h7, h8, h9, h10, h11, h12⟩ := H
  obtain ⟨k, k1, k2, k3, k4, k5⟩ := h6
  have kl := Arr_len r k k5
  have hA : Ar (w_td s (m_td s - 1)) r := by
    show Arr (m_dz s) (m_no s) (m_tr s) (m_td s - 1) r
    rw [k1, Nat.add_sub_cancel]; exact k5
  have hl := Aj_max h8
  have e1 : sD (x :: r) = dlt x.1 + sD r := rfl
  have e2 : (x :: r).length = r.length + 1 := rfl
  have e3 : sM (x :: r) = mu7 x.1 + sM r := rfl
  have hE : ∀ N, Ex N (w_td s (m_td s - 1)) (w_td s (m_td s - 1)) := fun N => Ex.same h5 rfl rfl rfl rfl rfl rfl
  refine ⟨h1, h2, h3, h4, fun N => ⟨hE N, h5, hA, rfl, rfl⟩, Stk_td r [x] h7.2.2, h8, h9, h10, h11, by omega, by omega, by omega, by omega, h7.1, h7.2.1⟩
theorem Hv_mk {s0 s : Mm} {N : Nat} {R : List It} (C : Cy N s0 s R) (ht : Tk s0) (h2 : m_ct s ≤ 4096) (h3 : m_wr s = 0) (h4 : m_at s ≤ m_ct s) (h5 : Stk s R []) (h6 : Aj R) (h7 : m_dp s = sD R) (h8 : m_dp s ≤ 30) (h9 : m_rw s = sR R) (h10 : m_md s + sM R ≤ 3 * m_at s + 7 * R.length + 10) : Qh 0 s := Or.inr ⟨R, C.tk ht, h2, h3, h4, C.2.1, C.2.2.1, h5, h6, h7, h8, h9, h10⟩
/-- not 50; has a child: said so that omega passes them over -/
def W5 (s : Mm) (q : Nat) : Prop := m_wh s q ≠ 50
def Fz (s : Mm) (q : Nat) : Prop := m_fi s q ≠ 0
def Mo (n : Nat) (up : List It) : Prop := ∀ y, y ∈ up → nk y.1 = true → n ≤ y.2.1
theorem Mo_nil {n : Nat} : Mo n [] := fun _ h => absurd h List.not_mem_nil
theorem Mo_cons {n : Nat} {x : It} {up : List It} (h : nk x.1 = true → n ≤ x.2.1) (g : Mo n up) : Mo n (x :: up) := fun y hy k => by
  rcases List.mem_cons.mp hy with rfl | hy
  · exact h k
  · exact g y hy k
def spc (d : Nat) : Bool := d == 2 || d == 4 || d == 42 || d == 50 || d == 5 || d == 43 || d == 44 || d == 46 || d == 49
theorem Nd_0 {s : Mm} {d n t : Nat} {up : List It} (hd : spc d = false) (hm : Mo n up) : Nd s (d, n, t) up := by
  unfold spc at hd
  simp only [Bool.or_eq_false_iff, beq_eq_false_iff_ne] at hd
  obtain ⟨⟨⟨⟨⟨⟨⟨⟨a1, a2⟩, a3⟩, a4⟩, a5⟩, a6⟩, a7⟩, a8⟩, a9⟩ := hd
  refine ⟨fun y hy _ k => hm y hy k, fun q => ?_, fun q => absurd q a5, fun q => absurd q a6, fun q => ?_⟩
  · rcases q with q | q | q | q
    · exact absurd q a1
    · exact absurd q a2
    · exact absurd q a3
    · exact absurd q a4
  · rcases q with q | q | q
    · exact absurd q a7
    · exact absurd q a8
    · exact absurd q a9
theorem Nd_x {s : Mm} {d n t : Nat} {up : List It} (hd : nk d = false) : Nd s (d, n, t) up := by
  have h9 : d = 6 ∨ d = 7 ∨ d = 8 := by
    unfold nk at hd
    simp only [Bool.not_eq_false', Bool.or_eq_true, beq_iff_eq] at hd
    omega
  refine ⟨fun y hy k => ?_, fun q => ?_, fun q => ?_, fun q => ?_, fun q => ?_⟩
  · have k : nk d = true := k
    rw [hd] at k; cases k
  · have q : d = 2 ∨ d = 4 ∨ d = 42 ∨ d = 50 := q; omega
  · have q : d = 5 := q; omega
  · have q : d = 43 := q; omega
  · have q : d = 44 ∨ d = 46 ∨ d = 49 := q; omega
theorem Nd_A {s : Mm} {d n t : Nat} {up : List It} (hd : d = 2 ∨ d = 4 ∨ d = 42 ∨ d = 50) (hm : Mo n up) (h : m_fi s n ≠ 0 ∨ Fl n up) : Nd s (d, n, t) up := by
  refine ⟨fun y hy _ k => hm y hy k, fun _ => h, fun q => ?_, fun q => ?_, fun q => ?_⟩
  · have q : d = 5 := q; omega
  · have q : d = 43 := q; omega
  · have q : d = 44 ∨ d = 46 ∨ d = 49 := q; omega
theorem Nd_5 {s : Mm} {n t : Nat} {up : List It} (hm : Mo n up) (h : (∃ t, fn up = some (18, n, t)) ∨ N5 s n up) : Nd s (5, n, t) up := by
  refine ⟨fun y hy _ k => hm y hy k, fun q => ?_, fun _ => h, fun q => ?_, fun q => ?_⟩
  · have q : 5 = 2 ∨ 5 = 4 ∨ 5 = 42 ∨ 5 = 50 := q; omega
  · have q : 5 = 43 := q; omega
  · have q : 5 = 44 ∨ 5 = 46 ∨ 5 = 49 := q; omega
theorem Io_n {s : Mm} {d n t : Nat} (hd : d ≠ 2 ∧ d ≠ 42 ∧ d ≠ 48 ∧ d ≠ 27 ∧ d ≠ 7 ∧ d ≠ 8) (ht : t < 4096) (hm : n < m_md s) (hg : GdS s n) (hw : m_wh s n ≠ 50) (hu : upk d = true → Up s n) (h8 : d = 33 ∨ d = 34 ∨ d = 35 → t ≤ 8) : Io s (d, n, t) := by
  obtain ⟨a1, a2, a3, a4, a5, a6⟩ := hd
  refine ⟨⟨fun _ _ => ht, fun q => absurd q a1, fun q => absurd q a2, fun q => absurd q a3, fun q => absurd q a4, fun q => ?_, h8⟩, fun _ => ⟨hm, hg, hw⟩, hu⟩
  rcases q with q | q
  · exact absurd q a5
  · exact absurd q a6
theorem Io_2 {s : Mm} {n t : Nat} (ht : t < 4096) (h1 : 1 ≤ t / 256) (h2 : t / 256 ≤ 6) (hm : n < m_md s) (hg : GdS s n) (hw : m_wh s n ≠ 50) : Io s (2, n, t) := by
  refine ⟨⟨fun _ _ => ht, fun _ => ⟨h1, h2⟩, fun q => ?_, fun q => ?_, fun q => ?_, fun q => ?_, fun q => ?_⟩, fun _ => ⟨hm, hg, hw⟩, fun q => by cases q⟩
  · have q : 2 = 42 := q; omega
  · have q : 2 = 48 := q; omega
  · have q : 2 = 27 := q; omega
  · have q : 2 = 7 ∨ 2 = 8 := q; omega
  · have q : 2 = 33 ∨ 2 = 34 ∨ 2 = 35 := q; omega
theorem Io_78 {s : Mm} {d n t : Nat} (hd : d = 7 ∨ d = 8) (ht : t < 4096) (hn : n < 128) : Io s (d, n, t) := by
  refine ⟨⟨fun _ _ => ht, fun q => ?_, fun q => ?_, fun q => ?_, fun q => ?_, fun _ => hn, fun q => ?_⟩, fun q => ?_, fun q => ?_⟩
  · have q : d = 2 := q; omega
  · have q : d = 42 := q; omega
  · have q : d = 48 := q; omega
  · have q : d = 27 := q; omega
  · have q : d = 33 ∨ d = 34 ∨ d = 35 := q; omega
  · rcases hd with rfl | rfl <;> cases q
  · rcases hd with rfl | rfl <;> cases q
theorem Io_6 {s : Mm} {n t : Nat} (ht : t < 4096) : Io s (6, n, t) := by
  refine ⟨⟨fun _ _ => ht, fun q => ?_, fun q => ?_, fun q => ?_, fun q => ?_, fun q => ?_, fun q => ?_⟩, fun q => (by cases q), fun q => (by cases q)⟩
  · have q : 6 = 2 := q; omega
  · have q : 6 = 42 := q; omega
  · have q : 6 = 48 := q; omega
  · have q : 6 = 27 := q; omega
  · have q : 6 = 7 ∨ 6 = 8 := q; omega
  · have q : 6 = 33 ∨ 6 = 34 ∨ 6 = 35 := q; omega
theorem Io_27 {s : Mm} {n t : Nat} (ht : t = 26 ∨ t = 28) (hm : n < m_md s) (hg : GdS s n) (hw : m_wh s n ≠ 50) : Io s (27, n, t) := by
  refine ⟨⟨fun _ _ => ?_, fun q => ?_, fun q => ?_, fun q => ?_, fun _ => ht, fun q => ?_, fun q => ?_⟩, fun _ => ⟨hm, hg, hw⟩, fun q => by cases q⟩
  · show t < 4096; omega
  · have q : 27 = 2 := q; omega
  · have q : 27 = 42 := q; omega
  · have q : 27 = 48 := q; omega
  · have q : 27 = 7 ∨ 27 = 8 := q; omega
  · have q : 27 = 33 ∨ 27 = 34 ∨ 27 = 35 := q; omega
theorem Aj_sub {x y : It} {r : List It} (h : Aj (x :: r)) (hr : rkI y.1 y.2.1 y.2.2 ≤ rkI x.1 x.2.1 x.2.2) : Aj (y :: r) := by
  cases r with
  | nil => trivial
  | cons z r =>
    refine ⟨?_, h.2⟩
    rcases h.1 with q | q
    · exact Or.inl q
    · exact Or.inr (by omega)
theorem Aj_up {x y : It} {r : List It} (h : Aj (y :: r)) (q : 1 ≤ dlt y.1 ∨ rkI x.1 x.2.1 x.2.2 < rkI y.1 y.2.1 y.2.2) : Aj (x :: y :: r) := ⟨q, h⟩
/-- truths of a BINARY: t below 256 and how strong the sign must be -/
theorem or_256 {a b : Nat} (ha : a < 256) : (a ||| b * 256) / 256 = b ∧ (a ||| b * 256) < (b + 1) * 256 := by
  have h : a ||| b * 256 = b * 256 + a := by
    rw [Nat.or_comm, show b * 256 = b <<< 8 by rw [Nat.shiftLeft_eq], ← Nat.shiftLeft_add_eq_or_of_lt (by omega : a < 2 ^ 8)]
  rw [h]
  omega
