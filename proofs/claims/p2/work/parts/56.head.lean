/-! What holds at the head of the reference's loop; how it is put together behind a step. -/
def Hv (s : Mm) (r : List It) : Prop := Tk s ∧ m_ct s ≤ 4096 ∧ m_wr s = 0 ∧ m_at s ≤ m_ct s ∧ FoS s ∧ Ar s r ∧ Stk s r [] ∧ Aj r ∧ m_dp s = sD r ∧ m_dp s ≤ 30 ∧ m_rw s = sR r ∧ m_md s + sM r ≤ 3 * m_at s + 7 * r.length + 10 ∧ (Pb s ∧ Wb s) ∧ Tt s
/-- how much is still to do -/
def mz (s : Mm) (r : List It) : Nat := sW r + 6 * (4096 - m_at s) + 4 * (600 - r.length)
/-- behind a step: something is wrong, or it holds again, and less is to do -/
def Qh (m _ : Nat) (s : Mm) : Prop := (m_wr s ≠ 0 ∧ m_wr s ≤ 100000 ∧ m_ct s ≤ 4096) ∨ ∃ R, Hv s R ∧ mz s R < m
theorem Stk_td {s : Mm} {v : Nat} : ∀ (r U : List It), Stk s r U → Stk (w_td s v) r U := by
  intro r
  induction r with
  | nil => intro U _; trivial
  | cons x r ih => intro U h; exact ⟨h.1, h.2.1, ih _ h.2.2⟩
/-- an item is taken off and its step begins -/
def Hp (s : Mm) (x : It) (r : List It) : Prop := Tk s ∧ m_ct s ≤ 4096 ∧ m_wr s = 0 ∧ m_at s ≤ m_ct s ∧ FoS s ∧ Ar s r ∧ Stk s (x :: r) [] ∧ Aj (x :: r) ∧ m_dp s = sD (x :: r) ∧ m_dp s ≤ 30 ∧ m_rw s = sR (x :: r) ∧ m_md s + sM (x :: r) ≤ 3 * m_at s + 7 * (x :: r).length + 10 ∧ (Pb s ∧ Wb s) ∧ Tt s
/-- the state behind 'todo--' -/
theorem Hv_pop {s : Mm} {x : It} {r : List It} (H : Hv s (x :: r)) : Hp (w_td s (m_td s - 1)) x r := by
  obtain ⟨h1, h2, h3, h4, h5, h6, h7, h8, h9, h10, h11, h12, h13, h14⟩ := H
  obtain ⟨k, k1, k2, k3, k4, k5⟩ := h6
  refine ⟨h1, h2, h3, h4, h5, ?_, Stk_td _ [] h7, h8, h9, h10, h11, h12, h13, h14⟩
  show Arr (m_dz s) (m_no s) (m_tr s) (m_td s - 1) r
  rw [k1, Nat.add_sub_cancel]; exact k5
theorem Hp_out {s : Mm} {x : It} {r : List It} (H : Hp s x r) : Tk s ∧ m_ct s ≤ 4096 ∧ m_wr s = 0 ∧ m_at s ≤ m_ct s ∧ (∀ N, Cy N s s r) ∧ Stk s r [x] ∧ Aj (x :: r) ∧ m_dp s = dlt x.1 + sD r ∧ m_dp s ≤ 30 ∧ m_rw s = rho x.1 + sR r ∧ m_md s + mu7 x.1 + sM r ≤ 3 * m_at s + 7 * r.length + 17 ∧ m_td s = r.length ∧ r.length ≤ 494 ∧ m_md s ≤ 16000 ∧ Io s x ∧ Nd s x [] ∧ Tt s := by
  obtain ⟨h1, h2, h3, h4, h5, h6, h7, h8, h9, h10, h11, h12, h13, h14⟩ := H
  have kl := Arr_len r _ h6
  have hl := Aj_max h8
  have e1 : sD (x :: r) = dlt x.1 + sD r := rfl
  have e2 : (x :: r).length = r.length + 1 := rfl
  have e3 : sM (x :: r) = mu7 x.1 + sM r := rfl
  have hE : ∀ N, Ex N s s := fun N => Ex.same h5 rfl rfl rfl rfl rfl rfl
  exact ⟨h1, h2, h3, h4, fun N => ⟨hE N, h5, h6, rfl, rfl, h13.1, h13.2⟩, h7.2.2, h8, h9, h10, h11, by omega, by omega, by omega, by omega, h7.1, h7.2.1, h14⟩
theorem Hp_mk {s0 s : Mm} {N : Nat} {x : It} {R : List It} (T : Tt s) (C : Cy N s0 s R) (ht : Tk s0) (h2 : m_ct s ≤ 4096) (h3 : m_wr s = 0) (h4 : m_at s ≤ m_ct s) (h5 : Stk s (x :: R) []) (h6 : Aj (x :: R)) (h7 : m_dp s = sD (x :: R)) (h8 : m_dp s ≤ 30) (h9 : m_rw s = sR (x :: R)) (h10 : m_md s + sM (x :: R) ≤ 3 * m_at s + 7 * (x :: R).length + 10) : Hp s x R := ⟨C.tk ht, h2, h3, h4, C.2.1, C.2.2.1, h5, h6, h7, h8, h9, h10, C.2.2.2.2.2, T⟩
theorem Qh_le {m m' v v' : Nat} {s : Mm} (h : m ≤ m') (q : Qh m v s) : Qh m' v' s := by
  rcases q with q | ⟨R, q, g⟩
  · exact Or.inl q
  · exact Or.inr ⟨R, q, by omega⟩
theorem Hv_mk {s0 s : Mm} {N : Nat} {R : List It} {m : Nat} (T : Tt s) (C : Cy N s0 s R) (ht : Tk s0) (h2 : m_ct s ≤ 4096) (h3 : m_wr s = 0) (h4 : m_at s ≤ m_ct s) (h5 : Stk s R []) (h6 : Aj R) (h7 : m_dp s = sD R) (h8 : m_dp s ≤ 30) (h9 : m_rw s = sR R) (h10 : m_md s + sM R ≤ 3 * m_at s + 7 * R.length + 10) (h11 : mz s R < m) : Qh m 0 s := Or.inr ⟨R, ⟨C.tk ht, h2, h3, h4, C.2.1, C.2.2.1, h5, h6, h7, h8, h9, h10, C.2.2.2.2.2, T⟩, h11⟩
/-- not 50; has a child: said so that omega passes them over -/
def W5 (s : Mm) (q : Nat) : Prop := m_wh s q ≠ 50
def Fz (s : Mm) (q : Nat) : Prop := m_fi s q ≠ 0
def Mo (n : Nat) (up : List It) : Prop := ∀ y, y ∈ up → nk y.1 = true → n ≤ y.2.1
theorem Mo_nil {n : Nat} : Mo n [] := fun _ h => absurd h List.not_mem_nil
theorem Mo_cons {n : Nat} {x : It} {up : List It} (h : nk x.1 = true → n ≤ x.2.1) (g : Mo n up) : Mo n (x :: up) := fun y hy k => by
  rcases List.mem_cons.mp hy with rfl | hy
  · exact h k
  · exact g y hy k
def spc (d : Nat) : Bool := d == 2 || d == 4 || d == 42 || d == 50 || d == 5 || d == 43 || d == 44 || d == 46 || d == 49 || d == 56 || d == 23
theorem Nd_0 {s : Mm} {d n t : Nat} {up : List It} (hd : spc d = false) (hm : Mo n up) : Nd s (d, n, t) up := by
  unfold spc at hd
  simp only [Bool.or_eq_false_iff, beq_eq_false_iff_ne] at hd
  obtain ⟨⟨⟨⟨⟨⟨⟨⟨⟨⟨a1, a2⟩, a3⟩, a4⟩, a5⟩, a6⟩, a7⟩, a8⟩, a9⟩, a10⟩, a11⟩ := hd
  refine ⟨fun y hy _ k => hm y hy k, fun q => ?_, fun q => absurd q a5, fun q => absurd q a6, fun q => ?_, fun q => absurd q a10, fun q => absurd q a11⟩
  · rcases q with q | q | q | q
    · exact absurd q a1
    · exact absurd q a2
    · exact absurd q a3
    · exact absurd q a4
  · rcases q with q | q | q
    · exact absurd q a7
    · exact absurd q a8
    · exact absurd q a9
theorem Nd_x {s : Mm} {d n t : Nat} {up : List It} (hd : nk d = false) : Nd s (d, n, t) up := by
  have h9 : d = 6 ∨ d = 7 ∨ d = 8 := by
    unfold nk at hd
    simp only [Bool.not_eq_false', Bool.or_eq_true, beq_iff_eq] at hd
    omega
  refine ⟨fun y hy k => ?_, fun q => ?_, fun q => ?_, fun q => ?_, fun q => ?_, fun q => ?_, fun q => ?_⟩
  · have k : nk d = true := k
    rw [hd] at k; cases k
  · have q : d = 2 ∨ d = 4 ∨ d = 42 ∨ d = 50 := q; omega
  · have q : d = 5 := q; omega
  · have q : d = 43 := q; omega
  · have q : d = 44 ∨ d = 46 ∨ d = 49 := q; omega
  · have q : d = 56 := q; omega
  · have q : d = 23 := q; omega
theorem Nd_A {s : Mm} {d n t : Nat} {up : List It} (hd : d = 2 ∨ d = 4 ∨ d = 42 ∨ d = 50) (hm : Mo n up) (h : m_fi s n ≠ 0 ∨ Fl n up) : Nd s (d, n, t) up := by
  refine ⟨fun y hy _ k => hm y hy k, fun _ => h, fun q => ?_, fun q => ?_, fun q => ?_, fun q => ?_, fun q => ?_⟩
  · have q : d = 5 := q; omega
  · have q : d = 43 := q; omega
  · have q : d = 44 ∨ d = 46 ∨ d = 49 := q; omega
  · have q : d = 56 := q; omega
  · have q : d = 23 := q; omega
theorem Nd_5 {s : Mm} {n t : Nat} {up : List It} (hm : Mo n up) (h : (∃ t, fn up = some (18, n, t)) ∨ N5 s n up) : Nd s (5, n, t) up := by
  refine ⟨fun y hy _ k => hm y hy k, fun q => ?_, fun _ => h, fun q => ?_, fun q => ?_, fun q => ?_, fun q => ?_⟩
  · have q : 5 = 2 ∨ 5 = 4 ∨ 5 = 42 ∨ 5 = 50 := q; omega
  · have q : 5 = 43 := q; omega
  · have q : 5 = 44 ∨ 5 = 46 ∨ 5 = 49 := q; omega
  · have q : 5 = 56 := q; omega
  · have q : 5 = 23 := q; omega
theorem Nd_43 {s : Mm} {n t : Nat} {up : List It} (hm : Mo n up) (h : m_fi s n ≠ 0 ∧ Ab n up ∧ m_la s n ≠ 0 ∧ GdS s (m_la s n - 1) ∧ m_wh s (m_la s n - 1) ≠ 50) : Nd s (43, n, t) up := by
  refine ⟨fun y hy _ k => hm y hy k, fun q => ?_, fun q => ?_, fun _ => h, fun q => ?_, fun q => ?_, fun q => ?_⟩
  · have q : 43 = 2 ∨ 43 = 4 ∨ 43 = 42 ∨ 43 = 50 := q; omega
  · have q : 43 = 5 := q; omega
  · have q : 43 = 44 ∨ 43 = 46 ∨ 43 = 49 := q; omega
  · have q : 43 = 56 := q; omega
  · have q : 43 = 23 := q; omega
theorem Nd_23 {s : Mm} {n t : Nat} (h : lo s (m_at s) ≠ 0) : Nd s (23, n, t) [] := by
  refine ⟨fun y hy => absurd hy List.not_mem_nil, fun q => ?_, fun q => ?_, fun q => ?_, fun q => ?_, fun q => ?_, fun _ => ⟨rfl, h⟩⟩
  · have q : 23 = 2 ∨ 23 = 4 ∨ 23 = 42 ∨ 23 = 50 := q; omega
  · have q : 23 = 5 := q; omega
  · have q : 23 = 43 := q; omega
  · have q : 23 = 44 ∨ 23 = 46 ∨ 23 = 49 := q; omega
  · have q : 23 = 56 := q; omega
theorem Nd_44 {s : Mm} {d n t : Nat} {up : List It} (hd : d = 44 ∨ d = 46 ∨ d = 49) (hm : Mo n up) (h : ∃ y, fn up = some y ∧ y.2.1 = n ∧ (y.1 = 41 ∨ y.1 = 42 ∨ y.1 = 43) ∧ y.2.2 &&& 16 = 0) : Nd s (d, n, t) up := by
  refine ⟨fun y hy _ k => hm y hy k, fun q => ?_, fun q => ?_, fun q => ?_, fun _ => Or.inl h, fun q => ?_, fun q => ?_⟩
  · have q : d = 2 ∨ d = 4 ∨ d = 42 ∨ d = 50 := q; omega
  · have q : d = 5 := q; omega
  · have q : d = 43 := q; omega
  · have q : d = 56 := q; omega
  · have q : d = 23 := q; omega
theorem Nd_56 {s : Mm} {n t : Nat} {up : List It} (hm : Mo n up) (h : t ≠ 0 → N56 s n up) : Nd s (56, n, t) up := by
  refine ⟨fun y hy _ k => hm y hy k, fun q => ?_, fun q => ?_, fun q => ?_, fun q => ?_, fun _ q => h q, fun q => ?_⟩
  · have q : 56 = 2 ∨ 56 = 4 ∨ 56 = 42 ∨ 56 = 50 := q; omega
  · have q : 56 = 5 := q; omega
  · have q : 56 = 43 := q; omega
  · have q : 56 = 44 ∨ 56 = 46 ∨ 56 = 49 := q; omega
  · have q : 56 = 23 := q; omega
theorem Io_n {s : Mm} {d n t : Nat} (hd : d ≠ 2 ∧ d ≠ 42 ∧ d ≠ 48 ∧ d ≠ 27 ∧ d ≠ 7 ∧ d ≠ 8 ∧ d ≠ 41) (ht : t < 4096) (hm : n < m_md s) (hg : GdS s n) (hw : m_wh s n ≠ 50) (hu : upk d = true → Up s n) (h8 : d = 33 ∨ d = 34 ∨ d = 35 → t ≤ 8) (hp : m_pa s n ≤ n) : Io s (d, n, t) := by
  obtain ⟨a1, a2, a3, a4, a5, a6, a7⟩ := hd
  refine ⟨⟨fun _ _ => ht, fun q => absurd q a1, fun q => absurd q a2, fun q => absurd q a3, fun q => absurd q a4, fun q => ?_, h8, fun q => absurd q a7⟩, fun _ => ⟨hm, hg, hw⟩, hu, fun _ => hp⟩
  rcases q with q | q
  · exact absurd q a5
  · exact absurd q a6
theorem Io_2 {s : Mm} {n t : Nat} (ht : t < 4096) (h1 : 1 ≤ t / 256) (h2 : t / 256 ≤ 6) (hm : n < m_md s) (hg : GdS s n) (hw : m_wh s n ≠ 50) (hp : m_pa s n ≤ n) : Io s (2, n, t) := by
  refine ⟨⟨fun _ _ => ht, fun _ => ⟨h1, h2⟩, fun q => ?_, fun q => ?_, fun q => ?_, fun q => ?_, ?_⟩, fun _ => ⟨hm, hg, hw⟩, fun q => (by cases q), fun _ => hp⟩
  · have q : 2 = 42 := q; omega
  · have q : 2 = 48 := q; omega
  · have q : 2 = 27 := q; omega
  · have q : 2 = 7 ∨ 2 = 8 := q; omega
  · refine ⟨fun q => ?_, fun q => ?_⟩
    · have q : 2 = 33 ∨ 2 = 34 ∨ 2 = 35 := q; omega
    · have q : 2 = 41 := q; omega
theorem Io_78 {s : Mm} {d n t : Nat} (hd : d = 7 ∨ d = 8) (ht : t < 4096) (hn : 0 < n ∧ n < 128) : Io s (d, n, t) := by
  refine ⟨⟨fun _ _ => ht, fun q => ?_, fun q => ?_, fun q => ?_, fun q => ?_, fun _ => hn, ?_⟩, fun q => ?_, fun q => ?_, fun q => ?_⟩
  · have q : d = 2 := q; omega
  · have q : d = 42 := q; omega
  · have q : d = 48 := q; omega
  · have q : d = 27 := q; omega
  · refine ⟨fun q => ?_, fun q => ?_⟩
    · have q : d = 33 ∨ d = 34 ∨ d = 35 := q; omega
    · have q : d = 41 := q; omega
  · rcases hd with rfl | rfl <;> cases q
  · rcases hd with rfl | rfl <;> cases q
  · rcases hd with rfl | rfl <;> cases q
theorem Io_6 {s : Mm} {n t : Nat} (ht : t < 4096) : Io s (6, n, t) := by
  refine ⟨⟨fun _ _ => ht, fun q => ?_, fun q => ?_, fun q => ?_, fun q => ?_, fun q => ?_, ?_⟩, fun q => (by cases q), fun q => (by cases q), fun q => (by cases q)⟩
  · have q : 6 = 2 := q; omega
  · have q : 6 = 42 := q; omega
  · have q : 6 = 48 := q; omega
  · have q : 6 = 27 := q; omega
  · have q : 6 = 7 ∨ 6 = 8 := q; omega
  · refine ⟨fun q => ?_, fun q => ?_⟩
    · have q : 6 = 33 ∨ 6 = 34 ∨ 6 = 35 := q; omega
    · have q : 6 = 41 := q; omega
theorem Io_27 {s : Mm} {n t : Nat} (ht : t = 26 ∨ t = 28) (hm : n < m_md s) (hg : GdS s n) (hw : m_wh s n ≠ 50) (hp : m_pa s n ≤ n) : Io s (27, n, t) := by
  refine ⟨⟨fun _ _ => ?_, fun q => ?_, fun q => ?_, fun q => ?_, fun _ => ht, fun q => ?_, ?_⟩, fun _ => ⟨hm, hg, hw⟩, fun q => (by cases q), fun _ => hp⟩
  · show t < 4096; omega
  · have q : 27 = 2 := q; omega
  · have q : 27 = 42 := q; omega
  · have q : 27 = 48 := q; omega
  · have q : 27 = 7 ∨ 27 = 8 := q; omega
  · refine ⟨fun q => ?_, fun q => ?_⟩
    · have q : 27 = 33 ∨ 27 = 34 ∨ 27 = 35 := q; omega
    · have q : 27 = 41 := q; omega
theorem Io_41 {s : Mm} {n t : Nat} (ht : t < 256) (hm : n < m_md s) (hg : GdS s n) (hw : m_wh s n ≠ 50) (hu : Up s n) (hp : m_pa s n ≤ n) : Io s (41, n, t) := by
  refine ⟨⟨fun _ _ => ?_, fun q => ?_, fun q => ?_, fun q => ?_, fun q => ?_, fun q => ?_, ?_⟩, fun _ => ⟨hm, hg, hw⟩, fun _ => hu, fun _ => hp⟩
  · show t < 4096; omega
  · have q : 41 = 2 := q; omega
  · have q : 41 = 42 := q; omega
  · have q : 41 = 48 := q; omega
  · have q : 41 = 27 := q; omega
  · have q : 41 = 7 ∨ 41 = 8 := q; omega
  · refine ⟨fun q => ?_, fun _ => ht⟩
    have q : 41 = 33 ∨ 41 = 34 ∨ 41 = 35 := q; omega
theorem Io_42 {s : Mm} {n t : Nat} (ht : t < 2097152) (hm : n < m_md s) (hg : GdS s n) (hw : m_wh s n ≠ 50) (hu : Up s n) (hp : m_pa s n ≤ n) : Io s (42, n, t) := by
  refine ⟨⟨fun q => ?_, fun q => ?_, fun _ => ht, fun q => ?_, fun q => ?_, fun q => ?_, ?_⟩, fun _ => ⟨hm, hg, hw⟩, fun _ => hu, fun _ => hp⟩
  · exact absurd rfl q
  · have q : 42 = 2 := q; omega
  · have q : 42 = 48 := q; omega
  · have q : 42 = 27 := q; omega
  · have q : 42 = 7 ∨ 42 = 8 := q; omega
  · refine ⟨fun q => ?_, fun q => ?_⟩
    · have q : 42 = 33 ∨ 42 = 34 ∨ 42 = 35 := q; omega
    · have q : 42 = 41 := q; omega
theorem Io_48 {s : Mm} {n t : Nat} (ht : t < m_md s) (hm : n < m_md s) (hg : GdS s n) (hw : m_wh s n ≠ 50) (hp : m_pa s n ≤ n) : Io s (48, n, t) := by
  refine ⟨⟨fun _ q => ?_, fun q => ?_, fun q => ?_, fun _ => ht, fun q => ?_, fun q => ?_, ?_⟩, fun _ => ⟨hm, hg, hw⟩, fun q => (by cases q), fun _ => hp⟩
  · exact absurd rfl q
  · have q : 48 = 2 := q; omega
  · have q : 48 = 42 := q; omega
  · have q : 48 = 27 := q; omega
  · have q : 48 = 7 ∨ 48 = 8 := q; omega
  · refine ⟨fun q => ?_, fun q => ?_⟩
    · have q : 48 = 33 ∨ 48 = 34 ∨ 48 = 35 := q; omega
    · have q : 48 = 41 := q; omega
theorem Aj_sub {x y : It} {r : List It} (h : Aj (x :: r)) (hr : rkI y.1 y.2.1 y.2.2 ≤ rkI x.1 x.2.1 x.2.2) : Aj (y :: r) := by
  cases r with
  | nil => trivial
  | cons z r =>
    refine ⟨?_, h.2⟩
    rcases h.1 with q | q
    · exact Or.inl q
    · exact Or.inr (by omega)
theorem Aj_up {x y : It} {r : List It} (h : Aj (y :: r)) (q : 1 ≤ dlt y.1 ∨ rkI x.1 x.2.1 x.2.2 < rkI y.1 y.2.1 y.2.2) : Aj (x :: y :: r) := ⟨q, h⟩
/-- truths of a BINARY: t below 256 and how strong the sign must be -/
theorem or_256 {a b : Nat} (ha : a < 256) : (a ||| b * 256) / 256 = b ∧ (a ||| b * 256) < (b + 1) * 256 := by
  have h : a ||| b * 256 = b * 256 + a := by
    rw [Nat.or_comm, show b * 256 = b <<< 8 by rw [Nat.shiftLeft_eq], ← Nat.shiftLeft_add_eq_or_of_lt (by omega : a < 2 ^ 8)]
  rw [h]
  omega
theorem c2_256 {a : Nat} : c2 a / 256 = a / 256 ∧ c2 a ≤ a := by
  unfold c2
  split
  · exact ⟨rfl, Nat.le_refl _⟩
  · rename_i h
    have h1 : a &&& 3 = a % 4 := Nat.and_two_pow_sub_one_eq_mod a 2
    have h2 : a &&& 2 = (a % 4) &&& 2 := by rw [← h1, Nat.and_assoc]; exact congrArg (a &&& ·) (by decide : (2 : Nat) = 3 &&& 2)
    have h3 : ¬ a % 4 < 2 := fun h4 => by
      have h5 : a % 4 = 0 ∨ a % 4 = 1 := by omega
      rcases h5 with h5 | h5
      · rw [h2, h5] at h; exact h rfl
      · rw [h2, h5] at h; exact h rfl
    omega
/-- the truths of a SIMPLE and its start -/
theorem and16_255 {a : Nat} : (a &&& 255) &&& 16 = a &&& 16 := by rw [Nat.and_assoc]; exact congrArg (a &&& ·) (by decide : (255 : Nat) &&& 16 = 16)
theorem and16_or {a b : Nat} : (a ||| b * 256) &&& 16 = a &&& 16 := by
  rw [← and16_255 (a := a ||| b * 256), ← and16_255 (a := a)]
  congr 1
  rw [Nat.and_or_distrib_right, show b * 256 &&& 255 = 0 from by
    have := Nat.and_two_pow_sub_one_eq_mod (b * 256) 8
    rw [show (2 : Nat) ^ 8 - 1 = 255 from rfl, show (2 : Nat) ^ 8 = 256 from rfl] at this
    rw [this]; omega, Nat.or_zero]
theorem has0 {a b : Nat} (h : f_X6_has a b ≠ 0) : a &&& b ≠ 0 := fun e => h (by unfold f_X6_has; rw [if_pos e])
/-- a node that may stand on the stack -/
def Nq (s : Mm) (q : Nat) : Prop := q < m_md s ∧ GdS s q ∧ m_wh s q ≠ 50 ∧ m_pa s q ≤ q
section NQ
variable {s s' : Mm} {p q w : Nat}
theorem Nq.le (h : Nq s q) (X : ∀ M, M ≤ p → Ex M s s') (hq : q ≤ p) : Nq s' q := by
  obtain ⟨a, b, c, d⟩ := h
  have x := X q hq
  exact ⟨Nat.lt_of_lt_of_le a x.2.1, (x.2.2.1 q a).2.1 c b, (x.2.2.1 q a).1 c, by rw [x.2.2.2.2.1 q (Nat.le_refl _) a d]; exact d⟩
theorem Nq.flat (h : Nq s q) (X : ∀ M, Ex M s s') : Nq s' q := h.le (fun M _ => X M) (Nat.le_refl q)
theorem Nq.chd (h : Nq s q) (X : ∀ M, M ≤ p → Ex M s s') (J : Chd p w s s') : Nq s' q := by
  obtain ⟨a, b, c, d⟩ := h
  have x := X 0 (Nat.zero_le _)
  exact ⟨Nat.lt_of_lt_of_le a x.2.1, (x.2.2.1 q a).2.1 c b, (x.2.2.1 q a).1 c, by rw [(J.2.2.2.2.2.2.1 q a).1]; exact d⟩
theorem Nq.chn (J : Chd p w s s') (hm : m_md s' = m_md s + 1) (hp : Nq s p) (hw : w ≠ 50) : Nq s' (m_md s) := ⟨by omega, Or.inl J.2.1, by rw [J.1]; exact hw, by rw [J.2.2.2.1]; have := hp.1; omega⟩
theorem Nq.wrn (J : Wrp p w s s') (hm : m_md s' = m_md s + 1) (hp : Nq s p) (hw : w ≠ 50) : Nq s' (m_md s) := ⟨by omega, J.2.2.2.2.2.1, by rw [J.1]; exact hw, by rw [J.2.2.2.2.1]; have := hp.1; omega⟩
theorem Fz.ex (h : Fz s q) (hq : Nq s q) (X : Ex 0 s s') : Fz s' q := (X.2.2.1 q hq.1).2.2.1 h
theorem Up.ex (h : Up s q) (hq : Nq s q) (X : Ex 0 s s') : Up s' q := (X.2.2.1 q hq.1).2.2.2.1 h
theorem Fo_lp (F : FoS s) (h : Nq s q) (h0 : m_fi s q ≠ 0) : 0 < m_la s q ∧ m_la s q ≤ m_md s ∧ m_pa s (m_la s q - 1) = q + 1 ∧ (Up s q → q + 1 < m_la s q) := by
  obtain ⟨l, e, a, b, c, d, g⟩ := Fo_ch F h.1 h.2.1 h0
  have hle := Sl_le l e c
  refine ⟨by omega, by omega, by rw [b, Nat.add_sub_cancel]; exact (g e (Or.inr rfl)).1, fun hu => ?_⟩
  rcases hu with hu | hu
  · exact absurd hu h0
  · omega
theorem H50_no {k : Nat} (hl : m_la s q = k + 1) (hw : m_wh s k = w) (h : w ≠ 50) : H50 s q := fun _ h9 => by
  rw [hl, Nat.add_sub_cancel, hw] at h9
  exact absurd h9 h
theorem H50_mk (F : FoS s) (F' : FoS s') (hp : Nq s p) (hp' : Nq s' p) (h0 : m_fi s p ≠ 0) (hu : Up s p) (J : Wrp p 50 s s') (hm : m_md s' = m_md s + 1) (T : Tt s) (h69 : m_wh s (m_la s p - 1) ≠ 69) : H50 s' p := by
  obtain ⟨j1, j2, j3, j4, j5, j6, j7, j8, j9, j10, j11, j12, j13⟩ := J
  obtain ⟨k1, k2, k3, k4⟩ := Fo_lp F hp h0
  obtain ⟨l, e, a, b, c, d, g⟩ := Fo_ch F' hp'.1 hp'.2.1 j7
  have he : e = m_md s := by omega
  have hn := Sl_nx l e c
  intro _ _
  rw [j8, Nat.add_sub_cancel, j2]
  refine ⟨j3, j13, by have := k4 hu; omega, fun c hc hpc hnc => ?_, by rw [j9 _ (by omega)]; exact h69⟩
  by_cases ec : c = m_md s
  · rw [ec, ← he, hn] at hnc; omega
  · exact j12 T c (by omega) hnc
theorem N5_mk {k : Nat} {up : List It} (hf : Fz s q) (hA : Ab q up) (hl : m_la s q = k + 1) (hw : m_wh s k = w) (h : w ≠ 21 ∨ m_fi s k ≠ 0 ∨ Fl k up) : N5 s q up := by
  refine ⟨hf, hA, fun h9 => ?_⟩
  rw [hl, Nat.add_sub_cancel] at h9 ⊢
  rw [hw] at h9
  rcases h with h | h
  · exact absurd h9 h
  · exact h
theorem Ab_nil : Ab q [] := fun y h => by cases h
theorem Ab_some {y : It} {up : List It} (h : fn up = some y) (hy : q < y.2.1) : Ab q up := fun z hz => by
  rw [h] at hz
  cases hz
  exact hy
theorem Ab_none {up : List It} (h : fn up = none) : Ab q up := fun z hz => by rw [h] at hz; cases hz
end NQ
theorem Io_how {s : Mm} {n t : Nat} (h : t = 26 ∨ t = 28) (hm : n < m_md s) (hg : GdS s n) (hw : m_wh s n ≠ 50) (hp : m_pa s n ≤ n) : Io s (t, n, 0) := by
  rcases h with rfl | rfl
  · exact Io_n (by decide) (by decide) hm hg hw (fun q => absurd q (by decide)) (fun q => absurd q (by decide)) hp
  · exact Io_n (by decide) (by decide) hm hg hw (fun q => absurd q (by decide)) (fun q => absurd q (by decide)) hp
theorem Nd_how {s : Mm} {n t : Nat} {up : List It} (h : t = 26 ∨ t = 28) (hm : Mo n up) : Nd s (t, n, 0) up := by
  rcases h with rfl | rfl
  · exact Nd_0 (by decide) hm
  · exact Nd_0 (by decide) hm
theorem Aj_how {n t : Nat} {x : It} {r : List It} (h : t = 26 ∨ t = 28) (q : Aj (x :: r)) : Aj ((t, n, 0) :: r) := by
  rcases h with rfl | rfl
  · exact Aj_sub q (Nat.zero_le _)
  · exact Aj_sub q (Nat.zero_le _)
