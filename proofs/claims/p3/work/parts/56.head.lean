/-! What holds at the head of the reference's loop; how it is put together behind a step. -/
/-- kinds of items that are ever on the stack -/
def kv (d : Nat) : Bool := decide (2 ≤ d) && decide (d ≤ 58) && !(d == 19) && !(d == 31)
def Kv : List It → Prop
  | [] => True
  | x :: r => kv x.1 = true ∧ Kv r
theorem Kv_c {x : It} {r : List It} (h : kv x.1 = true) (g : Kv r) : Kv (x :: r) := ⟨h, g⟩
def Hv (s : Mm) (r : List It) : Prop := Kv r ∧ Tk s ∧ m_ct s ≤ 4096 ∧ m_wr s = 0 ∧ m_at s ≤ m_ct s ∧ FoS s ∧ Ar s r ∧ Stk s r [] ∧ Aj r ∧ m_dp s = sD r ∧ m_dp s ≤ 30 ∧ m_rw s = sR r ∧ m_md s + sM r ≤ 3 * m_at s + 7 * r.length + 10 ∧ (Pb s ∧ Wd s) ∧ Tt s
/-- how much is still to do -/
def mz (s : Mm) (r : List It) : Nat := sW r + 6 * (4096 - m_at s) + 4 * (600 - r.length)
/-- behind a step: something is wrong, or it holds again, and less is to do -/
def Qh (m _ : Nat) (s : Mm) : Prop := (m_wr s ≠ 0 ∧ m_wr s ≤ 100000 ∧ m_ct s ≤ 4096 ∧ (Pb s ∧ Wd s) ∧ m_td s ≤ 5000) ∨ ∃ R, Hv s R ∧ mz s R < m
theorem Stk_td {s : Mm} {v : Nat} : ∀ (r U : List It), Stk s r U → Stk (w_td s v) r U := by
  intro r
  induction r with
  | nil => intro U _; trivial
  | cons x r ih => intro U h; exact ⟨h.1, h.2.1, ih _ h.2.2⟩
/-- an item is taken off and its step begins -/
def Hp (s : Mm) (x : It) (r : List It) : Prop := Kv r ∧ Tk s ∧ m_ct s ≤ 4096 ∧ m_wr s = 0 ∧ m_at s ≤ m_ct s ∧ FoS s ∧ Ar s r ∧ Stk s (x :: r) [] ∧ Aj (x :: r) ∧ m_dp s = sD (x :: r) ∧ m_dp s ≤ 30 ∧ m_rw s = sR (x :: r) ∧ m_md s + sM (x :: r) ≤ 3 * m_at s + 7 * (x :: r).length + 10 ∧ (Pb s ∧ Wd s) ∧ Tt s
/-- the state behind 'todo--' -/
theorem Hv_pop {s : Mm} {x : It} {r : List It} (H : Hv s (x :: r)) : Hp (w_td s (m_td s - 1)) x r := by
  obtain ⟨h0, h1, h2, h3, h4, h5, h6, h7, h8, h9, h10, h11, h12, h13, h14⟩ := H
  obtain ⟨k, k1, k2, k3, k4, k5⟩ := h6
  refine ⟨h0.2, h1, h2, h3, h4, h5, ?_, Stk_td _ [] h7, h8, h9, h10, h11, h12, h13, h14⟩
  show Arr (m_dz s) (m_no s) (m_tr s) (m_td s - 1) r
  rw [k1, Nat.add_sub_cancel]; exact k5
theorem Hp_out {s : Mm} {x : It} {r : List It} (H : Hp s x r) : Kv r ∧ Tk s ∧ m_ct s ≤ 4096 ∧ m_wr s = 0 ∧ m_at s ≤ m_ct s ∧ (∀ N, Cy N s s r) ∧ Stk s r [x] ∧ Aj (x :: r) ∧ m_dp s = dlt x.1 + sD r ∧ m_dp s ≤ 30 ∧ m_rw s = rho x.1 + sR r ∧ m_md s + mu7 x.1 + sM r ≤ 3 * m_at s + 7 * r.length + 17 ∧ m_td s = r.length ∧ r.length ≤ 494 ∧ m_md s ≤ 16000 ∧ Io s x ∧ Nd s x [] ∧ Tt s := by
  obtain ⟨h0, h1, h2, h3, h4, h5, h6, h7, h8, h9, h10, h11, h12, h13, h14⟩ := H
  have kl := Arr_len r _ h6
  have hl := Aj_max h8
  have e1 : sD (x :: r) = dlt x.1 + sD r := rfl
  have e2 : (x :: r).length = r.length + 1 := rfl
  have e3 : sM (x :: r) = mu7 x.1 + sM r := rfl
  have hE : ∀ N, Ex N s s := fun N => Ex.same h5 rfl rfl rfl rfl rfl rfl
  exact ⟨h0, h1, h2, h3, h4, fun N => ⟨hE N, h5, h6, rfl, rfl, h13.1, h13.2⟩, h7.2.2, h8, h9, h10, h11, by omega, by omega, by omega, by omega, h7.1, h7.2.1, h14⟩
theorem Hp_mk {s0 s : Mm} {N : Nat} {x : It} {R : List It} (hK : Kv R) (T : Tt s) (C : Cy N s0 s R) (ht : Tk s0) (h2 : m_ct s ≤ 4096) (h3 : m_wr s = 0) (h4 : m_at s ≤ m_ct s) (h5 : Stk s (x :: R) []) (h6 : Aj (x :: R)) (h7 : m_dp s = sD (x :: R)) (h8 : m_dp s ≤ 30) (h9 : m_rw s = sR (x :: R)) (h10 : m_md s + sM (x :: R) ≤ 3 * m_at s + 7 * (x :: R).length + 10) : Hp s x R := ⟨hK, C.tk ht, h2, h3, h4, C.2.1, C.2.2.1, h5, h6, h7, h8, h9, h10, C.2.2.2.2.2, T⟩
theorem Qh_le {m m' v v' : Nat} {s : Mm} (h : m ≤ m') (q : Qh m v s) : Qh m' v' s := by
  rcases q with q | ⟨R, q, g⟩
  · exact Or.inl q
  · exact Or.inr ⟨R, q, by omega⟩
theorem Hv_mk {s0 s : Mm} {N : Nat} {R : List It} {m : Nat} (hK : Kv R) (T : Tt s) (C : Cy N s0 s R) (ht : Tk s0) (h2 : m_ct s ≤ 4096) (h3 : m_wr s = 0) (h4 : m_at s ≤ m_ct s) (h5 : Stk s R []) (h6 : Aj R) (h7 : m_dp s = sD R) (h8 : m_dp s ≤ 30) (h9 : m_rw s = sR R) (h10 : m_md s + sM R ≤ 3 * m_at s + 7 * R.length + 10) (h11 : mz s R < m) : Qh m 0 s := Or.inr ⟨R, ⟨hK, C.tk ht, h2, h3, h4, C.2.1, C.2.2.1, h5, h6, h7, h8, h9, h10, C.2.2.2.2.2, T⟩, h11⟩
/-- not 50; has a child: said so that omega passes them over -/
def W5 (s : Mm) (q : Nat) : Prop := m_wh s q ≠ 50
def Fz (s : Mm) (q : Nat) : Prop := m_fi s q ≠ 0
def Mo (n : Nat) (up : List It) : Prop := ∀ y, y ∈ up → nk y.1 = true → n ≤ y.2.1
theorem Mo_nil {n : Nat} : Mo n [] := fun _ h => absurd h List.not_mem_nil
theorem Mo_cons {n : Nat} {x : It} {up : List It} (h : nk x.1 = true → n ≤ x.2.1) (g : Mo n up) : Mo n (x :: up) := fun y hy k => by
  rcases List.mem_cons.mp hy with rfl | hy
  · exact h k
  · exact g y hy k
def spc (d : Nat) : Bool := d == 2 || d == 4 || d == 42 || d == 50 || d == 5 || d == 43 || d == 44 || d == 46 || d == 49 || d == 56 || d == 23
theorem Nd_0 {s : Mm} {d n t : Nat} {up : List It} (hd : spc d = false) (hm : Mo n up) : Nd s (d, n, t) up := by
  unfold spc at hd
  simp only [Bool.or_eq_false_iff, beq_eq_false_iff_ne] at hd
  obtain ⟨⟨⟨⟨⟨⟨⟨⟨⟨⟨a1, a2⟩, a3⟩, a4⟩, a5⟩, a6⟩, a7⟩, a8⟩, a9⟩, a10⟩, a11⟩ := hd
  refine ⟨fun y hy _ k => hm y hy k, fun q => ?_, fun q => absurd q a5, fun q => absurd q a6, fun q => ?_, fun q => absurd q a10, fun q => absurd q a11⟩
  · rcases q with q | q | q | q
    · exact absurd q a1
    · exact absurd q a2
    · exact absurd q a3
    · exact absurd q a4
  · rcases q with q | q | q
    · exact absurd q a7
    · exact absurd q a8
    · exact absurd q a9
theorem Nd_x {s : Mm} {d n t : Nat} {up : List It} (hd : nk d = false) : Nd s (d, n, t) up := by
  have h9 : d = 6 ∨ d = 7 ∨ d = 8 := by
    unfold nk at hd
    simp only [Bool.not_eq_false', Bool.or_eq_true, beq_iff_eq] at hd
    omega
  refine ⟨fun y hy k => ?_, fun q => ?_, fun q => ?_, fun q => ?_, fun q => ?_, fun q => ?_, fun q => ?_⟩
  · have k : nk d = true := k
    rw [hd] at k; cases k
  · have q : d = 2 ∨ d = 4 ∨ d = 42 ∨ d = 50 := q; omega
  · have q : d = 5 := q; omega
  · have q : d = 43 := q; omega
  · have q : d = 44 ∨ d = 46 ∨ d = 49 := q; omega
  · have q : d = 56 := q; omega
  · have q : d = 23 := q; omega
theorem Nd_A {s : Mm} {d n t : Nat} {up : List It} (hd : d = 2 ∨ d = 4 ∨ d = 42 ∨ d = 50) (hm : Mo n up) (h : m_fi s n ≠ 0 ∨ Fl n up) : Nd s (d, n, t) up := by
  refine ⟨fun y hy _ k => hm y hy k, fun _ => h, fun q => ?_, fun q => ?_, fun q => ?_, fun q => ?_, fun q => ?_⟩
  · have q : d = 5 := q; omega
  · have q : d = 43 := q; omega
  · have q : d = 44 ∨ d = 46 ∨ d = 49 := q; omega
  · have q : d = 56 := q; omega
  · have q : d = 23 := q; omega
theorem Nd_5 {s : Mm} {n t : Nat} {up : List It} (hm : Mo n up) (h : (∃ t, fn up = some (18, n, t)) ∨ N5 s n up) : Nd s (5, n, t) up := by
  refine ⟨fun y hy _ k => hm y hy k, fun q => ?_, fun _ => h, fun q => ?_, fun q => ?_, fun q => ?_, fun q => ?_⟩
  · have q : 5 = 2 ∨ 5 = 4 ∨ 5 = 42 ∨ 5 = 50 := q; omega
  · have q : 5 = 43 := q; omega
  · have q : 5 = 44 ∨ 5 = 46 ∨ 5 = 49 := q; omega
  · have q : 5 = 56 := q; omega
  · have q : 5 = 23 := q; omega
theorem Nd_43 {s : Mm} {n t : Nat} {up : List It} (hm : Mo n up) (h : m_fi s n ≠ 0 ∧ Ab n up ∧ m_la s n ≠ 0 ∧ GdS s (m_la s n - 1) ∧ m_wh s (m_la s n - 1) ≠ 50) : Nd s (43, n, t) up := by
  refine ⟨fun y hy _ k => hm y hy k, fun q => ?_, fun q => ?_, fun _ => h, fun q => ?_, fun q => ?_, fun q => ?_⟩
  · have q : 43 = 2 ∨ 43 = 4 ∨ 43 = 42 ∨ 43 = 50 := q; omega
  · have q : 43 = 5 := q; omega
  · have q : 43 = 44 ∨ 43 = 46 ∨ 43 = 49 := q; omega
  · have q : 43 = 56 := q; omega
  · have q : 43 = 23 := q; omega
theorem Nd_23 {s : Mm} {n t : Nat} (h : lo s (m_at s) ≠ 0) : Nd s (23, n, t) [] := by
  refine ⟨fun y hy => absurd hy List.not_mem_nil, fun q => ?_, fun q => ?_, fun q => ?_, fun q => ?_, fun q => ?_, fun _ => ⟨rfl, h⟩⟩
  · have q : 23 = 2 ∨ 23 = 4 ∨ 23 = 42 ∨ 23 = 50 := q; omega
  · have q : 23 = 5 := q; omega
  · have q : 23 = 43 := q; omega
  · have q : 23 = 44 ∨ 23 = 46 ∨ 23 = 49 := q; omega
  · have q : 23 = 56 := q; omega
theorem Nd_44 {s : Mm} {d n t : Nat} {up : List It} (hd : d = 44 ∨ d = 46 ∨ d = 49) (hm : Mo n up) (h : ∃ y, fn up = some y ∧ y.2.1 = n ∧ (y.1 = 41 ∨ y.1 = 42 ∨ y.1 = 43) ∧ y.2.2 &&& 16 = 0) : Nd s (d, n, t) up := by
  refine ⟨fun y hy _ k => hm y hy k, fun q => ?_, fun q => ?_, fun q => ?_, fun _ => Or.inl h, fun q => ?_, fun q => ?_⟩
  · have q : d = 2 ∨ d = 4 ∨ d = 42 ∨ d = 50 := q; omega
  · have q : d = 5 := q; omega
  · have q : d = 43 := q; omega
  · have q : d = 56 := q; omega
  · have q : d = 23 := q; omega
theorem Nd_56 {s : Mm} {n t : Nat} {up : List It} (hm : Mo n up) (h : t ≠ 0 → N56 s n up) : Nd s (56, n, t) up := by
  refine ⟨fun y hy _ k => hm y hy k, fun q => ?_, fun q => ?_, fun q => ?_, fun q => ?_, fun _ q => h q, fun q => ?_⟩
  · have q : 56 = 2 ∨ 56 = 4 ∨ 56 = 42 ∨ 56 = 50 := q; omega
  · have q : 56 = 5 := q; omega
  · have q : 56 = 43 := q; omega
  · have q : 56 = 44 ∨ 56 = 46 ∨ 56 = 49 := q; omega
  · have q : 56 = 23 := q; omega
theorem Io_n {s : Mm} {d n t : Nat} (hd : d ≠ 2 ∧ d ≠ 42 ∧ d ≠ 48 ∧ d ≠ 27 ∧ d ≠ 7 ∧ d ≠ 8 ∧ d ≠ 41) (ht : t < 4096) (hm : n < m_md s) (hg : GdS s n) (hw : m_wh s n ≠ 50) (hu : upk d = true → Up s n) (h8 : d = 33 ∨ d = 34 ∨ d = 35 → t ≤ 8) (hp : m_pa s n ≤ n) : Io s (d, n, t) := by
  obtain ⟨a1, a2, a3, a4, a5, a6, a7⟩ := hd
  refine ⟨⟨fun _ _ => ht, fun q => absurd q a1, fun q => absurd q a2, fun q => absurd q a3, fun q => absurd q a4, fun q => ?_, h8, fun q => absurd q a7⟩, fun _ => ⟨hm, hg, hw⟩, hu, fun _ => hp⟩
  rcases q with q | q
  · exact absurd q a5
  · exact absurd q a6
theorem Io_2 {s : Mm} {n t : Nat} (ht : t < 4096) (h1 : 1 ≤ t / 256) (h2 : t / 256 ≤ 6) (hm : n < m_md s) (hg : GdS s n) (hw : m_wh s n ≠ 50) (hp : m_pa s n ≤ n) : Io s (2, n, t) := by
  refine ⟨⟨fun _ _ => ht, fun _ => ⟨h1, h2⟩, fun q => ?_, fun q => ?_, fun q => ?_, fun q => ?_, ?_⟩, fun _ => ⟨hm, hg, hw⟩, fun q => (by cases q), fun _ => hp⟩
  · have q : 2 = 42 := q; omega
  · have q : 2 = 48 := q; omega
  · have q : 2 = 27 := q; omega
  · have q : 2 = 7 ∨ 2 = 8 := q; omega
  · refine ⟨fun q => ?_, fun q => ?_⟩
    · have q : 2 = 33 ∨ 2 = 34 ∨ 2 = 35 := q; omega
    · have q : 2 = 41 := q; omega
theorem Io_78 {s : Mm} {d n t : Nat} (hd : d = 7 ∨ d = 8) (ht : t < 4096) (hn : 0 < n ∧ n < 128) : Io s (d, n, t) := by
  refine ⟨⟨fun _ _ => ht, fun q => ?_, fun q => ?_, fun q => ?_, fun q => ?_, fun _ => hn, ?_⟩, fun q => ?_, fun q => ?_, fun q => ?_⟩
  · have q : d = 2 := q; omega
  · have q : d = 42 := q; omega
  · have q : d = 48 := q; omega
  · have q : d = 27 := q; omega
  · refine ⟨fun q => ?_, fun q => ?_⟩
    · have q : d = 33 ∨ d = 34 ∨ d = 35 := q; omega
    · have q : d = 41 := q; omega
  · rcases hd with rfl | rfl <;> cases q
  · rcases hd with rfl | rfl <;> cases q
  · rcases hd with rfl | rfl <;> cases q
theorem Io_6 {s : Mm} {n t : Nat} (ht : t < 4096) : Io s (6, n, t) := by
  refine ⟨⟨fun _ _ => ht, fun q => ?_, fun q => ?_, fun q => ?_, fun q => ?_, fun q => ?_, ?_⟩, fun q => (by cases q), fun q => (by cases q), fun q => (by cases q)⟩
  · have q : 6 = 2 := q; omega
  · have q : 6 = 42 := q; omega
  · have q : 6 = 48 := q; omega
  · have q : 6 = 27 := q; omega
  · have q : 6 = 7 ∨ 6 = 8 := q; omega
  · refine ⟨fun q => ?_, fun q => ?_⟩
    · have q : 6 = 33 ∨ 6 = 34 ∨ 6 = 35 := q; omega
    · have q : 6 = 41 := q; omega
theorem Io_27 {s : Mm} {n t : Nat} (ht : t = 26 ∨ t = 28) (hm : n < m_md s) (hg : GdS s n) (hw : m_wh s n ≠ 50) (hp : m_pa s n ≤ n) : Io s (27, n, t) := by
  refine ⟨⟨fun _ _ => ?_, fun q => ?_, fun q => ?_, fun q => ?_, fun _ => ht, fun q => ?_, ?_⟩, fun _ => ⟨hm, hg, hw⟩, fun q => (by cases q), fun _ => hp⟩
  · show t < 4096; omega
  · have q : 27 = 2 := q; omega
  · have q : 27 = 42 := q; omega
  · have q : 27 = 48 := q; omega
  · have q : 27 = 7 ∨ 27 = 8 := q; omega
  · refine ⟨fun q => ?_, fun q => ?_⟩
    · have q : 27 = 33 ∨ 27 = 34 ∨ 27 = 35 := q; omega
    · have q : 27 = 41 := q; omega
theorem Io_41 {s : Mm} {n t : Nat} (ht : t < 256) (hm : n < m_md s) (hg : GdS s n) (hw : m_wh s n ≠ 50) (hu : Up s n) (hp : m_pa s n ≤ n) : Io s (41, n, t) := by
  refine ⟨⟨fun _ _ => ?_, fun q => ?_, fun q => ?_, fun q => ?_, fun q => ?_, fun q => ?_, ?_⟩, fun _ => ⟨hm, hg, hw⟩, fun _ => hu, fun _ => hp⟩
  · show t < 4096; omega
  · have q : 41 = 2 := q; omega
  · have q : 41 = 42 := q; omega
  · have q : 41 = 48 := q; omega
  · have q : 41 = 27 := q; omega
  · have q : 41 = 7 ∨ 41 = 8 := q; omega
  · refine ⟨fun q => ?_, fun _ => ht⟩
    have q : 41 = 33 ∨ 41 = 34 ∨ 41 = 35 := q; omega
theorem Io_42 {s : Mm} {n t : Nat} (ht : t < 2097152) (hm : n < m_md s) (hg : GdS s n) (hw : m_wh s n ≠ 50) (hu : Up s n) (hp : m_pa s n ≤ n) : Io s (42, n, t) := by
  refine ⟨⟨fun q => ?_, fun q => ?_, fun _ => ht, fun q => ?_, fun q => ?_, fun q => ?_, ?_⟩, fun _ => ⟨hm, hg, hw⟩, fun _ => hu, fun _ => hp⟩
  · exact absurd rfl q
  · have q : 42 = 2 := q; omega
  · have q : 42 = 48 := q; omega
  · have q : 42 = 27 := q; omega
  · have q : 42 = 7 ∨ 42 = 8 := q; omega
  · refine ⟨fun q => ?_, fun q => ?_⟩
    · have q : 42 = 33 ∨ 42 = 34 ∨ 42 = 35 := q; omega
    · have q : 42 = 41 := q; omega
theorem Io_48 {s : Mm} {n t : Nat} (ht : t < m_md s) (hm : n < m_md s) (hg : GdS s n) (hw : m_wh s n ≠ 50) (hp : m_pa s n ≤ n) : Io s (48, n, t) := by
  refine ⟨⟨fun _ q => ?_, fun q => ?_, fun q => ?_, fun _ => ht, fun q => ?_, fun q => ?_, ?_⟩, fun _ => ⟨hm, hg, hw⟩, fun q => (by cases q), fun _ => hp⟩
  · exact absurd rfl q
  · have q : 48 = 2 := q; omega
  · have q : 48 = 42 := q; omega
  · have q : 48 = 27 := q; omega
  · have q : 48 = 7 ∨ 48 = 8 := q; omega
  · refine ⟨fun q => ?_, fun q => ?_⟩
    · have q : 48 = 33 ∨ 48 = 34 ∨ 48 = 35 := q; omega
    · have q : 48 = 41 := q; omega
theorem Aj_sub {x y : It} {r : List It} (h : Aj (x :: r)) (hr : rkI y.1 y.2.1 y.2.2 ≤ rkI x.1 x.2.1 x.2.2) : Aj (y :: r) := by
  cases r with
  | nil => trivial
  | cons z r =>
    refine ⟨?_, h.2⟩
    rcases h.1 with q | q
    · exact Or.inl q
    · exact Or.inr (by omega)
theorem Aj_up {x y : It} {r : List It} (h : Aj (y :: r)) (q : 1 ≤ dlt y.1 ∨ rkI x.1 x.2.1 x.2.2 < rkI y.1 y.2.1 y.2.2) : Aj (x :: y :: r) := ⟨q, h⟩
/-- truths of a BINARY: t below 256 and how strong the sign must be -/
theorem or_256 {a b : Nat} (ha : a < 256) : (a ||| b * 256) / 256 = b ∧ (a ||| b * 256) < (b + 1) * 256 := by
  have h : a ||| b * 256 = b * 256 + a := by
    rw [Nat.or_comm, show b * 256 = b <<< 8 by rw [Nat.shiftLeft_eq], ← Nat.shiftLeft_add_eq_or_of_lt (by omega : a < 2 ^ 8)]
  rw [h]
  omega
theorem c2_256 {a : Nat} : c2 a / 256 = a / 256 ∧ c2 a ≤ a := by
  unfold c2
  split
  · exact ⟨rfl, Nat.le_refl _⟩
  · rename_i h
    have h1 : a &&& 3 = a % 4 := Nat.and_two_pow_sub_one_eq_mod a 2
    have h2 : a &&& 2 = (a % 4) &&& 2 := by rw [← h1, Nat.and_assoc]; exact congrArg (a &&& ·) (by decide : (2 : Nat) = 3 &&& 2)
    have h3 : ¬ a % 4 < 2 := fun h4 => by
      have h5 : a % 4 = 0 ∨ a % 4 = 1 := by omega
      rcases h5 with h5 | h5
      · rw [h2, h5] at h; exact h rfl
      · rw [h2, h5] at h; exact h rfl
    omega
/-- the truths of a SIMPLE and its start -/
theorem and16_255 {a : Nat} : (a &&& 255) &&& 16 = a &&& 16 := by rw [Nat.and_assoc]; exact congrArg (a &&& ·) (by decide : (255 : Nat) &&& 16 = 16)
theorem and16_or {a b : Nat} : (a ||| b * 256) &&& 16 = a &&& 16 := by
  rw [← and16_255 (a := a ||| b * 256), ← and16_255 (a := a)]
  congr 1
  rw [Nat.and_or_distrib_right, show b * 256 &&& 255 = 0 from by
    have := Nat.and_two_pow_sub_one_eq_mod (b * 256) 8
    rw [show (2 : Nat) ^ 8 - 1 = 255 from rfl, show (2 : Nat) ^ 8 = 256 from rfl] at this
    rw [this]; omega, Nat.or_zero]
theorem has0 {a b : Nat} (h : f_X6_has a b ≠ 0) : a &&& b ≠ 0 := fun e => h (by unfold f_X6_has; rw [if_pos e])
/-- a node that may stand on the stack -/
def Nq (s : Mm) (q : Nat) : Prop := q < m_md s ∧ GdS s q ∧ m_wh s q ≠ 50 ∧ m_pa s q ≤ q
section NQ
variable {s s' : Mm} {p q w : Nat}
theorem Nq.le (h : Nq s q) (X : ∀ M, M ≤ p → Ex M s s') (hq : q ≤ p) : Nq s' q := by
  obtain ⟨a, b, c, d⟩ := h
  have x := X q hq
  exact ⟨Nat.lt_of_lt_of_le a x.2.1, (x.2.2.1 q a).2.1 c b, (x.2.2.1 q a).1 c, by rw [x.2.2.2.2.1 q (Nat.le_refl _) a d]; exact d⟩
theorem Nq.flat (h : Nq s q) (X : ∀ M, Ex M s s') : Nq s' q := h.le (fun M _ => X M) (Nat.le_refl q)
theorem Nq.chd (h : Nq s q) (X : ∀ M, M ≤ p → Ex M s s') (J : Chd p w s s') : Nq s' q := by
  obtain ⟨a, b, c, d⟩ := h
  have x := X 0 (Nat.zero_le _)
  exact ⟨Nat.lt_of_lt_of_le a x.2.1, (x.2.2.1 q a).2.1 c b, (x.2.2.1 q a).1 c, by rw [(J.2.2.2.2.2.2.1 q a).1]; exact d⟩
theorem Nq.chn (J : Chd p w s s') (hm : m_md s' = m_md s + 1) (hp : Nq s p) (hw : w ≠ 50) : Nq s' (m_md s) := ⟨by omega, Or.inl J.2.1, by rw [J.1]; exact hw, by rw [J.2.2.2.1]; have := hp.1; omega⟩
theorem Nq.wrn (J : Wrp p w s s') (hm : m_md s' = m_md s + 1) (hp : Nq s p) (hw : w ≠ 50) : Nq s' (m_md s) := ⟨by omega, J.2.2.2.2.2.1, by rw [J.1]; exact hw, by rw [J.2.2.2.2.1]; have := hp.1; omega⟩
theorem Fz.ex (h : Fz s q) (hq : Nq s q) (X : Ex 0 s s') : Fz s' q := (X.2.2.1 q hq.1).2.2.1 h
theorem Up.ex (h : Up s q) (hq : Nq s q) (X : Ex 0 s s') : Up s' q := (X.2.2.1 q hq.1).2.2.2.1 h
theorem Fo_lp (F : FoS s) (h : Nq s q) (h0 : m_fi s q ≠ 0) : 0 < m_la s q ∧ m_la s q ≤ m_md s ∧ m_pa s (m_la s q - 1) = q + 1 ∧ (Up s q → q + 1 < m_la s q) := by
  obtain ⟨l, e, a, b, c, d, g⟩ := Fo_ch F h.1 h.2.1 h0
  have hle := Sl_le l e c
  refine ⟨by omega, by omega, by rw [b, Nat.add_sub_cancel]; exact (g e (Or.inr rfl)).1, fun hu => ?_⟩
  rcases hu with hu | hu
  · exact absurd hu h0
  · omega
theorem H50_no {k : Nat} (hl : m_la s q = k + 1) (hw : m_wh s k = w) (h : w ≠ 50) : H50 s q := fun _ h9 => by
  rw [hl, Nat.add_sub_cancel, hw] at h9
  exact absurd h9 h
theorem H50_mk (F : FoS s) (F' : FoS s') (hp : Nq s p) (hp' : Nq s' p) (h0 : m_fi s p ≠ 0) (hu : Up s p) (J : Wrp p 50 s s') (hm : m_md s' = m_md s + 1) (T : Tt s) (h69 : m_wh s (m_la s p - 1) ≠ 69) : H50 s' p := by
  obtain ⟨j1, j2, j3, j4, j5, j6, j7, j8, j9, j10, j11, j12, j13⟩ := J
  obtain ⟨k1, k2, k3, k4⟩ := Fo_lp F hp h0
  obtain ⟨l, e, a, b, c, d, g⟩ := Fo_ch F' hp'.1 hp'.2.1 j7
  have he : e = m_md s := by omega
  have hn := Sl_nx l e c
  intro _ _
  rw [j8, Nat.add_sub_cancel, j2]
  refine ⟨j3, j13, by have := k4 hu; omega, fun c hc hpc hnc => ?_, by rw [j9 _ (by omega)]; exact h69⟩
  by_cases ec : c = m_md s
  · rw [ec, ← he, hn] at hnc; omega
  · exact j12 T c (by omega) hnc
theorem N5_mk {k : Nat} {up : List It} (hf : Fz s q) (hA : Ab q up) (hl : m_la s q = k + 1) (hw : m_wh s k = w) (h : w ≠ 21 ∨ m_fi s k ≠ 0 ∨ Fl k up) : N5 s q up := by
  refine ⟨hf, hA, fun h9 => ?_⟩
  rw [hl, Nat.add_sub_cancel] at h9 ⊢
  rw [hw] at h9
  rcases h with h | h
  · exact absurd h9 h
  · exact h
theorem Ab_nil : Ab q [] := fun y h => by cases h
theorem Ab_some {y : It} {up : List It} (h : fn up = some y) (hy : q < y.2.1) : Ab q up := fun z hz => by
  rw [h] at hz
  cases hz
  exact hy
theorem Ab_none {up : List It} (h : fn up = none) : Ab q up := fun z hz => by rw [h] at hz; cases hz
end NQ
theorem Io_how {s : Mm} {n t : Nat} (h : t = 26 ∨ t = 28) (hm : n < m_md s) (hg : GdS s n) (hw : m_wh s n ≠ 50) (hp : m_pa s n ≤ n) : Io s (t, n, 0) := by
  rcases h with rfl | rfl
  · exact Io_n (by decide) (by decide) hm hg hw (fun q => absurd q (by decide)) (fun q => absurd q (by decide)) hp
  · exact Io_n (by decide) (by decide) hm hg hw (fun q => absurd q (by decide)) (fun q => absurd q (by decide)) hp
theorem kv_how {t : Nat} (h : t = 26 ∨ t = 28) : kv t = true := by
  rcases h with rfl | rfl <;> rfl
theorem Nd_how {s : Mm} {n t : Nat} {up : List It} (h : t = 26 ∨ t = 28) (hm : Mo n up) : Nd s (t, n, 0) up := by
  rcases h with rfl | rfl
  · exact Nd_0 (by decide) hm
  · exact Nd_0 (by decide) hm
theorem Aj_how {n t : Nat} {x : It} {r : List It} (h : t = 26 ∨ t = 28) (q : Aj (x :: r)) : Aj ((t, n, 0) :: r) := by
  rcases h with rfl | rfl
  · exact Aj_sub q (Nat.zero_le _)
  · exact Aj_sub q (Nat.zero_le _)
/-- a 56 at q over A, under p -/
def V56 (s : Mm) (q A p : Nat) : Prop := m_fi s q = A + 1 ∧ m_pa s q = p + 1
theorem V56.flat {s s' : Mm} {q A p : Nat} (h : V56 s q A p) (j : Nst s s') : V56 s' q A p := ⟨by rw [j.2.1]; exact h.1, by rw [j.2.2.2.1]; exact h.2⟩
theorem V56.chd {s s' : Mm} {q A p p' w : Nat} (h : V56 s q A p) (hq : q < m_md s) (j : Chd p' w s s') : V56 s' q A p := by
  refine ⟨?_, by rw [(j.2.2.2.2.2.2.1 q hq).1]; exact h.2⟩
  by_cases e : q = p'
  · rw [e, j.2.2.2.2.2.2.2.2.1 (by rw [← e, h.1]; omega), ← e]; exact h.1
  · rw [(j.2.2.2.2.2.2.2.1 q hq e).2]; exact h.1
theorem U69_flat {s s' : Mm} {q : Nat} (j : Nst s s') (h : U69 s q) : U69 s' q := by
  unfold U69 GdS
  rw [j.1, j.2.1, j.2.2.1, j.2.2.2.1]
  exact h
theorem U69_ch {s s' : Mm} {q w : Nat} (j : Chd q w s s') (hw : w ≠ 69) : U69 s' q := fun _ h => by
  rw [j.2.2.2.2.2.1, Nat.add_sub_cancel, j.1] at h
  exact absurd h hw
theorem N56_mk {s : Mm} {n r A p : Nat} {up : List It} (hv : V56 s n A p) (hl : m_la s n = r + 1) (h1 : A + 1 ≤ n) (h2 : A < r) (h3 : p < A) (h4 : n < r) (hy : ∀ y, fn up = some y → r ≤ y.2.1) (hp : Nq s p) (I : Nq s r) (hu : Up s r) (x : U69 s r) (hf : m_fi s r ≠ 0 ∨ Fl r up) : N56 s n up := by
  obtain ⟨v1, v2⟩ := hv
  unfold N56
  rw [v1, v2, hl, Nat.add_sub_cancel, Nat.add_sub_cancel]
  exact ⟨by omega, by omega, by omega, by omega, ⟨by omega, hp.2.2.1⟩, fun y h => by have := hy y h; omega, by omega, ⟨I.2.1, I.2.2.1, hu, x⟩, hf⟩
/-- 'guarded' -/
theorem Q_guarded {t0 : Mm} {n t : Nat} {r : List It} (H : Hp t0 (56, n, t) r) {E : Mm → Prop} : Ok (Qh (mz t0 ((56, n, t) :: r))) E (b_X6_guarded n t t0) := by
  obtain ⟨hK, hT, hc, hw0, ha, hC, hS, hJ, hdp, hdl, hrw, hmd, htd, hln, hm16, hI, hD, hTt⟩ := Hp_out H
  have C_t0 := hC n
  have F0 := C_t0.2.1
  have I_n : Nq t0 n := ⟨(hI.2.1 rfl).1, (hI.2.1 rfl).2.1, (hI.2.1 rfl).2.2, hI.2.2.2 rfl⟩
  have hn := I_n.1
  have ht : t < 4096 := hI.1.1 (show 56 ≠ 42 by decide) (show 56 ≠ 48 by decide)
  have hdp : m_dp t0 = 0 + sD r := hdp
  have hrw : m_rw t0 = 0 + sR r := hrw
  have hmd : m_md t0 + 7 + sM r ≤ 3 * m_at t0 + 7 * r.length + 17 := hmd
  have hmz : sW r + 6 * (4096 - m_at t0) + 4 * (600 - r.length) < mz t0 ((56, n, t) :: r) := by
    show _ < (5 + sW r) + 6 * (4096 - m_at t0) + 4 * (600 - (r.length + 1))
    omega
  -- behind it: nothing new on the stack
  have leaf : ∀ s', Ex2 n t0 s' → Cy n t0 (w_td t0 (m_td t0)) r → Ar s' r → m_ct s' = m_ct t0 → m_kd s' = m_kd t0 → m_wr s' = 0 → m_at s' = m_at t0 → m_dp s' = m_dp t0 → m_rw s' = m_rw t0 → m_md s' = m_md t0 → Pb s' → Wd s' → Qh (mz t0 ((56, n, t) :: r)) 0 s' := by
    intro s' hE _ hA e1 e2 e3 e4 e5 e6 e7 hP hW
    refine Or.inr ⟨r, ⟨hK, ?_, by omega, e3, by omega, hE.1, hA, ?_, Aj_tl hJ, by omega, by omega, by omega, by omega, ⟨hP, hW⟩, hE.2.2.2.2.2.2 hTt⟩, ?_⟩
    · unfold Tk; rw [e1, e2]; exact hT
    · exact Stk_step (N := n) (pop := (56, n, t)) (new := []) F0 hE (fun (h : nk 56 = false) => absurd h (by decide)) (fun q _ h => h (56, n, t) rfl) (fun _ => rfl) (fun y hy => absurd hy List.not_mem_nil) (fun (h : 56 = 3 ∨ 56 = 18 ∨ 56 = 41) => absurd h (by decide)) (fun (h : 56 = 18) => absurd h (by decide)) (fun (h : 56 = 41 ∨ 56 = 42 ∨ 56 = 43) => absurd h (by decide)) r [] (fun y hy => absurd hy List.not_mem_nil) hS
    · show sW r + 6 * (4096 - m_at s') + 4 * (600 - r.length) < _
      rw [e4]; exact hmz
  have leaf0 : Qh (mz t0 ((56, n, t) :: r)) 0 t0 := leaf t0 (C_t0.1.to2) C_t0 C_t0.2.2.1 rfl rfl hw0 rfl rfl rfl rfl C_t0.2.2.2.2.2.1 C_t0.2.2.2.2.2.2
  unfold b_X6_guarded
  refine Ok_ifz (by omega) (fun q => ?_) (fun q => ?_)
  · refine Kp_look C_t0 hT (by omega) ?_
    refine Ok_ife (Nat.lt_trans (lo_lt (C_t0.tk hT) _) (by decide)) (by decide) (fun _ => leaf0) (fun _ => ?_)
    refine Kp_error C_t0 (by omega) (fun t1 C_t1 X_t1 a_t1 b_t1 d_t1 w_t1 u_t1 v_t1 j_t1 l_t1 => ?_)
    have e1 := C_t1.2.2.2.1
    exact Or.inl ⟨w_t1.1, by omega, by omega, C_t1.2.2.2.2.2, by omega⟩
  · obtain ⟨k1, k2, k3, k4, ⟨k5, k6⟩, -, k8, ⟨k9, k10, k11, k12⟩, k13⟩ := hD.2.2.2.2.2.1 rfl q
    have k13 := k13.resolve_right (fun ⟨y, hy, _⟩ => absurd hy List.not_mem_nil)
    have k1 : m_fi t0 n ≠ 0 := k1
    have k2 : m_fi t0 n ≤ n := k2
    have k3 : m_fi t0 n < m_la t0 n := k3
    have k4 : m_pa t0 n < m_fi t0 n := k4
    have k5 : m_pa t0 n ≠ 0 := k5
    have k6 : m_wh t0 (m_pa t0 n - 1) ≠ 50 := k6
    have k8 : n + 1 < m_la t0 n := k8
    have k9 : GdS t0 (m_la t0 n - 1) := k9
    have k11 : Up t0 (m_la t0 n - 1) := k11
    have k12 : U69 t0 (m_la t0 n - 1) := k12
    have k13 : m_fi t0 (m_la t0 n - 1) ≠ 0 := k13
    obtain ⟨p1, p2, p3, -⟩ := Fo_lp F0 I_n k1
    obtain ⟨rr, hr⟩ : ∃ x, m_la t0 n = x + 1 := ⟨m_la t0 n - 1, by omega⟩
    have hr1 : m_la t0 n - 1 = rr := by omega
    rw [hr1] at k9 k11 k12 k13 p3
    have hrm : rr < m_md t0 := by omega
    obtain ⟨l, e, c1, c2, c3, c4, c5⟩ := Fo_ch F0 hrm k9 k13
    have hg1 : m_la t0 rr - 1 = e := by omega
    rw [hr1, hg1]
    refine Ok_ck (by omega) (Ok_ck (by omega) (Ok_ck (by omega) (Ok_ck (by omega) (Ok_ck (by omega) ?_))))
    refine Ok_ife (Nat.lt_trans (C_t0.2.2.2.2.2.2.1 _) (by decide)) (by decide) (fun q69 => ?_) (fun _ => ?_)
    · obtain ⟨u1, u2, u3⟩ := k12 (by omega) (by rw [hg1]; exact q69)
      rw [hg1] at u1 u2 u3
      have hb := (F0 e c4).1
      obtain ⟨o, ho⟩ : ∃ o, m_fi t0 e = o + 1 := ⟨m_fi t0 e - 1, by omega⟩
      obtain ⟨f, hf⟩ : ∃ f, m_fi t0 n = f + 1 := ⟨m_fi t0 n - 1, by omega⟩
      refine Ok_ck (by omega) (Ok_st (Ok_ck (by omega) (Ok_ck (by omega) (Ok_st (Ok_ck (by omega) (Ok_ck (show m_fi t0 e ≠ 0 from u2) (Ok_ck (show m_fi t0 e - 1 < 65536 from by omega) (Ok_st (Ok_ck (by omega) (Ok_ck (show m_fi t0 n ≠ 0 from k1) (Ok_ck (show m_fi t0 n - 1 < 65536 from by omega) (Ok_st (Ok_ck (show m_fi t0 e - 1 < 65536 from by omega) (Ok_st (Ok_ck (by omega) (Ok_st (Ok_ret ?_)))))))))))))))))
      refine leaf _ ?_ C_t0 C_t0.2.2.1 rfl rfl hw0 rfl rfl rfl rfl C_t0.2.2.2.2.2.1 (Wb_up C_t0.2.2.2.2.2.2 (by decide : 69 < 256) rfl rfl (Nat.le_refl _))
      have e1 : m_fi t0 e - 1 = o := by omega
      have e2 : m_fi t0 n - 1 = f := by omega
      refine Ex_surg (w := n) (r := rr) (g := e) (o := o) (f := f) F0 hn I_n.2.1 hf (by omega) hr (by omega) k4 k5 k6 (by omega) k9 c2 q69 u1 ho (by omega) rfl rfl ?_ rfl ?_ ?_
      · show upN (m_pa t0) (m_fi t0 e - 1) (n + 1) = _
        rw [e1]
      · show upN (m_la t0) n (m_fi t0 e - 1 + 1) = _
        rw [e1]
      · show upN (upN (m_nx t0) (m_fi t0 n - 1) (m_fi t0 e - 1 + 1)) (m_fi t0 e - 1) 0 = _
        rw [e1, e2]
    · refine Ok_ife (by omega) (by decide) (fun _ => ?_) (fun _ => leaf0)
      refine Kp_error C_t0 (by omega) (fun t1 C_t1 X_t1 a_t1 b_t1 d_t1 w_t1 u_t1 v_t1 j_t1 l_t1 => ?_)
      have e1 := C_t1.2.2.2.1
      exact Or.inl ⟨w_t1.1, by omega, by omega, C_t1.2.2.2.2.2, by omega⟩
