/-! The parser and the tree as a tuple of numbers and rows; the primitives. -/
abbrev Ss : Type := Nat × Nat × Nat × Nat × Nat × Nat × Nat × (Nat → Nat) × (Nat → Nat) × (Nat → Nat) × (Nat → Nat) × (Nat → Nat) × (Nat → Nat) × (Nat → Nat)
abbrev s_at (s : Ss) : Nat := s.1
abbrev s_op (s : Ss) : Nat := s.2.1
abbrev s_ih (s : Ss) : Nat := s.2.2.1
abbrev s_gw (s : Ss) : Nat := s.2.2.2.1
abbrev s_wc (s : Ss) : Nat := s.2.2.2.2.1
abbrev s_us (s : Ss) : Nat := s.2.2.2.2.2.1
abbrev s_nb (s : Ss) : Nat := s.2.2.2.2.2.2.1
abbrev s_wf (s : Ss) : Nat → Nat := s.2.2.2.2.2.2.2.1
abbrev s_r1 (s : Ss) : Nat → Nat := s.2.2.2.2.2.2.2.2.1
abbrev s_r2 (s : Ss) : Nat → Nat := s.2.2.2.2.2.2.2.2.2.1
abbrev s_r3 (s : Ss) : Nat → Nat := s.2.2.2.2.2.2.2.2.2.2.1
abbrev s_r4 (s : Ss) : Nat → Nat := s.2.2.2.2.2.2.2.2.2.2.2.1
abbrev s_r5 (s : Ss) : Nat → Nat := s.2.2.2.2.2.2.2.2.2.2.2.2.1
abbrev s_r6 (s : Ss) : Nat → Nat := s.2.2.2.2.2.2.2.2.2.2.2.2.2
abbrev u_at (s : Ss) (v : Nat) : Ss := (v, s.2)
abbrev u_op (s : Ss) (v : Nat) : Ss := (s.1, v, s.2.2)
abbrev u_ih (s : Ss) (v : Nat) : Ss := (s.1, s.2.1, v, s.2.2.2)
abbrev u_gw (s : Ss) (v : Nat) : Ss := (s.1, s.2.1, s.2.2.1, v, s.2.2.2.2)
abbrev u_wc (s : Ss) (v : Nat) : Ss := (s.1, s.2.1, s.2.2.1, s.2.2.2.1, v, s.2.2.2.2.2)
abbrev u_us (s : Ss) (v : Nat) : Ss := (s.1, s.2.1, s.2.2.1, s.2.2.2.1, s.2.2.2.2.1, v, s.2.2.2.2.2.2)
abbrev u_nb (s : Ss) (v : Nat) : Ss := (s.1, s.2.1, s.2.2.1, s.2.2.2.1, s.2.2.2.2.1, s.2.2.2.2.2.1, v, s.2.2.2.2.2.2.2)
abbrev u_wf (s : Ss) (v : Nat → Nat) : Ss := (s.1, s.2.1, s.2.2.1, s.2.2.2.1, s.2.2.2.2.1, s.2.2.2.2.2.1, s.2.2.2.2.2.2.1, v, s.2.2.2.2.2.2.2.2)
abbrev u_r1 (s : Ss) (v : Nat → Nat) : Ss := (s.1, s.2.1, s.2.2.1, s.2.2.2.1, s.2.2.2.2.1, s.2.2.2.2.2.1, s.2.2.2.2.2.2.1, s.2.2.2.2.2.2.2.1, v, s.2.2.2.2.2.2.2.2.2)
abbrev u_r2 (s : Ss) (v : Nat → Nat) : Ss := (s.1, s.2.1, s.2.2.1, s.2.2.2.1, s.2.2.2.2.1, s.2.2.2.2.2.1, s.2.2.2.2.2.2.1, s.2.2.2.2.2.2.2.1, s.2.2.2.2.2.2.2.2.1, v, s.2.2.2.2.2.2.2.2.2.2)
abbrev u_r3 (s : Ss) (v : Nat → Nat) : Ss := (s.1, s.2.1, s.2.2.1, s.2.2.2.1, s.2.2.2.2.1, s.2.2.2.2.2.1, s.2.2.2.2.2.2.1, s.2.2.2.2.2.2.2.1, s.2.2.2.2.2.2.2.2.1, s.2.2.2.2.2.2.2.2.2.1, v, s.2.2.2.2.2.2.2.2.2.2.2)
abbrev u_r4 (s : Ss) (v : Nat → Nat) : Ss := (s.1, s.2.1, s.2.2.1, s.2.2.2.1, s.2.2.2.2.1, s.2.2.2.2.2.1, s.2.2.2.2.2.2.1, s.2.2.2.2.2.2.2.1, s.2.2.2.2.2.2.2.2.1, s.2.2.2.2.2.2.2.2.2.1, s.2.2.2.2.2.2.2.2.2.2.1, v, s.2.2.2.2.2.2.2.2.2.2.2.2)
abbrev u_r5 (s : Ss) (v : Nat → Nat) : Ss := (s.1, s.2.1, s.2.2.1, s.2.2.2.1, s.2.2.2.2.1, s.2.2.2.2.2.1, s.2.2.2.2.2.2.1, s.2.2.2.2.2.2.2.1, s.2.2.2.2.2.2.2.2.1, s.2.2.2.2.2.2.2.2.2.1, s.2.2.2.2.2.2.2.2.2.2.1, s.2.2.2.2.2.2.2.2.2.2.2.1, v, s.2.2.2.2.2.2.2.2.2.2.2.2.2)
abbrev u_r6 (s : Ss) (v : Nat → Nat) : Ss := (s.1, s.2.1, s.2.2.1, s.2.2.2.1, s.2.2.2.2.1, s.2.2.2.2.2.1, s.2.2.2.2.2.2.1, s.2.2.2.2.2.2.2.1, s.2.2.2.2.2.2.2.2.1, s.2.2.2.2.2.2.2.2.2.1, s.2.2.2.2.2.2.2.2.2.2.1, s.2.2.2.2.2.2.2.2.2.2.2.1, s.2.2.2.2.2.2.2.2.2.2.2.2.1, v)
/-- the kind of token i; 0 behind the last -/
def kA (cnt : Nat) (ks : Nat → Nat) (i : Nat) : Nat := if i < cnt then ks i else 0
def rN (f : Nat → Nat) : Nat → Int32 := fun i => nI (f i)
def rO (f : Nat → Nat) : Nat → Int32 := fun i => oI (f i)
def TC (h0 : mm_H) (a p N cnt : Nat) (ks : Nat → Nat) (s : Ss) : mm_H := HC h0 a p (nI (s_wc s)) (nI (s_at s)) (nI (kA cnt ks (s_at s))) (nI (s_op s)) (nI (s_ih s)) (oI (s_gw s)) (nI (s_us s)) (nI (s_nb s)) (nI cnt) N (rN (s_wf s)) (rN ks) (rN (s_r1 s)) (rN (s_r2 s)) (rN (s_r3 s)) (rN (s_r4 s)) (rN (s_r5 s)) (rO (s_r6 s))
/-- what holds all along -/
def Cg (h0 : mm_H) (a p N cnt : Nat) (ks : Nat → Nat) : Prop := Hy h0 a p ∧ N < 2147483648 ∧ cnt ≤ 16384 ∧ ∀ i, ks i < 128
theorem kAt_kA {cnt : Nat} {ks : Nat → Nat} (hc : cnt ≤ 16384) {i : Nat} (hi : i < 2147483648) : kAt (nI cnt) (rN ks) (nI i) = nI (kA cnt ks i) := by
  unfold kAt kA
  rw [if_neg (nI_pos hi)]
  by_cases h : i < cnt
  · rw [if_neg (by rw [nI_leI (by omega) hi]; omega), if_neg (by rw [show Int32.ofNat 16384 = nI 16384 from rfl, nI_leI (by decide) hi]; omega), if_pos h, nI_clamp hi]; rfl
  · rw [if_pos (by rw [nI_leI (by omega) hi]; omega), if_neg h]; rfl
/-- a store into a row -/
def upN (f : Nat → Nat) (i v : Nat) : Nat → Nat := fun j => if j = i then v else f j
theorem up_rN {f : Nat → Nat} {i v : Nat} (hi : i < 2147483648) : upd (rN f) (nI i).toNatClampNeg (vp_nar (mm_ty 0) (nI v)) = rN (upN f i v) := by
  rw [nI_clamp hi]
  funext j
  unfold rN upN upd
  by_cases h : j = i
  · rw [if_pos h, if_pos h]; rfl
  · rw [if_neg h, if_neg h]
theorem up_rO {f : Nat → Nat} {i v : Nat} (hi : i < 2147483648) : upd (rO f) (nI i).toNatClampNeg (vp_nar (mm_ty 0) (oI v)) = rO (upN f i v) := by
  rw [nI_clamp hi]
  funext j
  unfold rO upN upd
  by_cases h : j = i
  · rw [if_pos h, if_pos h]; rfl
  · rw [if_neg h, if_neg h]
theorem rN_at {f : Nat → Nat} {i : Nat} (hi : i < 2147483648) : rN f (nI i).toNatClampNeg = nI (f i) := by rw [nI_clamp hi]; rfl
theorem rO_at {f : Nat → Nat} {i : Nat} (hi : i < 2147483648) : rO f (nI i).toNatClampNeg = oI (f i) := by rw [nI_clamp hi]; rfl
section ARY
variable {xs : Nat → Int32} {L d mi pc : Nat} {ls : mm_L} {st : List Value} {h : mm_H} {c z : Nat} {o : mm_R} {own nm : String} {cc : ByteArray} {nL : Nat} {rt : Option FieldType} {q n t i v : Nat} {f : Nat → Nat} {ins : Instr}
theorem e_aldN (hi : i < n) (hn : n < 2147483648) (hins : (ins = .iaload ∧ t = 0) ∨ (ins = .baload ∧ (t = 1 ∨ t = 2))) (hm : Is mi own cc nL rt nm) (hd : decode cc pc = .ok (ins, 1)) (hc : h[q]? = some (.inl (t, n, .inl (rN f)))) (K : Ev xs L d mi (pc + 1) ls (.int (nI (f i)) :: st) h c z o) : Ev xs L d mi pc ls (.int (nI i) :: .ref q :: st) h c z o :=
  e_iald hins hm hd hc (nI_in hi hn) (by rw [rN_at (by omega)]; exact K)
theorem e_aldO (hi : i < n) (hn : n < 2147483648) (hins : (ins = .iaload ∧ t = 0) ∨ (ins = .baload ∧ (t = 1 ∨ t = 2))) (hm : Is mi own cc nL rt nm) (hd : decode cc pc = .ok (ins, 1)) (hc : h[q]? = some (.inl (t, n, .inl (rO f)))) (K : Ev xs L d mi (pc + 1) ls (.int (oI (f i)) :: st) h c z o) : Ev xs L d mi pc ls (.int (nI i) :: .ref q :: st) h c z o :=
  e_iald hins hm hd hc (nI_in hi hn) (by rw [rO_at (by omega)]; exact K)
theorem e_astN {h' : mm_H} (hi : i < n) (hn : n < 2147483648) (hm : Is mi own cc nL rt nm) (hd : decode cc pc = .ok (.iastore, 1)) (hc : h[q]? = some (.inl (0, n, .inl (rN f)))) (hh : h.set q (.inl (0, n, .inl (rN (upN f i v)))) = h') (K : Ev xs L d mi (pc + 1) ls st h' c z o) : Ev xs L d mi pc ls (.int (nI v) :: .int (nI i) :: .ref q :: st) h c z o :=
  e_iast (Or.inl ⟨rfl, rfl⟩) hm hd hc (nI_in hi hn) (by rw [up_rN (by omega)]; exact hh) K
theorem e_astO {h' : mm_H} (hi : i < n) (hn : n < 2147483648) (hm : Is mi own cc nL rt nm) (hd : decode cc pc = .ok (.iastore, 1)) (hc : h[q]? = some (.inl (0, n, .inl (rO f)))) (hh : h.set q (.inl (0, n, .inl (rO (upN f i v)))) = h') (K : Ev xs L d mi (pc + 1) ls st h' c z o) : Ev xs L d mi pc ls (.int (oI v) :: .int (nI i) :: .ref q :: st) h c z o :=
  e_iast (Or.inl ⟨rfl, rfl⟩) hm hd hc (nI_in hi hn) (by rw [up_rO (by omega)]; exact hh) K
end ARY
section PRIM
variable {xs : Nat → Int32} {L d : Nat} {h0 : mm_H} {a p N cnt : Nat} {ks : Nat → Nat} {s : Ss}
def q_take (s : Ss) : Rs Ss := ck (s_at s < 2147483647) (okR (s_at s) (u_at s (s_at s + 1)))
def q_refuse (s : Ss) : Rs Ss := erR s
def q_sees (K : Nat → Nat) (x : Nat) (s : Ss) : Rs Ss := ife (K (s_at s)) x (okR 1 s) (okR 0 s)
def q_nextKind (K : Nat → Nat) (s : Ss) : Rs Ss := ck (s_at s < 2147483647) (okR (K (s_at s + 1)) s)
def q_kindAt (K : Nat → Nat) (i : Nat) (s : Ss) : Rs Ss := ck (i < 2147483648) (okR (K i) s)
theorem t_take (G : Cg h0 a p N cnt ks) (hd : 10 ≤ d) (hN : q_take s ≠ none) : Rn xs L d 18 [.ref p] (TC h0 a p N cnt ks s) (ou eN (TC h0 a p N cnt ks) (q_take s)) := by
  unfold q_take at hN ⊢
  by_cases hq : s_at s < 2147483647
  · rw [ck_t hq]
    have h := r_take (xs := xs) (L := L) (d := d) (h0 := h0) (a := a) (p := p) (N := N) (wc := nI (s_wc s)) (at2 := nI (s_at s)) (kd := nI (kA cnt ks (s_at s))) (op := nI (s_op s)) (ih := nI (s_ih s)) (gw := oI (s_gw s)) (us := nI (s_us s)) (nb := nI (s_nb s)) (cnt := nI cnt) (wf := rN (s_wf s)) (kf := rN ks) (f1 := rN (s_r1 s)) (f2 := rN (s_r2 s)) (f3 := rN (s_r3 s)) (f4 := rN (s_r4 s)) (f5 := rN (s_r5 s)) (f6 := rO (s_r6 s)) G.1 (by omega)
    rw [nI_1, kAt_kA G.2.2.1 (by omega)] at h
    exact h
  · exact absurd (if_neg hq) hN
theorem t_nextKind (G : Cg h0 a p N cnt ks) (hd : 10 ≤ d) (hN : q_nextKind (kA cnt ks) s ≠ none) : Rn xs L d 32 [.ref p] (TC h0 a p N cnt ks s) (ou eN (TC h0 a p N cnt ks) (q_nextKind (kA cnt ks) s)) := by
  unfold q_nextKind at hN ⊢
  by_cases hq : s_at s < 2147483647
  · rw [ck_t hq]
    have h := r_nextKind (xs := xs) (L := L) (d := d) (h0 := h0) (a := a) (p := p) (N := N) (wc := nI (s_wc s)) (at2 := nI (s_at s)) (kd := nI (kA cnt ks (s_at s))) (op := nI (s_op s)) (ih := nI (s_ih s)) (gw := oI (s_gw s)) (us := nI (s_us s)) (nb := nI (s_nb s)) (cnt := nI cnt) (wf := rN (s_wf s)) (kf := rN ks) (f1 := rN (s_r1 s)) (f2 := rN (s_r2 s)) (f3 := rN (s_r3 s)) (f4 := rN (s_r4 s)) (f5 := rN (s_r5 s)) (f6 := rO (s_r6 s)) G.1 (by omega)
    rw [nI_1, kAt_kA G.2.2.1 (by omega)] at h
    exact h
  · exact absurd (if_neg hq) hN
theorem t_kindAt {i : Nat} (G : Cg h0 a p N cnt ks) (hd : 10 ≤ d) (hN : q_kindAt (kA cnt ks) i s ≠ none) : Rn xs L d 13 [.ref 1, .int (nI i)] (TC h0 a p N cnt ks s) (ou eN (TC h0 a p N cnt ks) (q_kindAt (kA cnt ks) i s)) := by
  unfold q_kindAt at hN ⊢
  by_cases hq : i < 2147483648
  · rw [ck_t hq]
    have h := r_kindAt (xs := xs) (L := L) (d := d) (h0 := h0) (a := a) (p := p) (N := N) (wc := nI (s_wc s)) (at2 := nI (s_at s)) (kd := nI (kA cnt ks (s_at s))) (op := nI (s_op s)) (ih := nI (s_ih s)) (gw := oI (s_gw s)) (us := nI (s_us s)) (nb := nI (s_nb s)) (cnt := nI cnt) (wf := rN (s_wf s)) (kf := rN ks) (f1 := rN (s_r1 s)) (f2 := rN (s_r2 s)) (f3 := rN (s_r3 s)) (f4 := rN (s_r4 s)) (f5 := rN (s_r5 s)) (f6 := rO (s_r6 s)) (i := nI i) G.1 (by omega)
    rw [kAt_kA G.2.2.1 (by omega)] at h
    exact h
  · exact absurd (if_neg hq) hN
theorem t_refuse (hd : 8 ≤ d) (_ : q_refuse s ≠ none) : Rn xs L d 17 [.ref p] (TC h0 a p N cnt ks s) (ou eU (TC h0 a p N cnt ks) (q_refuse s)) := r_refuse hd
theorem t_sees {x : Nat} (G : Cg h0 a p N cnt ks) (hd : 10 ≤ d) (hN : q_sees (kA cnt ks) x s ≠ none) : Rn xs L d 16 [.ref p, .int (nI x)] (TC h0 a p N cnt ks s) (ou eN (TC h0 a p N cnt ks) (q_sees (kA cnt ks) x s)) := by
  have hb := ife_bd hN
  have h := r_sees (xs := xs) (L := L) (d := d) (h0 := h0) (a := a) (p := p) (N := N) (wc := nI (s_wc s)) (at2 := nI (s_at s)) (kd := nI (kA cnt ks (s_at s))) (op := nI (s_op s)) (ih := nI (s_ih s)) (gw := oI (s_gw s)) (us := nI (s_us s)) (nb := nI (s_nb s)) (cnt := nI cnt) (wf := rN (s_wf s)) (kf := rN ks) (f1 := rN (s_r1 s)) (f2 := rN (s_r2 s)) (f3 := rN (s_r3 s)) (f4 := rN (s_r4 s)) (f5 := rN (s_r5 s)) (f6 := rO (s_r6 s)) (x := nI x) G.1 (by omega)
  unfold q_sees
  rw [ife_of hb.1 hb.2]
  by_cases hx : kA cnt ks (s_at s) = x
  · rw [if_pos hx]; rw [if_pos (by rw [hx])] at h; exact h
  · rw [if_neg hx]; rw [if_neg (fun w => hx ((nI_eq hb.1 hb.2).mp w))] at h; exact h
end PRIM
section ROW56
variable {h0 : mm_H} {a p N : Nat} {wc at' kd op ih gw us nb cnt x : Int32} {wf kf f1 f2 f3 f4 f5 f6 g : Nat → Int32}
theorem gC_5 (H : Hy h0 a p) : (HC h0 a p wc at' kd op ih gw us nb cnt N wf kf f1 f2 f3 f4 f5 f6)[a + 4]? = some (.inl (0, N, .inl f5)) := by
  obtain ⟨h1, h2, h3⟩ := H
  refine hp_get (by omega) ?_
  unfold sC
  rw [if_neg (by omega), if_neg (by omega), if_neg (by omega), if_neg (by omega), if_neg (by omega), if_neg (by omega), if_neg (by omega), if_neg (by omega), if_neg (by omega), if_pos rfl]
theorem gC_6 (H : Hy h0 a p) : (HC h0 a p wc at' kd op ih gw us nb cnt N wf kf f1 f2 f3 f4 f5 f6)[a + 5]? = some (.inl (0, N, .inl f6)) := by
  obtain ⟨h1, h2, h3⟩ := H
  refine hp_get (by omega) ?_
  unfold sC
  rw [if_neg (by omega), if_neg (by omega), if_neg (by omega), if_neg (by omega), if_neg (by omega), if_neg (by omega), if_neg (by omega), if_neg (by omega), if_neg (by omega), if_neg (by omega), if_pos rfl]
theorem sC_5 (H : Hy h0 a p) : (HC h0 a p wc at' kd op ih gw us nb cnt N wf kf f1 f2 f3 f4 f5 f6).set (a + 4) (.inl (0, N, .inl g)) = HC h0 a p wc at' kd op ih gw us nb cnt N wf kf f1 f2 f3 f4 g f6 := hp_set (fun j => by
  obtain ⟨q1, q2, q3⟩ := H
  unfold sC
  by_cases h1 : j = a + 4
  · subst h1
    rw [if_neg (by omega), if_neg (by omega), if_neg (by omega), if_neg (by omega), if_neg (by omega), if_neg (by omega), if_neg (by omega), if_neg (by omega), if_neg (by omega), if_pos rfl, if_pos rfl]
  · simp [h1])
theorem sC_6 (H : Hy h0 a p) : (HC h0 a p wc at' kd op ih gw us nb cnt N wf kf f1 f2 f3 f4 f5 f6).set (a + 5) (.inl (0, N, .inl g)) = HC h0 a p wc at' kd op ih gw us nb cnt N wf kf f1 f2 f3 f4 f5 g := hp_set (fun j => by
  obtain ⟨q1, q2, q3⟩ := H
  unfold sC
  by_cases h1 : j = a + 5
  · subst h1
    rw [if_neg (by omega), if_neg (by omega), if_neg (by omega), if_neg (by omega), if_neg (by omega), if_neg (by omega), if_neg (by omega), if_neg (by omega), if_neg (by omega), if_neg (by omega), if_pos rfl, if_pos rfl]
  · simp [h1])
end ROW56
