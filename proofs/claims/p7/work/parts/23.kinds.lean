/-! The kinds: static methods, read off as numbers. -/
theorem ok_ite {σ : Type} {P : Prop} [Decidable P] {a b : Nat} {s : σ} : okR (if P then a else b) s = if P then okR a s else okR b s := by
  by_cases h : P
  · rw [if_pos h, if_pos h]
  · rw [if_neg h, if_neg h]
theorem ite_lt {P : Prop} [Decidable P] {a b n : Nat} (ha : a < n) (hb : b < n) : (if P then a else b) < n := by
  by_cases h : P
  · rw [if_pos h]; exact ha
  · rw [if_neg h]; exact hb
def idH (h : mm_H) : mm_H := h
section EVO
variable {σ : Type} {e e2 : Nat → Option Value} {T : σ → mm_H} {xs : Nat → Int32} {L d mi pc : Nat} {ls : mm_L} {st : List Value} {h : mm_H} {c z : Nat} {o : mm_R} {own nm : String} {cc : ByteArray} {nL : Nat} {rt : Option FieldType} {A B r : Rs σ} {k : Nat → σ → Rs σ} {s : σ} {v w a b t : Nat} {off : Int}
theorem oI_lt {a b : Nat} (ha : a < 2147483648) (hb : b < 2147483648) : oI a < oI b ↔ a < b := by
  cases a with
  | zero => cases b with
    | zero => exact ⟨fun h => absurd h (by decide), fun h => absurd h (by omega)⟩
    | succ n =>
      refine ⟨fun _ => by omega, fun _ => ?_⟩
      show (-1 : Int32) < nI n
      have := nI_pos' (n := n) (by omega)
      rw [Int32.le_iff_toInt_le] at this
      rw [Int32.lt_iff_toInt_lt]
      have h1 : (-1 : Int32).toInt = -1 := by decide
      have h0 : (0 : Int32).toInt = 0 := by decide
      omega
  | succ m => cases b with
    | zero =>
      refine ⟨fun h => ?_, fun h => absurd h (by omega)⟩
      have h2 : (-1 : Int32).toInt = -1 := by decide
      have := nI_pos' (n := m) (by omega)
      rw [Int32.le_iff_toInt_le] at this
      have h3 : nI m < (-1 : Int32) := h
      rw [Int32.lt_iff_toInt_lt] at h3
      have h0 : (0 : Int32).toInt = 0 := by decide
      omega
    | succ n =>
      show nI m < nI n ↔ _
      rw [nI_ltI (by omega) (by omega)]; omega
theorem e_oilt (hN : ifl a b A B ≠ none) (hm : Is mi own cc nL rt nm) (hd : decode cc pc = .ok (.if_icmp .lt off, 3)) (ht : mm_jump pc off = some t) (K1 : a < b → A ≠ none → Ev xs L d mi t ls st h c z (ou e T A)) (K2 : ¬ a < b → B ≠ none → Ev xs L d mi (pc + 3) ls st h c z (ou e T B)) : Ev xs L d mi pc ls (.int (oI b) :: .int (oI a) :: st) h c z (ou e T (ifl a b A B)) :=
  sw_l hN (fun q n => e_icT hm hd ht (decide_eq_true ((oI_lt (ifl_bd hN).1 (ifl_bd hN).2).mpr q)) (K1 q n)) (fun q n => e_icF hm hd ht (decide_eq_false (fun w => q ((oI_lt (ifl_bd hN).1 (ifl_bd hN).2).mp w))) (K2 q n))
theorem e_oige (hN : ifl a b A B ≠ none) (hm : Is mi own cc nL rt nm) (hd : decode cc pc = .ok (.if_icmp .ge off, 3)) (ht : mm_jump pc off = some t) (K1 : a < b → A ≠ none → Ev xs L d mi (pc + 3) ls st h c z (ou e T A)) (K2 : ¬ a < b → B ≠ none → Ev xs L d mi t ls st h c z (ou e T B)) : Ev xs L d mi pc ls (.int (oI b) :: .int (oI a) :: st) h c z (ou e T (ifl a b A B)) :=
  sw_l hN (fun q n => e_icF hm hd ht (decide_eq_false (fun w => by
    rw [← Int32.not_lt, oI_lt (ifl_bd hN).1 (ifl_bd hN).2] at w; exact w q)) (K1 q n)) (fun q n => e_icT hm hd ht (decide_eq_true (by rw [← Int32.not_lt, oI_lt (ifl_bd hN).1 (ifl_bd hN).2]; exact q)) (K2 q n))
end EVO
def b_X0_exists  (x0 : Nat) (s : mm_H) : Rs mm_H := ifl x0 1 (ifl x0 10 (ifl x0 40 (okR 0 s) (ifl 87 x0 (okR 0 s) (okR 1 s))) (ifl 34 x0 (ifl x0 40 (okR 0 s) (ifl 87 x0 (okR 0 s) (okR 1 s))) (okR 1 s))) (ifl 5 x0 (ifl x0 10 (ifl x0 40 (okR 0 s) (ifl 87 x0 (okR 0 s) (okR 1 s))) (ifl 34 x0 (ifl x0 40 (okR 0 s) (ifl 87 x0 (okR 0 s) (okR 1 s))) (okR 1 s))) (okR 1 s))
theorem w_X0_exists {xs : Nat → Int32} {L : Nat} {x0 : Nat} {s : mm_H} {d : Nat} (hd : 5 ≤ d) (hN : b_X0_exists  x0 s ≠ none) : Rn xs L d 4 [.int (nI x0)] (idH s) (ou eN (idH) (b_X0_exists  x0 s)) := by
  unfold Rn
  unfold b_X0_exists at hN ⊢
  refine e_iload_n m_X0_exists dX0_exists_0 rfl rfl ?_
  refine e_iconst (v := nI 1) m_X0_exists dX0_exists_1 (by decide) ?_
  refine e_ilt (t := 10) (a := x0) (b := 1) hN m_X0_exists dX0_exists_2 (by decide) (fun q1 hN => ?_) (fun q1 hN => ?_)
  · refine e_iload_n m_X0_exists dX0_exists_10 rfl rfl ?_
    refine e_bipush (v := nI 10) m_X0_exists dX0_exists_11 (by decide) ?_
    refine e_ilt (t := 22) (a := x0) (b := 10) hN m_X0_exists dX0_exists_13 (by decide) (fun q2 hN => ?_) (fun q2 hN => ?_)
    · refine e_iload_n m_X0_exists dX0_exists_22 rfl rfl ?_
      refine e_bipush (v := nI 40) m_X0_exists dX0_exists_23 (by decide) ?_
      refine e_ilt (t := 38) (a := x0) (b := 40) hN m_X0_exists dX0_exists_25 (by decide) (fun q3 hN => ?_) (fun q3 hN => ?_)
      · refine e_iconst (v := nI 0) m_X0_exists dX0_exists_38 (by decide) ?_
        exact e_reti m_X0_exists dX0_exists_39 (Or.inr ⟨rfl, by decide⟩)
      · refine e_iload_n m_X0_exists dX0_exists_28 rfl rfl ?_
        refine e_bipush (v := nI 87) m_X0_exists dX0_exists_29 (by decide) ?_
        refine e_igt (t := 38) (a := x0) (b := 87) hN m_X0_exists dX0_exists_31 (by decide) (fun q4 hN => ?_) (fun q4 hN => ?_)
        · refine e_iconst (v := nI 0) m_X0_exists dX0_exists_38 (by decide) ?_
          exact e_reti m_X0_exists dX0_exists_39 (Or.inr ⟨rfl, by decide⟩)
        · refine e_iconst (v := nI 1) m_X0_exists dX0_exists_34 (by decide) ?_
          refine e_goto (t := 39) m_X0_exists dX0_exists_35 (by decide) ?_
          exact e_reti m_X0_exists dX0_exists_39 (Or.inr ⟨rfl, by decide⟩)
    · refine e_iload_n m_X0_exists dX0_exists_16 rfl rfl ?_
      refine e_bipush (v := nI 34) m_X0_exists dX0_exists_17 (by decide) ?_
      refine e_ile (t := 34) (a := x0) (b := 34) hN m_X0_exists dX0_exists_19 (by decide) (fun q5 hN => ?_) (fun q5 hN => ?_)
      · refine e_iload_n m_X0_exists dX0_exists_22 rfl rfl ?_
        refine e_bipush (v := nI 40) m_X0_exists dX0_exists_23 (by decide) ?_
        refine e_ilt (t := 38) (a := x0) (b := 40) hN m_X0_exists dX0_exists_25 (by decide) (fun q6 hN => ?_) (fun q6 hN => ?_)
        · refine e_iconst (v := nI 0) m_X0_exists dX0_exists_38 (by decide) ?_
          exact e_reti m_X0_exists dX0_exists_39 (Or.inr ⟨rfl, by decide⟩)
        · refine e_iload_n m_X0_exists dX0_exists_28 rfl rfl ?_
          refine e_bipush (v := nI 87) m_X0_exists dX0_exists_29 (by decide) ?_
          refine e_igt (t := 38) (a := x0) (b := 87) hN m_X0_exists dX0_exists_31 (by decide) (fun q7 hN => ?_) (fun q7 hN => ?_)
          · refine e_iconst (v := nI 0) m_X0_exists dX0_exists_38 (by decide) ?_
            exact e_reti m_X0_exists dX0_exists_39 (Or.inr ⟨rfl, by decide⟩)
          · refine e_iconst (v := nI 1) m_X0_exists dX0_exists_34 (by decide) ?_
            refine e_goto (t := 39) m_X0_exists dX0_exists_35 (by decide) ?_
            exact e_reti m_X0_exists dX0_exists_39 (Or.inr ⟨rfl, by decide⟩)
      · refine e_iconst (v := nI 1) m_X0_exists dX0_exists_34 (by decide) ?_
        refine e_goto (t := 39) m_X0_exists dX0_exists_35 (by decide) ?_
        exact e_reti m_X0_exists dX0_exists_39 (Or.inr ⟨rfl, by decide⟩)
  · refine e_iload_n m_X0_exists dX0_exists_5 rfl rfl ?_
    refine e_iconst (v := nI 5) m_X0_exists dX0_exists_6 (by decide) ?_
    refine e_ile (t := 34) (a := x0) (b := 5) hN m_X0_exists dX0_exists_7 (by decide) (fun q8 hN => ?_) (fun q8 hN => ?_)
    · refine e_iload_n m_X0_exists dX0_exists_10 rfl rfl ?_
      refine e_bipush (v := nI 10) m_X0_exists dX0_exists_11 (by decide) ?_
      refine e_ilt (t := 22) (a := x0) (b := 10) hN m_X0_exists dX0_exists_13 (by decide) (fun q9 hN => ?_) (fun q9 hN => ?_)
      · refine e_iload_n m_X0_exists dX0_exists_22 rfl rfl ?_
        refine e_bipush (v := nI 40) m_X0_exists dX0_exists_23 (by decide) ?_
        refine e_ilt (t := 38) (a := x0) (b := 40) hN m_X0_exists dX0_exists_25 (by decide) (fun q10 hN => ?_) (fun q10 hN => ?_)
        · refine e_iconst (v := nI 0) m_X0_exists dX0_exists_38 (by decide) ?_
          exact e_reti m_X0_exists dX0_exists_39 (Or.inr ⟨rfl, by decide⟩)
        · refine e_iload_n m_X0_exists dX0_exists_28 rfl rfl ?_
          refine e_bipush (v := nI 87) m_X0_exists dX0_exists_29 (by decide) ?_
          refine e_igt (t := 38) (a := x0) (b := 87) hN m_X0_exists dX0_exists_31 (by decide) (fun q11 hN => ?_) (fun q11 hN => ?_)
          · refine e_iconst (v := nI 0) m_X0_exists dX0_exists_38 (by decide) ?_
            exact e_reti m_X0_exists dX0_exists_39 (Or.inr ⟨rfl, by decide⟩)
          · refine e_iconst (v := nI 1) m_X0_exists dX0_exists_34 (by decide) ?_
            refine e_goto (t := 39) m_X0_exists dX0_exists_35 (by decide) ?_
            exact e_reti m_X0_exists dX0_exists_39 (Or.inr ⟨rfl, by decide⟩)
      · refine e_iload_n m_X0_exists dX0_exists_16 rfl rfl ?_
        refine e_bipush (v := nI 34) m_X0_exists dX0_exists_17 (by decide) ?_
        refine e_ile (t := 34) (a := x0) (b := 34) hN m_X0_exists dX0_exists_19 (by decide) (fun q12 hN => ?_) (fun q12 hN => ?_)
        · refine e_iload_n m_X0_exists dX0_exists_22 rfl rfl ?_
          refine e_bipush (v := nI 40) m_X0_exists dX0_exists_23 (by decide) ?_
          refine e_ilt (t := 38) (a := x0) (b := 40) hN m_X0_exists dX0_exists_25 (by decide) (fun q13 hN => ?_) (fun q13 hN => ?_)
          · refine e_iconst (v := nI 0) m_X0_exists dX0_exists_38 (by decide) ?_
            exact e_reti m_X0_exists dX0_exists_39 (Or.inr ⟨rfl, by decide⟩)
          · refine e_iload_n m_X0_exists dX0_exists_28 rfl rfl ?_
            refine e_bipush (v := nI 87) m_X0_exists dX0_exists_29 (by decide) ?_
            refine e_igt (t := 38) (a := x0) (b := 87) hN m_X0_exists dX0_exists_31 (by decide) (fun q14 hN => ?_) (fun q14 hN => ?_)
            · refine e_iconst (v := nI 0) m_X0_exists dX0_exists_38 (by decide) ?_
              exact e_reti m_X0_exists dX0_exists_39 (Or.inr ⟨rfl, by decide⟩)
            · refine e_iconst (v := nI 1) m_X0_exists dX0_exists_34 (by decide) ?_
              refine e_goto (t := 39) m_X0_exists dX0_exists_35 (by decide) ?_
              exact e_reti m_X0_exists dX0_exists_39 (Or.inr ⟨rfl, by decide⟩)
        · refine e_iconst (v := nI 1) m_X0_exists dX0_exists_34 (by decide) ?_
          refine e_goto (t := 39) m_X0_exists dX0_exists_35 (by decide) ?_
          exact e_reti m_X0_exists dX0_exists_39 (Or.inr ⟨rfl, by decide⟩)
    · refine e_iconst (v := nI 1) m_X0_exists dX0_exists_34 (by decide) ?_
      refine e_goto (t := 39) m_X0_exists dX0_exists_35 (by decide) ?_
      exact e_reti m_X0_exists dX0_exists_39 (Or.inr ⟨rfl, by decide⟩)

def f_X0_exists (x0 : Nat) : Nat := if x0 < 1 then if x0 < 10 then if x0 < 40 then 0 else if 87 < x0 then 0 else 1 else if 34 < x0 then if x0 < 40 then 0 else if 87 < x0 then 0 else 1 else 1 else if 5 < x0 then if x0 < 10 then if x0 < 40 then 0 else if 87 < x0 then 0 else 1 else if 34 < x0 then if x0 < 40 then 0 else if 87 < x0 then 0 else 1 else 1 else 1
theorem fb_X0_exists {x0 : Nat} : f_X0_exists x0 < 2 := by
  unfold f_X0_exists
  repeat' refine ite_lt ?_ ?_
  all_goals decide
theorem fe_X0_exists {x0 : Nat} (h0 : x0 < 2147483648) {s : mm_H} : b_X0_exists x0 s = okR (f_X0_exists x0) s := by
  unfold b_X0_exists f_X0_exists
  skip
  simp only [ck, ife, ifl, ifz, ok_ite, h0, and_self, if_true, Nat.reduceLT, true_and, and_true]
theorem z_X0_exists {xs : Nat → Int32} {L d : Nat} {h : mm_H} {x0 : Nat} (h0 : x0 < 2147483648) (hd : 5 ≤ d) : Rn xs L d 4 [.int (nI x0)] h (.inl (some (.int (nI (f_X0_exists x0)))), h, 0, 0) := by
  have e1 : b_X0_exists x0 h = okR (f_X0_exists x0) h := fe_X0_exists h0
  have := w_X0_exists (xs := xs) (L := L) (d := d) (s := h) (x0 := x0) (by omega) (by rw [e1]; exact fun q => by cases q)
  rw [e1] at this
  exact this
def b_X0_beginsDecl  (x0 : Nat) (s : mm_H) : Rs mm_H := ife x0 13 (okR 1 s) (ife x0 33 (okR 1 s) (ife x0 34 (okR 1 s) (okR 0 s)))
theorem w_X0_beginsDecl {xs : Nat → Int32} {L : Nat} {x0 : Nat} {s : mm_H} {d : Nat} (hd : 5 ≤ d) (hN : b_X0_beginsDecl  x0 s ≠ none) : Rn xs L d 106 [.int (nI x0)] (idH s) (ou eN (idH) (b_X0_beginsDecl  x0 s)) := by
  unfold Rn
  unfold b_X0_beginsDecl at hN ⊢
  refine e_iload_n m_X0_beginsDecl dX0_beginsDecl_0 rfl rfl ?_
  refine e_bipush (v := nI 13) m_X0_beginsDecl dX0_beginsDecl_1 (by decide) ?_
  refine e_ieq (t := 18) (a := x0) (b := 13) hN m_X0_beginsDecl dX0_beginsDecl_3 (by decide) (fun q1 hN => ?_) (fun q1 hN => ?_)
  · refine e_iconst (v := nI 1) m_X0_beginsDecl dX0_beginsDecl_18 (by decide) ?_
    refine e_goto (t := 23) m_X0_beginsDecl dX0_beginsDecl_19 (by decide) ?_
    exact e_reti m_X0_beginsDecl dX0_beginsDecl_23 (Or.inr ⟨rfl, by decide⟩)
  · refine e_iload_n m_X0_beginsDecl dX0_beginsDecl_6 rfl rfl ?_
    refine e_bipush (v := nI 33) m_X0_beginsDecl dX0_beginsDecl_7 (by decide) ?_
    refine e_ieq (t := 18) (a := x0) (b := 33) hN m_X0_beginsDecl dX0_beginsDecl_9 (by decide) (fun q2 hN => ?_) (fun q2 hN => ?_)
    · refine e_iconst (v := nI 1) m_X0_beginsDecl dX0_beginsDecl_18 (by decide) ?_
      refine e_goto (t := 23) m_X0_beginsDecl dX0_beginsDecl_19 (by decide) ?_
      exact e_reti m_X0_beginsDecl dX0_beginsDecl_23 (Or.inr ⟨rfl, by decide⟩)
    · refine e_iload_n m_X0_beginsDecl dX0_beginsDecl_12 rfl rfl ?_
      refine e_bipush (v := nI 34) m_X0_beginsDecl dX0_beginsDecl_13 (by decide) ?_
      refine e_ine (t := 22) (a := x0) (b := 34) hN m_X0_beginsDecl dX0_beginsDecl_15 (by decide) (fun q3 hN => ?_) (fun q3 hN => ?_)
      · refine e_iconst (v := nI 1) m_X0_beginsDecl dX0_beginsDecl_18 (by decide) ?_
        refine e_goto (t := 23) m_X0_beginsDecl dX0_beginsDecl_19 (by decide) ?_
        exact e_reti m_X0_beginsDecl dX0_beginsDecl_23 (Or.inr ⟨rfl, by decide⟩)
      · refine e_iconst (v := nI 0) m_X0_beginsDecl dX0_beginsDecl_22 (by decide) ?_
        exact e_reti m_X0_beginsDecl dX0_beginsDecl_23 (Or.inr ⟨rfl, by decide⟩)

def f_X0_beginsDecl (x0 : Nat) : Nat := if x0 = 13 then 1 else if x0 = 33 then 1 else if x0 = 34 then 1 else 0
theorem fb_X0_beginsDecl {x0 : Nat} : f_X0_beginsDecl x0 < 2 := by
  unfold f_X0_beginsDecl
  repeat' refine ite_lt ?_ ?_
  all_goals decide
theorem fe_X0_beginsDecl {x0 : Nat} (h0 : x0 < 2147483648) {s : mm_H} : b_X0_beginsDecl x0 s = okR (f_X0_beginsDecl x0) s := by
  unfold b_X0_beginsDecl f_X0_beginsDecl
  skip
  simp only [ck, ife, ifl, ifz, ok_ite, h0, and_self, if_true, Nat.reduceLT, true_and, and_true]
theorem z_X0_beginsDecl {xs : Nat → Int32} {L d : Nat} {h : mm_H} {x0 : Nat} (h0 : x0 < 2147483648) (hd : 5 ≤ d) : Rn xs L d 106 [.int (nI x0)] h (.inl (some (.int (nI (f_X0_beginsDecl x0)))), h, 0, 0) := by
  have e1 : b_X0_beginsDecl x0 h = okR (f_X0_beginsDecl x0) h := fe_X0_beginsDecl h0
  have := w_X0_beginsDecl (xs := xs) (L := L) (d := d) (s := h) (x0 := x0) (by omega) (by rw [e1]; exact fun q => by cases q)
  rw [e1] at this
  exact this
def b_X0_beginsType  (x0 : Nat) (s : mm_H) : Rs mm_H := ck (x0 < 2147483648) (ife x0 1 (okR 1 s) (ife x0 12 (okR 1 s) (ife x0 20 (okR 1 s) (ife x0 25 (okR 1 s) (ife x0 26 (okR 1 s) (ife x0 31 (okR 1 s) (ife x0 42 (okR 1 s) (ife x0 64 (okR 1 s) (ife x0 78 (okR 1 s) (ife x0 80 (okR 1 s) (okR 0 s)))))))))))
theorem w_X0_beginsType {xs : Nat → Int32} {L : Nat} {x0 : Nat} {s : mm_H} {d : Nat} (hd : 5 ≤ d) (hN : b_X0_beginsType  x0 s ≠ none) : Rn xs L d 27 [.int (nI x0)] (idH s) (ou eN (idH) (b_X0_beginsType  x0 s)) := by
  unfold Rn
  unfold b_X0_beginsType at hN ⊢
  refine e_iload_n m_X0_beginsType dX0_beginsType_0 rfl rfl ?_
  refine e_ck hN (fun q1 hN => ?_)
  refine sw_c (a := x0) (b := 1) hN (fun q2 hN => ?_) (fun q2 hN => ?_)
  · refine e_lookup (t := 92) m_X0_beginsType dX0_beginsType_1 (by decide) (by rw [q2]; decide) ?_
    refine e_iconst (v := nI 1) m_X0_beginsType dX0_beginsType_92 (by decide) ?_
    exact e_reti m_X0_beginsType dX0_beginsType_93 (Or.inr ⟨rfl, by decide⟩)
  · refine sw_c (a := x0) (b := 12) hN (fun q3 hN => ?_) (fun q3 hN => ?_)
    · refine e_lookup (t := 92) m_X0_beginsType dX0_beginsType_1 (by decide) (by rw [q3]; decide) ?_
      refine e_iconst (v := nI 1) m_X0_beginsType dX0_beginsType_92 (by decide) ?_
      exact e_reti m_X0_beginsType dX0_beginsType_93 (Or.inr ⟨rfl, by decide⟩)
    · refine sw_c (a := x0) (b := 20) hN (fun q4 hN => ?_) (fun q4 hN => ?_)
      · refine e_lookup (t := 92) m_X0_beginsType dX0_beginsType_1 (by decide) (by rw [q4]; decide) ?_
        refine e_iconst (v := nI 1) m_X0_beginsType dX0_beginsType_92 (by decide) ?_
        exact e_reti m_X0_beginsType dX0_beginsType_93 (Or.inr ⟨rfl, by decide⟩)
      · refine sw_c (a := x0) (b := 25) hN (fun q5 hN => ?_) (fun q5 hN => ?_)
        · refine e_lookup (t := 92) m_X0_beginsType dX0_beginsType_1 (by decide) (by rw [q5]; decide) ?_
          refine e_iconst (v := nI 1) m_X0_beginsType dX0_beginsType_92 (by decide) ?_
          exact e_reti m_X0_beginsType dX0_beginsType_93 (Or.inr ⟨rfl, by decide⟩)
        · refine sw_c (a := x0) (b := 26) hN (fun q6 hN => ?_) (fun q6 hN => ?_)
          · refine e_lookup (t := 92) m_X0_beginsType dX0_beginsType_1 (by decide) (by rw [q6]; decide) ?_
            refine e_iconst (v := nI 1) m_X0_beginsType dX0_beginsType_92 (by decide) ?_
            exact e_reti m_X0_beginsType dX0_beginsType_93 (Or.inr ⟨rfl, by decide⟩)
          · refine sw_c (a := x0) (b := 31) hN (fun q7 hN => ?_) (fun q7 hN => ?_)
            · refine e_lookup (t := 92) m_X0_beginsType dX0_beginsType_1 (by decide) (by rw [q7]; decide) ?_
              refine e_iconst (v := nI 1) m_X0_beginsType dX0_beginsType_92 (by decide) ?_
              exact e_reti m_X0_beginsType dX0_beginsType_93 (Or.inr ⟨rfl, by decide⟩)
            · refine sw_c (a := x0) (b := 42) hN (fun q8 hN => ?_) (fun q8 hN => ?_)
              · refine e_lookup (t := 92) m_X0_beginsType dX0_beginsType_1 (by decide) (by rw [q8]; decide) ?_
                refine e_iconst (v := nI 1) m_X0_beginsType dX0_beginsType_92 (by decide) ?_
                exact e_reti m_X0_beginsType dX0_beginsType_93 (Or.inr ⟨rfl, by decide⟩)
              · refine sw_c (a := x0) (b := 64) hN (fun q9 hN => ?_) (fun q9 hN => ?_)
                · refine e_lookup (t := 92) m_X0_beginsType dX0_beginsType_1 (by decide) (by rw [q9]; decide) ?_
                  refine e_iconst (v := nI 1) m_X0_beginsType dX0_beginsType_92 (by decide) ?_
                  exact e_reti m_X0_beginsType dX0_beginsType_93 (Or.inr ⟨rfl, by decide⟩)
                · refine sw_c (a := x0) (b := 78) hN (fun q10 hN => ?_) (fun q10 hN => ?_)
                  · refine e_lookup (t := 92) m_X0_beginsType dX0_beginsType_1 (by decide) (by rw [q10]; decide) ?_
                    refine e_iconst (v := nI 1) m_X0_beginsType dX0_beginsType_92 (by decide) ?_
                    exact e_reti m_X0_beginsType dX0_beginsType_93 (Or.inr ⟨rfl, by decide⟩)
                  · refine sw_c (a := x0) (b := 80) hN (fun q11 hN => ?_) (fun q11 hN => ?_)
                    · refine e_lookup (t := 92) m_X0_beginsType dX0_beginsType_1 (by decide) (by rw [q11]; decide) ?_
                      refine e_iconst (v := nI 1) m_X0_beginsType dX0_beginsType_92 (by decide) ?_
                      exact e_reti m_X0_beginsType dX0_beginsType_93 (Or.inr ⟨rfl, by decide⟩)
                    · refine e_lookup (t := 94) m_X0_beginsType dX0_beginsType_1 (by decide) (by rw [nI_toInt q1, lk_dflt _ (by intro q hq; simp only [List.mem_cons, List.not_mem_nil, or_false] at hq; rcases hq with rfl | rfl | rfl | rfl | rfl | rfl | rfl | rfl | rfl | rfl <;> (simp only []; omega))]; decide) ?_
                      refine e_iconst (v := nI 0) m_X0_beginsType dX0_beginsType_94 (by decide) ?_
                      exact e_reti m_X0_beginsType dX0_beginsType_95 (Or.inr ⟨rfl, by decide⟩)

def f_X0_beginsType (x0 : Nat) : Nat := if x0 = 1 then 1 else if x0 = 12 then 1 else if x0 = 20 then 1 else if x0 = 25 then 1 else if x0 = 26 then 1 else if x0 = 31 then 1 else if x0 = 42 then 1 else if x0 = 64 then 1 else if x0 = 78 then 1 else if x0 = 80 then 1 else 0
theorem fb_X0_beginsType {x0 : Nat} : f_X0_beginsType x0 < 2 := by
  unfold f_X0_beginsType
  repeat' refine ite_lt ?_ ?_
  all_goals decide
theorem fe_X0_beginsType {x0 : Nat} (h0 : x0 < 2147483648) {s : mm_H} : b_X0_beginsType x0 s = okR (f_X0_beginsType x0) s := by
  unfold b_X0_beginsType f_X0_beginsType
  skip
  simp only [ck, ife, ifl, ifz, ok_ite, h0, and_self, if_true, Nat.reduceLT, true_and, and_true]
theorem z_X0_beginsType {xs : Nat → Int32} {L d : Nat} {h : mm_H} {x0 : Nat} (h0 : x0 < 2147483648) (hd : 5 ≤ d) : Rn xs L d 27 [.int (nI x0)] h (.inl (some (.int (nI (f_X0_beginsType x0)))), h, 0, 0) := by
  have e1 : b_X0_beginsType x0 h = okR (f_X0_beginsType x0) h := fe_X0_beginsType h0
  have := w_X0_beginsType (xs := xs) (L := L) (d := d) (s := h) (x0 := x0) (by omega) (by rw [e1]; exact fun q => by cases q)
  rw [e1] at this
  exact this
def b_X0_isUnarySign  (x0 : Nat) (s : mm_H) : Rs mm_H := ck (x0 < 2147483648) (ife x0 40 (okR 1 s) (ife x0 41 (okR 1 s) (ife x0 42 (okR 1 s) (ife x0 45 (okR 1 s) (ife x0 47 (okR 1 s) (ife x0 64 (okR 1 s) (ife x0 71 (okR 1 s) (okR 0 s))))))))
theorem w_X0_isUnarySign {xs : Nat → Int32} {L : Nat} {x0 : Nat} {s : mm_H} {d : Nat} (hd : 5 ≤ d) (hN : b_X0_isUnarySign  x0 s ≠ none) : Rn xs L d 33 [.int (nI x0)] (idH s) (ou eN (idH) (b_X0_isUnarySign  x0 s)) := by
  unfold Rn
  unfold b_X0_isUnarySign at hN ⊢
  refine e_iload_n m_X0_isUnarySign dX0_isUnarySign_0 rfl rfl ?_
  refine e_ck hN (fun q1 hN => ?_)
  refine sw_c (a := x0) (b := 40) hN (fun q2 hN => ?_) (fun q2 hN => ?_)
  · refine e_lookup (t := 68) m_X0_isUnarySign dX0_isUnarySign_1 (by decide) (by rw [q2]; decide) ?_
    refine e_iconst (v := nI 1) m_X0_isUnarySign dX0_isUnarySign_68 (by decide) ?_
    exact e_reti m_X0_isUnarySign dX0_isUnarySign_69 (Or.inr ⟨rfl, by decide⟩)
  · refine sw_c (a := x0) (b := 41) hN (fun q3 hN => ?_) (fun q3 hN => ?_)
    · refine e_lookup (t := 68) m_X0_isUnarySign dX0_isUnarySign_1 (by decide) (by rw [q3]; decide) ?_
      refine e_iconst (v := nI 1) m_X0_isUnarySign dX0_isUnarySign_68 (by decide) ?_
      exact e_reti m_X0_isUnarySign dX0_isUnarySign_69 (Or.inr ⟨rfl, by decide⟩)
    · refine sw_c (a := x0) (b := 42) hN (fun q4 hN => ?_) (fun q4 hN => ?_)
      · refine e_lookup (t := 68) m_X0_isUnarySign dX0_isUnarySign_1 (by decide) (by rw [q4]; decide) ?_
        refine e_iconst (v := nI 1) m_X0_isUnarySign dX0_isUnarySign_68 (by decide) ?_
        exact e_reti m_X0_isUnarySign dX0_isUnarySign_69 (Or.inr ⟨rfl, by decide⟩)
      · refine sw_c (a := x0) (b := 45) hN (fun q5 hN => ?_) (fun q5 hN => ?_)
        · refine e_lookup (t := 68) m_X0_isUnarySign dX0_isUnarySign_1 (by decide) (by rw [q5]; decide) ?_
          refine e_iconst (v := nI 1) m_X0_isUnarySign dX0_isUnarySign_68 (by decide) ?_
          exact e_reti m_X0_isUnarySign dX0_isUnarySign_69 (Or.inr ⟨rfl, by decide⟩)
        · refine sw_c (a := x0) (b := 47) hN (fun q6 hN => ?_) (fun q6 hN => ?_)
          · refine e_lookup (t := 68) m_X0_isUnarySign dX0_isUnarySign_1 (by decide) (by rw [q6]; decide) ?_
            refine e_iconst (v := nI 1) m_X0_isUnarySign dX0_isUnarySign_68 (by decide) ?_
            exact e_reti m_X0_isUnarySign dX0_isUnarySign_69 (Or.inr ⟨rfl, by decide⟩)
          · refine sw_c (a := x0) (b := 64) hN (fun q7 hN => ?_) (fun q7 hN => ?_)
            · refine e_lookup (t := 68) m_X0_isUnarySign dX0_isUnarySign_1 (by decide) (by rw [q7]; decide) ?_
              refine e_iconst (v := nI 1) m_X0_isUnarySign dX0_isUnarySign_68 (by decide) ?_
              exact e_reti m_X0_isUnarySign dX0_isUnarySign_69 (Or.inr ⟨rfl, by decide⟩)
            · refine sw_c (a := x0) (b := 71) hN (fun q8 hN => ?_) (fun q8 hN => ?_)
              · refine e_lookup (t := 68) m_X0_isUnarySign dX0_isUnarySign_1 (by decide) (by rw [q8]; decide) ?_
                refine e_iconst (v := nI 1) m_X0_isUnarySign dX0_isUnarySign_68 (by decide) ?_
                exact e_reti m_X0_isUnarySign dX0_isUnarySign_69 (Or.inr ⟨rfl, by decide⟩)
              · refine e_lookup (t := 70) m_X0_isUnarySign dX0_isUnarySign_1 (by decide) (by rw [nI_toInt q1, lk_dflt _ (by intro q hq; simp only [List.mem_cons, List.not_mem_nil, or_false] at hq; rcases hq with rfl | rfl | rfl | rfl | rfl | rfl | rfl <;> (simp only []; omega))]; decide) ?_
                refine e_iconst (v := nI 0) m_X0_isUnarySign dX0_isUnarySign_70 (by decide) ?_
                exact e_reti m_X0_isUnarySign dX0_isUnarySign_71 (Or.inr ⟨rfl, by decide⟩)

def f_X0_isUnarySign (x0 : Nat) : Nat := if x0 = 40 then 1 else if x0 = 41 then 1 else if x0 = 42 then 1 else if x0 = 45 then 1 else if x0 = 47 then 1 else if x0 = 64 then 1 else if x0 = 71 then 1 else 0
theorem fb_X0_isUnarySign {x0 : Nat} : f_X0_isUnarySign x0 < 2 := by
  unfold f_X0_isUnarySign
  repeat' refine ite_lt ?_ ?_
  all_goals decide
theorem fe_X0_isUnarySign {x0 : Nat} (h0 : x0 < 2147483648) {s : mm_H} : b_X0_isUnarySign x0 s = okR (f_X0_isUnarySign x0) s := by
  unfold b_X0_isUnarySign f_X0_isUnarySign
  skip
  simp only [ck, ife, ifl, ifz, ok_ite, h0, and_self, if_true, Nat.reduceLT, true_and, and_true]
theorem z_X0_isUnarySign {xs : Nat → Int32} {L d : Nat} {h : mm_H} {x0 : Nat} (h0 : x0 < 2147483648) (hd : 5 ≤ d) : Rn xs L d 33 [.int (nI x0)] h (.inl (some (.int (nI (f_X0_isUnarySign x0)))), h, 0, 0) := by
  have e1 : b_X0_isUnarySign x0 h = okR (f_X0_isUnarySign x0) h := fe_X0_isUnarySign h0
  have := w_X0_isUnarySign (xs := xs) (L := L) (d := d) (s := h) (x0 := x0) (by omega) (by rw [e1]; exact fun q => by cases q)
  rw [e1] at this
  exact this
def b_X0_beginsExpr  (x0 : Nat) (s : mm_H) : Rs mm_H := ifl x0 1 (ck (x0 < 2147483648) (ifz (f_X0_beginsType x0) (ck (x0 < 2147483648) (ifz (f_X0_isUnarySign x0) (okR 0 s) (okR 1 s))) (okR 1 s))) (ifl 5 x0 (ck (x0 < 2147483648) (ifz (f_X0_beginsType x0) (ck (x0 < 2147483648) (ifz (f_X0_isUnarySign x0) (okR 0 s) (okR 1 s))) (okR 1 s))) (okR 1 s))
theorem w_X0_beginsExpr {xs : Nat → Int32} {L : Nat} {x0 : Nat} {s : mm_H} {d : Nat} (hd : 6 ≤ d) (hN : b_X0_beginsExpr  x0 s ≠ none) : Rn xs L d 86 [.int (nI x0)] (idH s) (ou eN (idH) (b_X0_beginsExpr  x0 s)) := by
  unfold Rn
  unfold b_X0_beginsExpr at hN ⊢
  refine e_iload_n m_X0_beginsExpr dX0_beginsExpr_0 rfl rfl ?_
  refine e_iconst (v := nI 1) m_X0_beginsExpr dX0_beginsExpr_1 (by decide) ?_
  refine e_ilt (t := 10) (a := x0) (b := 1) hN m_X0_beginsExpr dX0_beginsExpr_2 (by decide) (fun q1 hN => ?_) (fun q1 hN => ?_)
  · refine e_iload_n m_X0_beginsExpr dX0_beginsExpr_10 rfl rfl ?_
    refine e_ck hN (fun q2 hN => ?_)
    refine e_cs (as := [_]) m_X0_beginsExpr dX0_beginsExpr_11 c_RX0_9 (by decide) rfl rfl (Nat.le_of_ble_eq_true rfl) (Nat.le_of_ble_eq_true rfl) (by omega) (z_X0_beginsType q2 (by omega)) ?_
    refine e_ifne (t := 24) hN m_X0_beginsExpr dX0_beginsExpr_14 (by decide) (fun q3 hN => ?_) (fun q3 hN => ?_)
    · refine e_iload_n m_X0_beginsExpr dX0_beginsExpr_17 rfl rfl ?_
      refine e_ck hN (fun q4 hN => ?_)
      refine e_cs (as := [_]) m_X0_beginsExpr dX0_beginsExpr_18 c_RX0_13 (by decide) rfl rfl (Nat.le_of_ble_eq_true rfl) (Nat.le_of_ble_eq_true rfl) (by omega) (z_X0_isUnarySign q4 (by omega)) ?_
      refine e_ifeq (t := 28) hN m_X0_beginsExpr dX0_beginsExpr_21 (by decide) (fun q5 hN => ?_) (fun q5 hN => ?_)
      · refine e_iconst (v := nI 0) m_X0_beginsExpr dX0_beginsExpr_28 (by decide) ?_
        exact e_reti m_X0_beginsExpr dX0_beginsExpr_29 (Or.inr ⟨rfl, by decide⟩)
      · refine e_iconst (v := nI 1) m_X0_beginsExpr dX0_beginsExpr_24 (by decide) ?_
        refine e_goto (t := 29) m_X0_beginsExpr dX0_beginsExpr_25 (by decide) ?_
        exact e_reti m_X0_beginsExpr dX0_beginsExpr_29 (Or.inr ⟨rfl, by decide⟩)
    · refine e_iconst (v := nI 1) m_X0_beginsExpr dX0_beginsExpr_24 (by decide) ?_
      refine e_goto (t := 29) m_X0_beginsExpr dX0_beginsExpr_25 (by decide) ?_
      exact e_reti m_X0_beginsExpr dX0_beginsExpr_29 (Or.inr ⟨rfl, by decide⟩)
  · refine e_iload_n m_X0_beginsExpr dX0_beginsExpr_5 rfl rfl ?_
    refine e_iconst (v := nI 5) m_X0_beginsExpr dX0_beginsExpr_6 (by decide) ?_
    refine e_ile (t := 24) (a := x0) (b := 5) hN m_X0_beginsExpr dX0_beginsExpr_7 (by decide) (fun q6 hN => ?_) (fun q6 hN => ?_)
    · refine e_iload_n m_X0_beginsExpr dX0_beginsExpr_10 rfl rfl ?_
      refine e_ck hN (fun q7 hN => ?_)
      refine e_cs (as := [_]) m_X0_beginsExpr dX0_beginsExpr_11 c_RX0_9 (by decide) rfl rfl (Nat.le_of_ble_eq_true rfl) (Nat.le_of_ble_eq_true rfl) (by omega) (z_X0_beginsType q7 (by omega)) ?_
      refine e_ifne (t := 24) hN m_X0_beginsExpr dX0_beginsExpr_14 (by decide) (fun q8 hN => ?_) (fun q8 hN => ?_)
      · refine e_iload_n m_X0_beginsExpr dX0_beginsExpr_17 rfl rfl ?_
        refine e_ck hN (fun q9 hN => ?_)
        refine e_cs (as := [_]) m_X0_beginsExpr dX0_beginsExpr_18 c_RX0_13 (by decide) rfl rfl (Nat.le_of_ble_eq_true rfl) (Nat.le_of_ble_eq_true rfl) (by omega) (z_X0_isUnarySign q9 (by omega)) ?_
        refine e_ifeq (t := 28) hN m_X0_beginsExpr dX0_beginsExpr_21 (by decide) (fun q10 hN => ?_) (fun q10 hN => ?_)
        · refine e_iconst (v := nI 0) m_X0_beginsExpr dX0_beginsExpr_28 (by decide) ?_
          exact e_reti m_X0_beginsExpr dX0_beginsExpr_29 (Or.inr ⟨rfl, by decide⟩)
        · refine e_iconst (v := nI 1) m_X0_beginsExpr dX0_beginsExpr_24 (by decide) ?_
          refine e_goto (t := 29) m_X0_beginsExpr dX0_beginsExpr_25 (by decide) ?_
          exact e_reti m_X0_beginsExpr dX0_beginsExpr_29 (Or.inr ⟨rfl, by decide⟩)
      · refine e_iconst (v := nI 1) m_X0_beginsExpr dX0_beginsExpr_24 (by decide) ?_
        refine e_goto (t := 29) m_X0_beginsExpr dX0_beginsExpr_25 (by decide) ?_
        exact e_reti m_X0_beginsExpr dX0_beginsExpr_29 (Or.inr ⟨rfl, by decide⟩)
    · refine e_iconst (v := nI 1) m_X0_beginsExpr dX0_beginsExpr_24 (by decide) ?_
      refine e_goto (t := 29) m_X0_beginsExpr dX0_beginsExpr_25 (by decide) ?_
      exact e_reti m_X0_beginsExpr dX0_beginsExpr_29 (Or.inr ⟨rfl, by decide⟩)

def f_X0_beginsExpr (x0 : Nat) : Nat := if x0 < 1 then if (f_X0_beginsType x0) = 0 then if (f_X0_isUnarySign x0) = 0 then 0 else 1 else 1 else if 5 < x0 then if (f_X0_beginsType x0) = 0 then if (f_X0_isUnarySign x0) = 0 then 0 else 1 else 1 else 1
theorem fb_X0_beginsExpr {x0 : Nat} : f_X0_beginsExpr x0 < 2 := by
  unfold f_X0_beginsExpr
  repeat' refine ite_lt ?_ ?_
  all_goals decide
theorem fe_X0_beginsExpr {x0 : Nat} (h0 : x0 < 2147483648) {s : mm_H} : b_X0_beginsExpr x0 s = okR (f_X0_beginsExpr x0) s := by
  unfold b_X0_beginsExpr f_X0_beginsExpr
  have u0 : f_X0_beginsType x0 < 2147483648 := Nat.lt_of_lt_of_le fb_X0_beginsType (by decide)
  have u1 : f_X0_isUnarySign x0 < 2147483648 := Nat.lt_of_lt_of_le fb_X0_isUnarySign (by decide)
  simp only [ck, ife, ifl, ifz, ok_ite, h0, u0, u1, and_self, if_true, Nat.reduceLT, true_and, and_true]
theorem z_X0_beginsExpr {xs : Nat → Int32} {L d : Nat} {h : mm_H} {x0 : Nat} (h0 : x0 < 2147483648) (hd : 6 ≤ d) : Rn xs L d 86 [.int (nI x0)] h (.inl (some (.int (nI (f_X0_beginsExpr x0)))), h, 0, 0) := by
  have e1 : b_X0_beginsExpr x0 h = okR (f_X0_beginsExpr x0) h := fe_X0_beginsExpr h0
  have := w_X0_beginsExpr (xs := xs) (L := L) (d := d) (s := h) (x0 := x0) (by omega) (by rw [e1]; exact fun q => by cases q)
  rw [e1] at this
  exact this
def b_X0_isOpAssign  (x0 : Nat) (s : mm_H) : Rs mm_H := ifl x0 51 (okR 0 s) (ifl 61 x0 (okR 0 s) (okR 1 s))
theorem w_X0_isOpAssign {xs : Nat → Int32} {L : Nat} {x0 : Nat} {s : mm_H} {d : Nat} (hd : 5 ≤ d) (hN : b_X0_isOpAssign  x0 s ≠ none) : Rn xs L d 68 [.int (nI x0)] (idH s) (ou eN (idH) (b_X0_isOpAssign  x0 s)) := by
  unfold Rn
  unfold b_X0_isOpAssign at hN ⊢
  refine e_iload_n m_X0_isOpAssign dX0_isOpAssign_0 rfl rfl ?_
  refine e_bipush (v := nI 51) m_X0_isOpAssign dX0_isOpAssign_1 (by decide) ?_
  refine e_ilt (t := 16) (a := x0) (b := 51) hN m_X0_isOpAssign dX0_isOpAssign_3 (by decide) (fun q1 hN => ?_) (fun q1 hN => ?_)
  · refine e_iconst (v := nI 0) m_X0_isOpAssign dX0_isOpAssign_16 (by decide) ?_
    exact e_reti m_X0_isOpAssign dX0_isOpAssign_17 (Or.inr ⟨rfl, by decide⟩)
  · refine e_iload_n m_X0_isOpAssign dX0_isOpAssign_6 rfl rfl ?_
    refine e_bipush (v := nI 61) m_X0_isOpAssign dX0_isOpAssign_7 (by decide) ?_
    refine e_igt (t := 16) (a := x0) (b := 61) hN m_X0_isOpAssign dX0_isOpAssign_9 (by decide) (fun q2 hN => ?_) (fun q2 hN => ?_)
    · refine e_iconst (v := nI 0) m_X0_isOpAssign dX0_isOpAssign_16 (by decide) ?_
      exact e_reti m_X0_isOpAssign dX0_isOpAssign_17 (Or.inr ⟨rfl, by decide⟩)
    · refine e_iconst (v := nI 1) m_X0_isOpAssign dX0_isOpAssign_12 (by decide) ?_
      refine e_goto (t := 17) m_X0_isOpAssign dX0_isOpAssign_13 (by decide) ?_
      exact e_reti m_X0_isOpAssign dX0_isOpAssign_17 (Or.inr ⟨rfl, by decide⟩)

def f_X0_isOpAssign (x0 : Nat) : Nat := if x0 < 51 then 0 else if 61 < x0 then 0 else 1
theorem fb_X0_isOpAssign {x0 : Nat} : f_X0_isOpAssign x0 < 2 := by
  unfold f_X0_isOpAssign
  repeat' refine ite_lt ?_ ?_
  all_goals decide
theorem fe_X0_isOpAssign {x0 : Nat} (h0 : x0 < 2147483648) {s : mm_H} : b_X0_isOpAssign x0 s = okR (f_X0_isOpAssign x0) s := by
  unfold b_X0_isOpAssign f_X0_isOpAssign
  skip
  simp only [ck, ife, ifl, ifz, ok_ite, h0, and_self, if_true, Nat.reduceLT, true_and, and_true]
theorem z_X0_isOpAssign {xs : Nat → Int32} {L d : Nat} {h : mm_H} {x0 : Nat} (h0 : x0 < 2147483648) (hd : 5 ≤ d) : Rn xs L d 68 [.int (nI x0)] h (.inl (some (.int (nI (f_X0_isOpAssign x0)))), h, 0, 0) := by
  have e1 : b_X0_isOpAssign x0 h = okR (f_X0_isOpAssign x0) h := fe_X0_isOpAssign h0
  have := w_X0_isOpAssign (xs := xs) (L := L) (d := d) (s := h) (x0 := x0) (by omega) (by rw [e1]; exact fun q => by cases q)
  rw [e1] at this
  exact this
def b_X0_binding  (x0 : Nat) (s : mm_H) : Rs mm_H := ck (x0 < 2147483648) (ife x0 40 (okR 4 s) (ife x0 41 (okR 4 s) (ife x0 42 (okR 5 s) (ife x0 43 (okR 5 s) (ife x0 44 (okR 5 s) (ife x0 45 (okR 5 s) (ife x0 46 (okR 4 s) (ife x0 47 (okR 4 s) (ife x0 48 (okR 5 s) (ife x0 49 (okR 5 s) (ife x0 50 (okR 5 s) (ife x0 51 (okR 0 s) (ife x0 52 (okR 0 s) (ife x0 53 (okR 0 s) (ife x0 54 (okR 0 s) (ife x0 55 (okR 0 s) (ife x0 56 (okR 0 s) (ife x0 57 (okR 0 s) (ife x0 58 (okR 0 s) (ife x0 59 (okR 0 s) (ife x0 60 (okR 0 s) (ife x0 61 (okR 0 s) (ife x0 62 (okR 2 s) (ife x0 63 (okR 1 s) (ife x0 64 (okR 0 s) (ife x0 65 (okR 0 s) (ife x0 66 (okR 0 s) (ife x0 67 (okR 3 s) (ife x0 68 (okR 3 s) (ife x0 69 (okR 3 s) (ife x0 70 (okR 0 s) (ife x0 71 (okR 0 s) (ife x0 72 (okR 0 s) (ife x0 73 (okR 3 s) (ife x0 74 (okR 3 s) (ife x0 75 (okR 3 s) (okR 0 s)))))))))))))))))))))))))))))))))))))
theorem w_X0_binding {xs : Nat → Int32} {L : Nat} {x0 : Nat} {s : mm_H} {d : Nat} (hd : 5 ≤ d) (hN : b_X0_binding  x0 s ≠ none) : Rn xs L d 96 [.int (nI x0)] (idH s) (ou eN (idH) (b_X0_binding  x0 s)) := by
  unfold Rn
  unfold b_X0_binding at hN ⊢
  refine e_iload_n m_X0_binding dX0_binding_0 rfl rfl ?_
  refine e_ck hN (fun q1 hN => ?_)
  refine sw_c (a := x0) (b := 40) hN (fun q2 hN => ?_) (fun q2 hN => ?_)
  · refine e_table (t := 166) m_X0_binding dX0_binding_1 (by rw [q2]; decide) (Or.inr (by rw [q2]; decide)) ?_
    refine e_iconst (v := nI 4) m_X0_binding dX0_binding_166 (by decide) ?_
    exact e_reti m_X0_binding dX0_binding_167 (Or.inl rfl)
  · refine sw_c (a := x0) (b := 41) hN (fun q3 hN => ?_) (fun q3 hN => ?_)
    · refine e_table (t := 166) m_X0_binding dX0_binding_1 (by rw [q3]; decide) (Or.inr (by rw [q3]; decide)) ?_
      refine e_iconst (v := nI 4) m_X0_binding dX0_binding_166 (by decide) ?_
      exact e_reti m_X0_binding dX0_binding_167 (Or.inl rfl)
    · refine sw_c (a := x0) (b := 42) hN (fun q4 hN => ?_) (fun q4 hN => ?_)
      · refine e_table (t := 168) m_X0_binding dX0_binding_1 (by rw [q4]; decide) (Or.inr (by rw [q4]; decide)) ?_
        refine e_iconst (v := nI 5) m_X0_binding dX0_binding_168 (by decide) ?_
        exact e_reti m_X0_binding dX0_binding_169 (Or.inl rfl)
      · refine sw_c (a := x0) (b := 43) hN (fun q5 hN => ?_) (fun q5 hN => ?_)
        · refine e_table (t := 168) m_X0_binding dX0_binding_1 (by rw [q5]; decide) (Or.inr (by rw [q5]; decide)) ?_
          refine e_iconst (v := nI 5) m_X0_binding dX0_binding_168 (by decide) ?_
          exact e_reti m_X0_binding dX0_binding_169 (Or.inl rfl)
        · refine sw_c (a := x0) (b := 44) hN (fun q6 hN => ?_) (fun q6 hN => ?_)
          · refine e_table (t := 168) m_X0_binding dX0_binding_1 (by rw [q6]; decide) (Or.inr (by rw [q6]; decide)) ?_
            refine e_iconst (v := nI 5) m_X0_binding dX0_binding_168 (by decide) ?_
            exact e_reti m_X0_binding dX0_binding_169 (Or.inl rfl)
          · refine sw_c (a := x0) (b := 45) hN (fun q7 hN => ?_) (fun q7 hN => ?_)
            · refine e_table (t := 168) m_X0_binding dX0_binding_1 (by rw [q7]; decide) (Or.inr (by rw [q7]; decide)) ?_
              refine e_iconst (v := nI 5) m_X0_binding dX0_binding_168 (by decide) ?_
              exact e_reti m_X0_binding dX0_binding_169 (Or.inl rfl)
            · refine sw_c (a := x0) (b := 46) hN (fun q8 hN => ?_) (fun q8 hN => ?_)
              · refine e_table (t := 166) m_X0_binding dX0_binding_1 (by rw [q8]; decide) (Or.inr (by rw [q8]; decide)) ?_
                refine e_iconst (v := nI 4) m_X0_binding dX0_binding_166 (by decide) ?_
                exact e_reti m_X0_binding dX0_binding_167 (Or.inl rfl)
              · refine sw_c (a := x0) (b := 47) hN (fun q9 hN => ?_) (fun q9 hN => ?_)
                · refine e_table (t := 166) m_X0_binding dX0_binding_1 (by rw [q9]; decide) (Or.inr (by rw [q9]; decide)) ?_
                  refine e_iconst (v := nI 4) m_X0_binding dX0_binding_166 (by decide) ?_
                  exact e_reti m_X0_binding dX0_binding_167 (Or.inl rfl)
                · refine sw_c (a := x0) (b := 48) hN (fun q10 hN => ?_) (fun q10 hN => ?_)
                  · refine e_table (t := 168) m_X0_binding dX0_binding_1 (by rw [q10]; decide) (Or.inr (by rw [q10]; decide)) ?_
                    refine e_iconst (v := nI 5) m_X0_binding dX0_binding_168 (by decide) ?_
                    exact e_reti m_X0_binding dX0_binding_169 (Or.inl rfl)
                  · refine sw_c (a := x0) (b := 49) hN (fun q11 hN => ?_) (fun q11 hN => ?_)
                    · refine e_table (t := 168) m_X0_binding dX0_binding_1 (by rw [q11]; decide) (Or.inr (by rw [q11]; decide)) ?_
                      refine e_iconst (v := nI 5) m_X0_binding dX0_binding_168 (by decide) ?_
                      exact e_reti m_X0_binding dX0_binding_169 (Or.inl rfl)
                    · refine sw_c (a := x0) (b := 50) hN (fun q12 hN => ?_) (fun q12 hN => ?_)
                      · refine e_table (t := 168) m_X0_binding dX0_binding_1 (by rw [q12]; decide) (Or.inr (by rw [q12]; decide)) ?_
                        refine e_iconst (v := nI 5) m_X0_binding dX0_binding_168 (by decide) ?_
                        exact e_reti m_X0_binding dX0_binding_169 (Or.inl rfl)
                      · refine sw_c (a := x0) (b := 51) hN (fun q13 hN => ?_) (fun q13 hN => ?_)
                        · refine e_table (t := 170) m_X0_binding dX0_binding_1 (by rw [q13]; decide) (Or.inr (by rw [q13]; decide)) ?_
                          refine e_iconst (v := nI 0) m_X0_binding dX0_binding_170 (by decide) ?_
                          exact e_reti m_X0_binding dX0_binding_171 (Or.inl rfl)
                        · refine sw_c (a := x0) (b := 52) hN (fun q14 hN => ?_) (fun q14 hN => ?_)
                          · refine e_table (t := 170) m_X0_binding dX0_binding_1 (by rw [q14]; decide) (Or.inr (by rw [q14]; decide)) ?_
                            refine e_iconst (v := nI 0) m_X0_binding dX0_binding_170 (by decide) ?_
                            exact e_reti m_X0_binding dX0_binding_171 (Or.inl rfl)
                          · refine sw_c (a := x0) (b := 53) hN (fun q15 hN => ?_) (fun q15 hN => ?_)
                            · refine e_table (t := 170) m_X0_binding dX0_binding_1 (by rw [q15]; decide) (Or.inr (by rw [q15]; decide)) ?_
                              refine e_iconst (v := nI 0) m_X0_binding dX0_binding_170 (by decide) ?_
                              exact e_reti m_X0_binding dX0_binding_171 (Or.inl rfl)
                            · refine sw_c (a := x0) (b := 54) hN (fun q16 hN => ?_) (fun q16 hN => ?_)
                              · refine e_table (t := 170) m_X0_binding dX0_binding_1 (by rw [q16]; decide) (Or.inr (by rw [q16]; decide)) ?_
                                refine e_iconst (v := nI 0) m_X0_binding dX0_binding_170 (by decide) ?_
                                exact e_reti m_X0_binding dX0_binding_171 (Or.inl rfl)
                              · refine sw_c (a := x0) (b := 55) hN (fun q17 hN => ?_) (fun q17 hN => ?_)
                                · refine e_table (t := 170) m_X0_binding dX0_binding_1 (by rw [q17]; decide) (Or.inr (by rw [q17]; decide)) ?_
                                  refine e_iconst (v := nI 0) m_X0_binding dX0_binding_170 (by decide) ?_
                                  exact e_reti m_X0_binding dX0_binding_171 (Or.inl rfl)
                                · refine sw_c (a := x0) (b := 56) hN (fun q18 hN => ?_) (fun q18 hN => ?_)
                                  · refine e_table (t := 170) m_X0_binding dX0_binding_1 (by rw [q18]; decide) (Or.inr (by rw [q18]; decide)) ?_
                                    refine e_iconst (v := nI 0) m_X0_binding dX0_binding_170 (by decide) ?_
                                    exact e_reti m_X0_binding dX0_binding_171 (Or.inl rfl)
                                  · refine sw_c (a := x0) (b := 57) hN (fun q19 hN => ?_) (fun q19 hN => ?_)
                                    · refine e_table (t := 170) m_X0_binding dX0_binding_1 (by rw [q19]; decide) (Or.inr (by rw [q19]; decide)) ?_
                                      refine e_iconst (v := nI 0) m_X0_binding dX0_binding_170 (by decide) ?_
                                      exact e_reti m_X0_binding dX0_binding_171 (Or.inl rfl)
                                    · refine sw_c (a := x0) (b := 58) hN (fun q20 hN => ?_) (fun q20 hN => ?_)
                                      · refine e_table (t := 170) m_X0_binding dX0_binding_1 (by rw [q20]; decide) (Or.inr (by rw [q20]; decide)) ?_
                                        refine e_iconst (v := nI 0) m_X0_binding dX0_binding_170 (by decide) ?_
                                        exact e_reti m_X0_binding dX0_binding_171 (Or.inl rfl)
                                      · refine sw_c (a := x0) (b := 59) hN (fun q21 hN => ?_) (fun q21 hN => ?_)
                                        · refine e_table (t := 170) m_X0_binding dX0_binding_1 (by rw [q21]; decide) (Or.inr (by rw [q21]; decide)) ?_
                                          refine e_iconst (v := nI 0) m_X0_binding dX0_binding_170 (by decide) ?_
                                          exact e_reti m_X0_binding dX0_binding_171 (Or.inl rfl)
                                        · refine sw_c (a := x0) (b := 60) hN (fun q22 hN => ?_) (fun q22 hN => ?_)
                                          · refine e_table (t := 170) m_X0_binding dX0_binding_1 (by rw [q22]; decide) (Or.inr (by rw [q22]; decide)) ?_
                                            refine e_iconst (v := nI 0) m_X0_binding dX0_binding_170 (by decide) ?_
                                            exact e_reti m_X0_binding dX0_binding_171 (Or.inl rfl)
                                          · refine sw_c (a := x0) (b := 61) hN (fun q23 hN => ?_) (fun q23 hN => ?_)
                                            · refine e_table (t := 170) m_X0_binding dX0_binding_1 (by rw [q23]; decide) (Or.inr (by rw [q23]; decide)) ?_
                                              refine e_iconst (v := nI 0) m_X0_binding dX0_binding_170 (by decide) ?_
                                              exact e_reti m_X0_binding dX0_binding_171 (Or.inl rfl)
                                            · refine sw_c (a := x0) (b := 62) hN (fun q24 hN => ?_) (fun q24 hN => ?_)
                                              · refine e_table (t := 162) m_X0_binding dX0_binding_1 (by rw [q24]; decide) (Or.inr (by rw [q24]; decide)) ?_
                                                refine e_iconst (v := nI 2) m_X0_binding dX0_binding_162 (by decide) ?_
                                                exact e_reti m_X0_binding dX0_binding_163 (Or.inl rfl)
                                              · refine sw_c (a := x0) (b := 63) hN (fun q25 hN => ?_) (fun q25 hN => ?_)
                                                · refine e_table (t := 160) m_X0_binding dX0_binding_1 (by rw [q25]; decide) (Or.inr (by rw [q25]; decide)) ?_
                                                  refine e_iconst (v := nI 1) m_X0_binding dX0_binding_160 (by decide) ?_
                                                  exact e_reti m_X0_binding dX0_binding_161 (Or.inl rfl)
                                                · refine sw_c (a := x0) (b := 64) hN (fun q26 hN => ?_) (fun q26 hN => ?_)
                                                  · refine e_table (t := 170) m_X0_binding dX0_binding_1 (by rw [q26]; decide) (Or.inr (by rw [q26]; decide)) ?_
                                                    refine e_iconst (v := nI 0) m_X0_binding dX0_binding_170 (by decide) ?_
                                                    exact e_reti m_X0_binding dX0_binding_171 (Or.inl rfl)
                                                  · refine sw_c (a := x0) (b := 65) hN (fun q27 hN => ?_) (fun q27 hN => ?_)
                                                    · refine e_table (t := 170) m_X0_binding dX0_binding_1 (by rw [q27]; decide) (Or.inr (by rw [q27]; decide)) ?_
                                                      refine e_iconst (v := nI 0) m_X0_binding dX0_binding_170 (by decide) ?_
                                                      exact e_reti m_X0_binding dX0_binding_171 (Or.inl rfl)
                                                    · refine sw_c (a := x0) (b := 66) hN (fun q28 hN => ?_) (fun q28 hN => ?_)
                                                      · refine e_table (t := 170) m_X0_binding dX0_binding_1 (by rw [q28]; decide) (Or.inr (by rw [q28]; decide)) ?_
                                                        refine e_iconst (v := nI 0) m_X0_binding dX0_binding_170 (by decide) ?_
                                                        exact e_reti m_X0_binding dX0_binding_171 (Or.inl rfl)
                                                      · refine sw_c (a := x0) (b := 67) hN (fun q29 hN => ?_) (fun q29 hN => ?_)
                                                        · refine e_table (t := 164) m_X0_binding dX0_binding_1 (by rw [q29]; decide) (Or.inr (by rw [q29]; decide)) ?_
                                                          refine e_iconst (v := nI 3) m_X0_binding dX0_binding_164 (by decide) ?_
                                                          exact e_reti m_X0_binding dX0_binding_165 (Or.inl rfl)
                                                        · refine sw_c (a := x0) (b := 68) hN (fun q30 hN => ?_) (fun q30 hN => ?_)
                                                          · refine e_table (t := 164) m_X0_binding dX0_binding_1 (by rw [q30]; decide) (Or.inr (by rw [q30]; decide)) ?_
                                                            refine e_iconst (v := nI 3) m_X0_binding dX0_binding_164 (by decide) ?_
                                                            exact e_reti m_X0_binding dX0_binding_165 (Or.inl rfl)
                                                          · refine sw_c (a := x0) (b := 69) hN (fun q31 hN => ?_) (fun q31 hN => ?_)
                                                            · refine e_table (t := 164) m_X0_binding dX0_binding_1 (by rw [q31]; decide) (Or.inr (by rw [q31]; decide)) ?_
                                                              refine e_iconst (v := nI 3) m_X0_binding dX0_binding_164 (by decide) ?_
                                                              exact e_reti m_X0_binding dX0_binding_165 (Or.inl rfl)
                                                            · refine sw_c (a := x0) (b := 70) hN (fun q32 hN => ?_) (fun q32 hN => ?_)
                                                              · refine e_table (t := 170) m_X0_binding dX0_binding_1 (by rw [q32]; decide) (Or.inr (by rw [q32]; decide)) ?_
                                                                refine e_iconst (v := nI 0) m_X0_binding dX0_binding_170 (by decide) ?_
                                                                exact e_reti m_X0_binding dX0_binding_171 (Or.inl rfl)
                                                              · refine sw_c (a := x0) (b := 71) hN (fun q33 hN => ?_) (fun q33 hN => ?_)
                                                                · refine e_table (t := 170) m_X0_binding dX0_binding_1 (by rw [q33]; decide) (Or.inr (by rw [q33]; decide)) ?_
                                                                  refine e_iconst (v := nI 0) m_X0_binding dX0_binding_170 (by decide) ?_
                                                                  exact e_reti m_X0_binding dX0_binding_171 (Or.inl rfl)
                                                                · refine sw_c (a := x0) (b := 72) hN (fun q34 hN => ?_) (fun q34 hN => ?_)
                                                                  · refine e_table (t := 170) m_X0_binding dX0_binding_1 (by rw [q34]; decide) (Or.inr (by rw [q34]; decide)) ?_
                                                                    refine e_iconst (v := nI 0) m_X0_binding dX0_binding_170 (by decide) ?_
                                                                    exact e_reti m_X0_binding dX0_binding_171 (Or.inl rfl)
                                                                  · refine sw_c (a := x0) (b := 73) hN (fun q35 hN => ?_) (fun q35 hN => ?_)
                                                                    · refine e_table (t := 164) m_X0_binding dX0_binding_1 (by rw [q35]; decide) (Or.inr (by rw [q35]; decide)) ?_
                                                                      refine e_iconst (v := nI 3) m_X0_binding dX0_binding_164 (by decide) ?_
                                                                      exact e_reti m_X0_binding dX0_binding_165 (Or.inl rfl)
                                                                    · refine sw_c (a := x0) (b := 74) hN (fun q36 hN => ?_) (fun q36 hN => ?_)
                                                                      · refine e_table (t := 164) m_X0_binding dX0_binding_1 (by rw [q36]; decide) (Or.inr (by rw [q36]; decide)) ?_
                                                                        refine e_iconst (v := nI 3) m_X0_binding dX0_binding_164 (by decide) ?_
                                                                        exact e_reti m_X0_binding dX0_binding_165 (Or.inl rfl)
                                                                      · refine sw_c (a := x0) (b := 75) hN (fun q37 hN => ?_) (fun q37 hN => ?_)
                                                                        · refine e_table (t := 164) m_X0_binding dX0_binding_1 (by rw [q37]; decide) (Or.inr (by rw [q37]; decide)) ?_
                                                                          refine e_iconst (v := nI 3) m_X0_binding dX0_binding_164 (by decide) ?_
                                                                          exact e_reti m_X0_binding dX0_binding_165 (Or.inl rfl)
                                                                        · refine e_table (t := 170) m_X0_binding dX0_binding_1 (by rw [show mm_table _ _ _ _ _ = _ from if_pos (by rw [nI_toInt q1]; omega)]; decide) (Or.inl (by rw [nI_toInt q1]; omega)) ?_
                                                                          refine e_iconst (v := nI 0) m_X0_binding dX0_binding_170 (by decide) ?_
                                                                          exact e_reti m_X0_binding dX0_binding_171 (Or.inl rfl)

def f_X0_binding (x0 : Nat) : Nat := if x0 = 40 then 4 else if x0 = 41 then 4 else if x0 = 42 then 5 else if x0 = 43 then 5 else if x0 = 44 then 5 else if x0 = 45 then 5 else if x0 = 46 then 4 else if x0 = 47 then 4 else if x0 = 48 then 5 else if x0 = 49 then 5 else if x0 = 50 then 5 else if x0 = 51 then 0 else if x0 = 52 then 0 else if x0 = 53 then 0 else if x0 = 54 then 0 else if x0 = 55 then 0 else if x0 = 56 then 0 else if x0 = 57 then 0 else if x0 = 58 then 0 else if x0 = 59 then 0 else if x0 = 60 then 0 else if x0 = 61 then 0 else if x0 = 62 then 2 else if x0 = 63 then 1 else if x0 = 64 then 0 else if x0 = 65 then 0 else if x0 = 66 then 0 else if x0 = 67 then 3 else if x0 = 68 then 3 else if x0 = 69 then 3 else if x0 = 70 then 0 else if x0 = 71 then 0 else if x0 = 72 then 0 else if x0 = 73 then 3 else if x0 = 74 then 3 else if x0 = 75 then 3 else 0
theorem fb_X0_binding {x0 : Nat} : f_X0_binding x0 < 9 := by
  unfold f_X0_binding
  repeat' refine ite_lt ?_ ?_
  all_goals decide
theorem fe_X0_binding {x0 : Nat} (h0 : x0 < 2147483648) {s : mm_H} : b_X0_binding x0 s = okR (f_X0_binding x0) s := by
  unfold b_X0_binding f_X0_binding
  skip
  simp only [ck, ife, ifl, ifz, ok_ite, h0, and_self, if_true, Nat.reduceLT, true_and, and_true]
theorem z_X0_binding {xs : Nat → Int32} {L d : Nat} {h : mm_H} {x0 : Nat} (h0 : x0 < 2147483648) (hd : 5 ≤ d) : Rn xs L d 96 [.int (nI x0)] h (.inl (some (.int (nI (f_X0_binding x0)))), h, 0, 0) := by
  have e1 : b_X0_binding x0 h = okR (f_X0_binding x0) h := fe_X0_binding h0
  have := w_X0_binding (xs := xs) (L := L) (d := d) (s := h) (x0 := x0) (by omega) (by rw [e1]; exact fun q => by cases q)
  rw [e1] at this
  exact this
def b_X1_groupWhat  (x0 : Nat) (s : mm_H) : Rs mm_H := ck (x0 < 2147483648) (ife x0 13 (okR 6 s) (ife x0 33 (okR 7 s) (okR 8 s)))
theorem w_X1_groupWhat {xs : Nat → Int32} {L : Nat} {x0 : Nat} {s : mm_H} {d : Nat} (hd : 5 ≤ d) (hN : b_X1_groupWhat  x0 s ≠ none) : Rn xs L d 59 [.int (nI x0)] (idH s) (ou eN (idH) (b_X1_groupWhat  x0 s)) := by
  unfold Rn
  unfold b_X1_groupWhat at hN ⊢
  refine e_iload_n m_X1_groupWhat dX1_groupWhat_0 rfl rfl ?_
  refine e_ck hN (fun q1 hN => ?_)
  refine sw_c (a := x0) (b := 13) hN (fun q2 hN => ?_) (fun q2 hN => ?_)
  · refine e_lookup (t := 28) m_X1_groupWhat dX1_groupWhat_1 (by decide) (by rw [q2]; decide) ?_
    refine e_bipush (v := nI 6) m_X1_groupWhat dX1_groupWhat_28 (by decide) ?_
    exact e_reti m_X1_groupWhat dX1_groupWhat_30 (Or.inl rfl)
  · refine sw_c (a := x0) (b := 33) hN (fun q3 hN => ?_) (fun q3 hN => ?_)
    · refine e_lookup (t := 31) m_X1_groupWhat dX1_groupWhat_1 (by decide) (by rw [q3]; decide) ?_
      refine e_bipush (v := nI 7) m_X1_groupWhat dX1_groupWhat_31 (by decide) ?_
      exact e_reti m_X1_groupWhat dX1_groupWhat_33 (Or.inl rfl)
    · refine e_lookup (t := 34) m_X1_groupWhat dX1_groupWhat_1 (by decide) (by rw [nI_toInt q1, lk_dflt _ (by intro q hq; simp only [List.mem_cons, List.not_mem_nil, or_false] at hq; rcases hq with rfl | rfl <;> (simp only []; omega))]; decide) ?_
      refine e_bipush (v := nI 8) m_X1_groupWhat dX1_groupWhat_34 (by decide) ?_
      exact e_reti m_X1_groupWhat dX1_groupWhat_36 (Or.inl rfl)

def f_X1_groupWhat (x0 : Nat) : Nat := if x0 = 13 then 6 else if x0 = 33 then 7 else 8
theorem fb_X1_groupWhat {x0 : Nat} : f_X1_groupWhat x0 < 9 := by
  unfold f_X1_groupWhat
  repeat' refine ite_lt ?_ ?_
  all_goals decide
theorem fe_X1_groupWhat {x0 : Nat} (h0 : x0 < 2147483648) {s : mm_H} : b_X1_groupWhat x0 s = okR (f_X1_groupWhat x0) s := by
  unfold b_X1_groupWhat f_X1_groupWhat
  skip
  simp only [ck, ife, ifl, ifz, ok_ite, h0, and_self, if_true, Nat.reduceLT, true_and, and_true]
theorem z_X1_groupWhat {xs : Nat → Int32} {L d : Nat} {h : mm_H} {x0 : Nat} (h0 : x0 < 2147483648) (hd : 5 ≤ d) : Rn xs L d 59 [.int (nI x0)] h (.inl (some (.int (nI (f_X1_groupWhat x0)))), h, 0, 0) := by
  have e1 : b_X1_groupWhat x0 h = okR (f_X1_groupWhat x0) h := fe_X1_groupWhat h0
  have := w_X1_groupWhat (xs := xs) (L := L) (d := d) (s := h) (x0 := x0) (by omega) (by rw [e1]; exact fun q => by cases q)
  rw [e1] at this
  exact this
