/-! The static methods of the reference. -/
def b_X6_isKind  (x0 : Nat) (s : mm_H) : Rs mm_H := ifl x0 1 (ifl x0 10 (ifl x0 40 (okR 0 s) (ifl 87 x0 (okR 0 s) (okR 1 s))) (ifl 34 x0 (ifl x0 40 (okR 0 s) (ifl 87 x0 (okR 0 s) (okR 1 s))) (okR 1 s))) (ifl 5 x0 (ifl x0 10 (ifl x0 40 (okR 0 s) (ifl 87 x0 (okR 0 s) (okR 1 s))) (ifl 34 x0 (ifl x0 40 (okR 0 s) (ifl 87 x0 (okR 0 s) (okR 1 s))) (okR 1 s))) (okR 1 s))
theorem w_X6_isKind {xs : Nat → Int32} {L : Nat} {x0 : Nat} {s : mm_H} {d : Nat} (hd : 5 ≤ d) (hN : b_X6_isKind  x0 s ≠ none) : Rn xs L d 126 [.int (nI x0)] (idH s) (ou eN (idH) (b_X6_isKind  x0 s)) := by
  unfold Rn
  unfold b_X6_isKind at hN ⊢
  refine e_iload_n m_X6_isKind dX6_isKind_0 rfl rfl ?_
  refine e_iconst (v := nI 1) m_X6_isKind dX6_isKind_1 (by decide) ?_
  refine e_ilt (t := 10) (a := x0) (b := 1) hN m_X6_isKind dX6_isKind_2 (by decide) (fun q1 hN => ?_) (fun q1 hN => ?_)
  · refine e_iload_n m_X6_isKind dX6_isKind_10 rfl rfl ?_
    refine e_bipush (v := nI 10) m_X6_isKind dX6_isKind_11 (by decide) ?_
    refine e_ilt (t := 22) (a := x0) (b := 10) hN m_X6_isKind dX6_isKind_13 (by decide) (fun q2 hN => ?_) (fun q2 hN => ?_)
    · refine e_iload_n m_X6_isKind dX6_isKind_22 rfl rfl ?_
      refine e_bipush (v := nI 40) m_X6_isKind dX6_isKind_23 (by decide) ?_
      refine e_ilt (t := 38) (a := x0) (b := 40) hN m_X6_isKind dX6_isKind_25 (by decide) (fun q3 hN => ?_) (fun q3 hN => ?_)
      · refine e_iconst (v := nI 0) m_X6_isKind dX6_isKind_38 (by decide) ?_
        exact e_reti m_X6_isKind dX6_isKind_39 (Or.inr ⟨rfl, by decide⟩)
      · refine e_iload_n m_X6_isKind dX6_isKind_28 rfl rfl ?_
        refine e_bipush (v := nI 87) m_X6_isKind dX6_isKind_29 (by decide) ?_
        refine e_igt (t := 38) (a := x0) (b := 87) hN m_X6_isKind dX6_isKind_31 (by decide) (fun q4 hN => ?_) (fun q4 hN => ?_)
        · refine e_iconst (v := nI 0) m_X6_isKind dX6_isKind_38 (by decide) ?_
          exact e_reti m_X6_isKind dX6_isKind_39 (Or.inr ⟨rfl, by decide⟩)
        · refine e_iconst (v := nI 1) m_X6_isKind dX6_isKind_34 (by decide) ?_
          refine e_goto (t := 39) m_X6_isKind dX6_isKind_35 (by decide) ?_
          exact e_reti m_X6_isKind dX6_isKind_39 (Or.inr ⟨rfl, by decide⟩)
    · refine e_iload_n m_X6_isKind dX6_isKind_16 rfl rfl ?_
      refine e_bipush (v := nI 34) m_X6_isKind dX6_isKind_17 (by decide) ?_
      refine e_ile (t := 34) (a := x0) (b := 34) hN m_X6_isKind dX6_isKind_19 (by decide) (fun q5 hN => ?_) (fun q5 hN => ?_)
      · refine e_iload_n m_X6_isKind dX6_isKind_22 rfl rfl ?_
        refine e_bipush (v := nI 40) m_X6_isKind dX6_isKind_23 (by decide) ?_
        refine e_ilt (t := 38) (a := x0) (b := 40) hN m_X6_isKind dX6_isKind_25 (by decide) (fun q6 hN => ?_) (fun q6 hN => ?_)
        · refine e_iconst (v := nI 0) m_X6_isKind dX6_isKind_38 (by decide) ?_
          exact e_reti m_X6_isKind dX6_isKind_39 (Or.inr ⟨rfl, by decide⟩)
        · refine e_iload_n m_X6_isKind dX6_isKind_28 rfl rfl ?_
          refine e_bipush (v := nI 87) m_X6_isKind dX6_isKind_29 (by decide) ?_
          refine e_igt (t := 38) (a := x0) (b := 87) hN m_X6_isKind dX6_isKind_31 (by decide) (fun q7 hN => ?_) (fun q7 hN => ?_)
          · refine e_iconst (v := nI 0) m_X6_isKind dX6_isKind_38 (by decide) ?_
            exact e_reti m_X6_isKind dX6_isKind_39 (Or.inr ⟨rfl, by decide⟩)
          · refine e_iconst (v := nI 1) m_X6_isKind dX6_isKind_34 (by decide) ?_
            refine e_goto (t := 39) m_X6_isKind dX6_isKind_35 (by decide) ?_
            exact e_reti m_X6_isKind dX6_isKind_39 (Or.inr ⟨rfl, by decide⟩)
      · refine e_iconst (v := nI 1) m_X6_isKind dX6_isKind_34 (by decide) ?_
        refine e_goto (t := 39) m_X6_isKind dX6_isKind_35 (by decide) ?_
        exact e_reti m_X6_isKind dX6_isKind_39 (Or.inr ⟨rfl, by decide⟩)
  · refine e_iload_n m_X6_isKind dX6_isKind_5 rfl rfl ?_
    refine e_iconst (v := nI 5) m_X6_isKind dX6_isKind_6 (by decide) ?_
    refine e_ile (t := 34) (a := x0) (b := 5) hN m_X6_isKind dX6_isKind_7 (by decide) (fun q8 hN => ?_) (fun q8 hN => ?_)
    · refine e_iload_n m_X6_isKind dX6_isKind_10 rfl rfl ?_
      refine e_bipush (v := nI 10) m_X6_isKind dX6_isKind_11 (by decide) ?_
      refine e_ilt (t := 22) (a := x0) (b := 10) hN m_X6_isKind dX6_isKind_13 (by decide) (fun q9 hN => ?_) (fun q9 hN => ?_)
      · refine e_iload_n m_X6_isKind dX6_isKind_22 rfl rfl ?_
        refine e_bipush (v := nI 40) m_X6_isKind dX6_isKind_23 (by decide) ?_
        refine e_ilt (t := 38) (a := x0) (b := 40) hN m_X6_isKind dX6_isKind_25 (by decide) (fun q10 hN => ?_) (fun q10 hN => ?_)
        · refine e_iconst (v := nI 0) m_X6_isKind dX6_isKind_38 (by decide) ?_
          exact e_reti m_X6_isKind dX6_isKind_39 (Or.inr ⟨rfl, by decide⟩)
        · refine e_iload_n m_X6_isKind dX6_isKind_28 rfl rfl ?_
          refine e_bipush (v := nI 87) m_X6_isKind dX6_isKind_29 (by decide) ?_
          refine e_igt (t := 38) (a := x0) (b := 87) hN m_X6_isKind dX6_isKind_31 (by decide) (fun q11 hN => ?_) (fun q11 hN => ?_)
          · refine e_iconst (v := nI 0) m_X6_isKind dX6_isKind_38 (by decide) ?_
            exact e_reti m_X6_isKind dX6_isKind_39 (Or.inr ⟨rfl, by decide⟩)
          · refine e_iconst (v := nI 1) m_X6_isKind dX6_isKind_34 (by decide) ?_
            refine e_goto (t := 39) m_X6_isKind dX6_isKind_35 (by decide) ?_
            exact e_reti m_X6_isKind dX6_isKind_39 (Or.inr ⟨rfl, by decide⟩)
      · refine e_iload_n m_X6_isKind dX6_isKind_16 rfl rfl ?_
        refine e_bipush (v := nI 34) m_X6_isKind dX6_isKind_17 (by decide) ?_
        refine e_ile (t := 34) (a := x0) (b := 34) hN m_X6_isKind dX6_isKind_19 (by decide) (fun q12 hN => ?_) (fun q12 hN => ?_)
        · refine e_iload_n m_X6_isKind dX6_isKind_22 rfl rfl ?_
          refine e_bipush (v := nI 40) m_X6_isKind dX6_isKind_23 (by decide) ?_
          refine e_ilt (t := 38) (a := x0) (b := 40) hN m_X6_isKind dX6_isKind_25 (by decide) (fun q13 hN => ?_) (fun q13 hN => ?_)
          · refine e_iconst (v := nI 0) m_X6_isKind dX6_isKind_38 (by decide) ?_
            exact e_reti m_X6_isKind dX6_isKind_39 (Or.inr ⟨rfl, by decide⟩)
          · refine e_iload_n m_X6_isKind dX6_isKind_28 rfl rfl ?_
            refine e_bipush (v := nI 87) m_X6_isKind dX6_isKind_29 (by decide) ?_
            refine e_igt (t := 38) (a := x0) (b := 87) hN m_X6_isKind dX6_isKind_31 (by decide) (fun q14 hN => ?_) (fun q14 hN => ?_)
            · refine e_iconst (v := nI 0) m_X6_isKind dX6_isKind_38 (by decide) ?_
              exact e_reti m_X6_isKind dX6_isKind_39 (Or.inr ⟨rfl, by decide⟩)
            · refine e_iconst (v := nI 1) m_X6_isKind dX6_isKind_34 (by decide) ?_
              refine e_goto (t := 39) m_X6_isKind dX6_isKind_35 (by decide) ?_
              exact e_reti m_X6_isKind dX6_isKind_39 (Or.inr ⟨rfl, by decide⟩)
        · refine e_iconst (v := nI 1) m_X6_isKind dX6_isKind_34 (by decide) ?_
          refine e_goto (t := 39) m_X6_isKind dX6_isKind_35 (by decide) ?_
          exact e_reti m_X6_isKind dX6_isKind_39 (Or.inr ⟨rfl, by decide⟩)
    · refine e_iconst (v := nI 1) m_X6_isKind dX6_isKind_34 (by decide) ?_
      refine e_goto (t := 39) m_X6_isKind dX6_isKind_35 (by decide) ?_
      exact e_reti m_X6_isKind dX6_isKind_39 (Or.inr ⟨rfl, by decide⟩)

def f_X6_isKind (x0 : Nat) : Nat := if x0 < 1 then if x0 < 10 then if x0 < 40 then 0 else if 87 < x0 then 0 else 1 else if 34 < x0 then if x0 < 40 then 0 else if 87 < x0 then 0 else 1 else 1 else if 5 < x0 then if x0 < 10 then if x0 < 40 then 0 else if 87 < x0 then 0 else 1 else if 34 < x0 then if x0 < 40 then 0 else if 87 < x0 then 0 else 1 else 1 else 1
theorem fb_X6_isKind {x0 : Nat} : f_X6_isKind x0 < 2 := by
  unfold f_X6_isKind
  repeat' refine ite_lt ?_ ?_
  all_goals decide
theorem fe_X6_isKind {x0 : Nat} (h0 : x0 < 2147483648) {s : mm_H} : b_X6_isKind x0 s = okR (f_X6_isKind x0) s := by
  unfold b_X6_isKind f_X6_isKind
  skip
  simp only [ck, ife, ifl, ifz, ok_ite, h0, and_self, if_true, Nat.reduceLT, true_and, and_true]
theorem z_X6_isKind {xs : Nat → Int32} {L d : Nat} {h : mm_H} {x0 : Nat} (h0 : x0 < 2147483648) (hd : 5 ≤ d) : Rn xs L d 126 [.int (nI x0)] h (.inl (some (.int (nI (f_X6_isKind x0)))), h, 0, 0) := by
  have e1 : b_X6_isKind x0 h = okR (f_X6_isKind x0) h := fe_X6_isKind h0
  have := w_X6_isKind (xs := xs) (L := L) (d := d) (s := h) (x0 := x0) (by omega) (by rw [e1]; exact fun q => by cases q)
  rw [e1] at this
  exact this
def b_X6_has  (x0 : Nat) (x1 : Nat) (s : mm_H) : Rs mm_H := ifz (x0 &&& x1) (okR 0 s) (okR 1 s)
theorem w_X6_has {xs : Nat → Int32} {L : Nat} {x0 : Nat} {x1 : Nat} {s : mm_H} {d : Nat} (hd : 5 ≤ d) (hN : b_X6_has  x0 x1 s ≠ none) : Rn xs L d 148 [.int (nI x0), .int (nI x1)] (idH s) (ou eN (idH) (b_X6_has  x0 x1 s)) := by
  unfold Rn
  unfold b_X6_has at hN ⊢
  refine e_iload_n m_X6_has dX6_has_0 rfl rfl ?_
  refine e_iload_n m_X6_has dX6_has_1 rfl rfl ?_
  refine e_iandN m_X6_has dX6_has_2 ?_
  refine e_ifeq (t := 10) hN m_X6_has dX6_has_3 (by decide) (fun q1 hN => ?_) (fun q1 hN => ?_)
  · refine e_iconst (v := nI 0) m_X6_has dX6_has_10 (by decide) ?_
    exact e_reti m_X6_has dX6_has_11 (Or.inr ⟨rfl, by decide⟩)
  · refine e_iconst (v := nI 1) m_X6_has dX6_has_6 (by decide) ?_
    refine e_goto (t := 11) m_X6_has dX6_has_7 (by decide) ?_
    exact e_reti m_X6_has dX6_has_11 (Or.inr ⟨rfl, by decide⟩)

def f_X6_has (x0 x1 : Nat) : Nat := if (x0 &&& x1) = 0 then 0 else 1
theorem fb_X6_has {x0 : Nat} {x1 : Nat} : f_X6_has x0 x1 < 2 := by
  unfold f_X6_has
  repeat' refine ite_lt ?_ ?_
  all_goals decide
theorem fe_X6_has {x0 : Nat} {x1 : Nat} (h0 : x0 < 2147483648) (h1 : x1 < 2147483648) {s : mm_H} : b_X6_has x0 x1 s = okR (f_X6_has x0 x1) s := by
  unfold b_X6_has f_X6_has
  have u0 : x0 &&& x1 < 2147483648 := Nat.lt_of_le_of_lt Nat.and_le_left h0
  simp only [ck, ife, ifl, ifz, ok_ite, h0, h1, u0, and_self, if_true, Nat.reduceLT, true_and, and_true]
theorem z_X6_has {xs : Nat → Int32} {L d : Nat} {h : mm_H} {x0 : Nat} {x1 : Nat} (h0 : x0 < 2147483648) (h1 : x1 < 2147483648) (hd : 5 ≤ d) : Rn xs L d 148 [.int (nI x0), .int (nI x1)] h (.inl (some (.int (nI (f_X6_has x0 x1)))), h, 0, 0) := by
  have e1 : b_X6_has x0 x1 h = okR (f_X6_has x0 x1) h := fe_X6_has h0 h1
  have := w_X6_has (xs := xs) (L := L) (d := d) (s := h) (x0 := x0) (x1 := x1) (by omega) (by rw [e1]; exact fun q => by cases q)
  rw [e1] at this
  exact this
def b_X6_beginsType  (x0 : Nat) (s : mm_H) : Rs mm_H := ife x0 1 (okR 1 s) (ife x0 78 (okR 1 s) (ife x0 80 (okR 1 s) (ife x0 26 (okR 1 s) (ife x0 12 (okR 1 s) (ife x0 64 (okR 1 s) (ife x0 42 (okR 1 s) (ife x0 31 (okR 1 s) (ife x0 20 (okR 1 s) (ife x0 25 (okR 1 s) (okR 0 s))))))))))
theorem w_X6_beginsType {xs : Nat → Int32} {L : Nat} {x0 : Nat} {s : mm_H} {d : Nat} (hd : 5 ≤ d) (hN : b_X6_beginsType  x0 s ≠ none) : Rn xs L d 163 [.int (nI x0)] (idH s) (ou eN (idH) (b_X6_beginsType  x0 s)) := by
  unfold Rn
  unfold b_X6_beginsType at hN ⊢
  refine e_iload_n m_X6_beginsType dX6_beginsType_0 rfl rfl ?_
  refine e_iconst (v := nI 1) m_X6_beginsType dX6_beginsType_1 (by decide) ?_
  refine e_ieq (t := 59) (a := x0) (b := 1) hN m_X6_beginsType dX6_beginsType_2 (by decide) (fun q1 hN => ?_) (fun q1 hN => ?_)
  · refine e_iconst (v := nI 1) m_X6_beginsType dX6_beginsType_59 (by decide) ?_
    refine e_goto (t := 64) m_X6_beginsType dX6_beginsType_60 (by decide) ?_
    exact e_reti m_X6_beginsType dX6_beginsType_64 (Or.inr ⟨rfl, by decide⟩)
  · refine e_iload_n m_X6_beginsType dX6_beginsType_5 rfl rfl ?_
    refine e_bipush (v := nI 78) m_X6_beginsType dX6_beginsType_6 (by decide) ?_
    refine e_ieq (t := 59) (a := x0) (b := 78) hN m_X6_beginsType dX6_beginsType_8 (by decide) (fun q2 hN => ?_) (fun q2 hN => ?_)
    · refine e_iconst (v := nI 1) m_X6_beginsType dX6_beginsType_59 (by decide) ?_
      refine e_goto (t := 64) m_X6_beginsType dX6_beginsType_60 (by decide) ?_
      exact e_reti m_X6_beginsType dX6_beginsType_64 (Or.inr ⟨rfl, by decide⟩)
    · refine e_iload_n m_X6_beginsType dX6_beginsType_11 rfl rfl ?_
      refine e_bipush (v := nI 80) m_X6_beginsType dX6_beginsType_12 (by decide) ?_
      refine e_ieq (t := 59) (a := x0) (b := 80) hN m_X6_beginsType dX6_beginsType_14 (by decide) (fun q3 hN => ?_) (fun q3 hN => ?_)
      · refine e_iconst (v := nI 1) m_X6_beginsType dX6_beginsType_59 (by decide) ?_
        refine e_goto (t := 64) m_X6_beginsType dX6_beginsType_60 (by decide) ?_
        exact e_reti m_X6_beginsType dX6_beginsType_64 (Or.inr ⟨rfl, by decide⟩)
      · refine e_iload_n m_X6_beginsType dX6_beginsType_17 rfl rfl ?_
        refine e_bipush (v := nI 26) m_X6_beginsType dX6_beginsType_18 (by decide) ?_
        refine e_ieq (t := 59) (a := x0) (b := 26) hN m_X6_beginsType dX6_beginsType_20 (by decide) (fun q4 hN => ?_) (fun q4 hN => ?_)
        · refine e_iconst (v := nI 1) m_X6_beginsType dX6_beginsType_59 (by decide) ?_
          refine e_goto (t := 64) m_X6_beginsType dX6_beginsType_60 (by decide) ?_
          exact e_reti m_X6_beginsType dX6_beginsType_64 (Or.inr ⟨rfl, by decide⟩)
        · refine e_iload_n m_X6_beginsType dX6_beginsType_23 rfl rfl ?_
          refine e_bipush (v := nI 12) m_X6_beginsType dX6_beginsType_24 (by decide) ?_
          refine e_ieq (t := 59) (a := x0) (b := 12) hN m_X6_beginsType dX6_beginsType_26 (by decide) (fun q5 hN => ?_) (fun q5 hN => ?_)
          · refine e_iconst (v := nI 1) m_X6_beginsType dX6_beginsType_59 (by decide) ?_
            refine e_goto (t := 64) m_X6_beginsType dX6_beginsType_60 (by decide) ?_
            exact e_reti m_X6_beginsType dX6_beginsType_64 (Or.inr ⟨rfl, by decide⟩)
          · refine e_iload_n m_X6_beginsType dX6_beginsType_29 rfl rfl ?_
            refine e_bipush (v := nI 64) m_X6_beginsType dX6_beginsType_30 (by decide) ?_
            refine e_ieq (t := 59) (a := x0) (b := 64) hN m_X6_beginsType dX6_beginsType_32 (by decide) (fun q6 hN => ?_) (fun q6 hN => ?_)
            · refine e_iconst (v := nI 1) m_X6_beginsType dX6_beginsType_59 (by decide) ?_
              refine e_goto (t := 64) m_X6_beginsType dX6_beginsType_60 (by decide) ?_
              exact e_reti m_X6_beginsType dX6_beginsType_64 (Or.inr ⟨rfl, by decide⟩)
            · refine e_iload_n m_X6_beginsType dX6_beginsType_35 rfl rfl ?_
              refine e_bipush (v := nI 42) m_X6_beginsType dX6_beginsType_36 (by decide) ?_
              refine e_ieq (t := 59) (a := x0) (b := 42) hN m_X6_beginsType dX6_beginsType_38 (by decide) (fun q7 hN => ?_) (fun q7 hN => ?_)
              · refine e_iconst (v := nI 1) m_X6_beginsType dX6_beginsType_59 (by decide) ?_
                refine e_goto (t := 64) m_X6_beginsType dX6_beginsType_60 (by decide) ?_
                exact e_reti m_X6_beginsType dX6_beginsType_64 (Or.inr ⟨rfl, by decide⟩)
              · refine e_iload_n m_X6_beginsType dX6_beginsType_41 rfl rfl ?_
                refine e_bipush (v := nI 31) m_X6_beginsType dX6_beginsType_42 (by decide) ?_
                refine e_ieq (t := 59) (a := x0) (b := 31) hN m_X6_beginsType dX6_beginsType_44 (by decide) (fun q8 hN => ?_) (fun q8 hN => ?_)
                · refine e_iconst (v := nI 1) m_X6_beginsType dX6_beginsType_59 (by decide) ?_
                  refine e_goto (t := 64) m_X6_beginsType dX6_beginsType_60 (by decide) ?_
                  exact e_reti m_X6_beginsType dX6_beginsType_64 (Or.inr ⟨rfl, by decide⟩)
                · refine e_iload_n m_X6_beginsType dX6_beginsType_47 rfl rfl ?_
                  refine e_bipush (v := nI 20) m_X6_beginsType dX6_beginsType_48 (by decide) ?_
                  refine e_ieq (t := 59) (a := x0) (b := 20) hN m_X6_beginsType dX6_beginsType_50 (by decide) (fun q9 hN => ?_) (fun q9 hN => ?_)
                  · refine e_iconst (v := nI 1) m_X6_beginsType dX6_beginsType_59 (by decide) ?_
                    refine e_goto (t := 64) m_X6_beginsType dX6_beginsType_60 (by decide) ?_
                    exact e_reti m_X6_beginsType dX6_beginsType_64 (Or.inr ⟨rfl, by decide⟩)
                  · refine e_iload_n m_X6_beginsType dX6_beginsType_53 rfl rfl ?_
                    refine e_bipush (v := nI 25) m_X6_beginsType dX6_beginsType_54 (by decide) ?_
                    refine e_ine (t := 63) (a := x0) (b := 25) hN m_X6_beginsType dX6_beginsType_56 (by decide) (fun q10 hN => ?_) (fun q10 hN => ?_)
                    · refine e_iconst (v := nI 1) m_X6_beginsType dX6_beginsType_59 (by decide) ?_
                      refine e_goto (t := 64) m_X6_beginsType dX6_beginsType_60 (by decide) ?_
                      exact e_reti m_X6_beginsType dX6_beginsType_64 (Or.inr ⟨rfl, by decide⟩)
                    · refine e_iconst (v := nI 0) m_X6_beginsType dX6_beginsType_63 (by decide) ?_
                      exact e_reti m_X6_beginsType dX6_beginsType_64 (Or.inr ⟨rfl, by decide⟩)

def f_X6_beginsType (x0 : Nat) : Nat := if x0 = 1 then 1 else if x0 = 78 then 1 else if x0 = 80 then 1 else if x0 = 26 then 1 else if x0 = 12 then 1 else if x0 = 64 then 1 else if x0 = 42 then 1 else if x0 = 31 then 1 else if x0 = 20 then 1 else if x0 = 25 then 1 else 0
theorem fb_X6_beginsType {x0 : Nat} : f_X6_beginsType x0 < 2 := by
  unfold f_X6_beginsType
  repeat' refine ite_lt ?_ ?_
  all_goals decide
theorem fe_X6_beginsType {x0 : Nat} (h0 : x0 < 2147483648) {s : mm_H} : b_X6_beginsType x0 s = okR (f_X6_beginsType x0) s := by
  unfold b_X6_beginsType f_X6_beginsType
  skip
  simp only [ck, ife, ifl, ifz, ok_ite, h0, and_self, if_true, Nat.reduceLT, true_and, and_true]
theorem z_X6_beginsType {xs : Nat → Int32} {L d : Nat} {h : mm_H} {x0 : Nat} (h0 : x0 < 2147483648) (hd : 5 ≤ d) : Rn xs L d 163 [.int (nI x0)] h (.inl (some (.int (nI (f_X6_beginsType x0)))), h, 0, 0) := by
  have e1 : b_X6_beginsType x0 h = okR (f_X6_beginsType x0) h := fe_X6_beginsType h0
  have := w_X6_beginsType (xs := xs) (L := L) (d := d) (s := h) (x0 := x0) (by omega) (by rw [e1]; exact fun q => by cases q)
  rw [e1] at this
  exact this
def b_X6_isUnary  (x0 : Nat) (s : mm_H) : Rs mm_H := ife x0 40 (okR 1 s) (ife x0 41 (okR 1 s) (ife x0 71 (okR 1 s) (ife x0 47 (okR 1 s) (ife x0 42 (okR 1 s) (ife x0 45 (okR 1 s) (ife x0 64 (okR 1 s) (okR 0 s)))))))
theorem w_X6_isUnary {xs : Nat → Int32} {L : Nat} {x0 : Nat} {s : mm_H} {d : Nat} (hd : 5 ≤ d) (hN : b_X6_isUnary  x0 s ≠ none) : Rn xs L d 142 [.int (nI x0)] (idH s) (ou eN (idH) (b_X6_isUnary  x0 s)) := by
  unfold Rn
  unfold b_X6_isUnary at hN ⊢
  refine e_iload_n m_X6_isUnary dX6_isUnary_0 rfl rfl ?_
  refine e_bipush (v := nI 40) m_X6_isUnary dX6_isUnary_1 (by decide) ?_
  refine e_ieq (t := 42) (a := x0) (b := 40) hN m_X6_isUnary dX6_isUnary_3 (by decide) (fun q1 hN => ?_) (fun q1 hN => ?_)
  · refine e_iconst (v := nI 1) m_X6_isUnary dX6_isUnary_42 (by decide) ?_
    refine e_goto (t := 47) m_X6_isUnary dX6_isUnary_43 (by decide) ?_
    exact e_reti m_X6_isUnary dX6_isUnary_47 (Or.inr ⟨rfl, by decide⟩)
  · refine e_iload_n m_X6_isUnary dX6_isUnary_6 rfl rfl ?_
    refine e_bipush (v := nI 41) m_X6_isUnary dX6_isUnary_7 (by decide) ?_
    refine e_ieq (t := 42) (a := x0) (b := 41) hN m_X6_isUnary dX6_isUnary_9 (by decide) (fun q2 hN => ?_) (fun q2 hN => ?_)
    · refine e_iconst (v := nI 1) m_X6_isUnary dX6_isUnary_42 (by decide) ?_
      refine e_goto (t := 47) m_X6_isUnary dX6_isUnary_43 (by decide) ?_
      exact e_reti m_X6_isUnary dX6_isUnary_47 (Or.inr ⟨rfl, by decide⟩)
    · refine e_iload_n m_X6_isUnary dX6_isUnary_12 rfl rfl ?_
      refine e_bipush (v := nI 71) m_X6_isUnary dX6_isUnary_13 (by decide) ?_
      refine e_ieq (t := 42) (a := x0) (b := 71) hN m_X6_isUnary dX6_isUnary_15 (by decide) (fun q3 hN => ?_) (fun q3 hN => ?_)
      · refine e_iconst (v := nI 1) m_X6_isUnary dX6_isUnary_42 (by decide) ?_
        refine e_goto (t := 47) m_X6_isUnary dX6_isUnary_43 (by decide) ?_
        exact e_reti m_X6_isUnary dX6_isUnary_47 (Or.inr ⟨rfl, by decide⟩)
      · refine e_iload_n m_X6_isUnary dX6_isUnary_18 rfl rfl ?_
        refine e_bipush (v := nI 47) m_X6_isUnary dX6_isUnary_19 (by decide) ?_
        refine e_ieq (t := 42) (a := x0) (b := 47) hN m_X6_isUnary dX6_isUnary_21 (by decide) (fun q4 hN => ?_) (fun q4 hN => ?_)
        · refine e_iconst (v := nI 1) m_X6_isUnary dX6_isUnary_42 (by decide) ?_
          refine e_goto (t := 47) m_X6_isUnary dX6_isUnary_43 (by decide) ?_
          exact e_reti m_X6_isUnary dX6_isUnary_47 (Or.inr ⟨rfl, by decide⟩)
        · refine e_iload_n m_X6_isUnary dX6_isUnary_24 rfl rfl ?_
          refine e_bipush (v := nI 42) m_X6_isUnary dX6_isUnary_25 (by decide) ?_
          refine e_ieq (t := 42) (a := x0) (b := 42) hN m_X6_isUnary dX6_isUnary_27 (by decide) (fun q5 hN => ?_) (fun q5 hN => ?_)
          · refine e_iconst (v := nI 1) m_X6_isUnary dX6_isUnary_42 (by decide) ?_
            refine e_goto (t := 47) m_X6_isUnary dX6_isUnary_43 (by decide) ?_
            exact e_reti m_X6_isUnary dX6_isUnary_47 (Or.inr ⟨rfl, by decide⟩)
          · refine e_iload_n m_X6_isUnary dX6_isUnary_30 rfl rfl ?_
            refine e_bipush (v := nI 45) m_X6_isUnary dX6_isUnary_31 (by decide) ?_
            refine e_ieq (t := 42) (a := x0) (b := 45) hN m_X6_isUnary dX6_isUnary_33 (by decide) (fun q6 hN => ?_) (fun q6 hN => ?_)
            · refine e_iconst (v := nI 1) m_X6_isUnary dX6_isUnary_42 (by decide) ?_
              refine e_goto (t := 47) m_X6_isUnary dX6_isUnary_43 (by decide) ?_
              exact e_reti m_X6_isUnary dX6_isUnary_47 (Or.inr ⟨rfl, by decide⟩)
            · refine e_iload_n m_X6_isUnary dX6_isUnary_36 rfl rfl ?_
              refine e_bipush (v := nI 64) m_X6_isUnary dX6_isUnary_37 (by decide) ?_
              refine e_ine (t := 46) (a := x0) (b := 64) hN m_X6_isUnary dX6_isUnary_39 (by decide) (fun q7 hN => ?_) (fun q7 hN => ?_)
              · refine e_iconst (v := nI 1) m_X6_isUnary dX6_isUnary_42 (by decide) ?_
                refine e_goto (t := 47) m_X6_isUnary dX6_isUnary_43 (by decide) ?_
                exact e_reti m_X6_isUnary dX6_isUnary_47 (Or.inr ⟨rfl, by decide⟩)
              · refine e_iconst (v := nI 0) m_X6_isUnary dX6_isUnary_46 (by decide) ?_
                exact e_reti m_X6_isUnary dX6_isUnary_47 (Or.inr ⟨rfl, by decide⟩)

def f_X6_isUnary (x0 : Nat) : Nat := if x0 = 40 then 1 else if x0 = 41 then 1 else if x0 = 71 then 1 else if x0 = 47 then 1 else if x0 = 42 then 1 else if x0 = 45 then 1 else if x0 = 64 then 1 else 0
theorem fb_X6_isUnary {x0 : Nat} : f_X6_isUnary x0 < 2 := by
  unfold f_X6_isUnary
  repeat' refine ite_lt ?_ ?_
  all_goals decide
theorem fe_X6_isUnary {x0 : Nat} (h0 : x0 < 2147483648) {s : mm_H} : b_X6_isUnary x0 s = okR (f_X6_isUnary x0) s := by
  unfold b_X6_isUnary f_X6_isUnary
  skip
  simp only [ck, ife, ifl, ifz, ok_ite, h0, and_self, if_true, Nat.reduceLT, true_and, and_true]
theorem z_X6_isUnary {xs : Nat → Int32} {L d : Nat} {h : mm_H} {x0 : Nat} (h0 : x0 < 2147483648) (hd : 5 ≤ d) : Rn xs L d 142 [.int (nI x0)] h (.inl (some (.int (nI (f_X6_isUnary x0)))), h, 0, 0) := by
  have e1 : b_X6_isUnary x0 h = okR (f_X6_isUnary x0) h := fe_X6_isUnary h0
  have := w_X6_isUnary (xs := xs) (L := L) (d := d) (s := h) (x0 := x0) (by omega) (by rw [e1]; exact fun q => by cases q)
  rw [e1] at this
  exact this
def b_X6_beginsExpr  (x0 : Nat) (s : mm_H) : Rs mm_H := ifl x0 1 (ck (x0 < 2147483648) (ifz (f_X6_isUnary x0) (ife x0 78 (okR 1 s) (ife x0 80 (okR 1 s) (ife x0 26 (okR 1 s) (ife x0 12 (okR 1 s) (ife x0 31 (okR 1 s) (ife x0 20 (okR 1 s) (ife x0 25 (okR 1 s) (okR 0 s)))))))) (okR 1 s))) (ifl 5 x0 (ck (x0 < 2147483648) (ifz (f_X6_isUnary x0) (ife x0 78 (okR 1 s) (ife x0 80 (okR 1 s) (ife x0 26 (okR 1 s) (ife x0 12 (okR 1 s) (ife x0 31 (okR 1 s) (ife x0 20 (okR 1 s) (ife x0 25 (okR 1 s) (okR 0 s)))))))) (okR 1 s))) (okR 1 s))
theorem w_X6_beginsExpr {xs : Nat → Int32} {L : Nat} {x0 : Nat} {s : mm_H} {d : Nat} (hd : 6 ≤ d) (hN : b_X6_beginsExpr  x0 s ≠ none) : Rn xs L d 188 [.int (nI x0)] (idH s) (ou eN (idH) (b_X6_beginsExpr  x0 s)) := by
  unfold Rn
  unfold b_X6_beginsExpr at hN ⊢
  refine e_iload_n m_X6_beginsExpr dX6_beginsExpr_0 rfl rfl ?_
  refine e_iconst (v := nI 1) m_X6_beginsExpr dX6_beginsExpr_1 (by decide) ?_
  refine e_ilt (t := 10) (a := x0) (b := 1) hN m_X6_beginsExpr dX6_beginsExpr_2 (by decide) (fun q1 hN => ?_) (fun q1 hN => ?_)
  · refine e_iload_n m_X6_beginsExpr dX6_beginsExpr_10 rfl rfl ?_
    refine e_ck hN (fun q2 hN => ?_)
    refine e_cs (as := [_]) m_X6_beginsExpr dX6_beginsExpr_11 c_RX6_103 (by decide) rfl rfl (Nat.le_of_ble_eq_true rfl) (Nat.le_of_ble_eq_true rfl) (by omega) (z_X6_isUnary q2 (by omega)) ?_
    refine e_ifne (t := 59) hN m_X6_beginsExpr dX6_beginsExpr_14 (by decide) (fun q3 hN => ?_) (fun q3 hN => ?_)
    · refine e_iload_n m_X6_beginsExpr dX6_beginsExpr_17 rfl rfl ?_
      refine e_bipush (v := nI 78) m_X6_beginsExpr dX6_beginsExpr_18 (by decide) ?_
      refine e_ieq (t := 59) (a := x0) (b := 78) hN m_X6_beginsExpr dX6_beginsExpr_20 (by decide) (fun q4 hN => ?_) (fun q4 hN => ?_)
      · refine e_iconst (v := nI 1) m_X6_beginsExpr dX6_beginsExpr_59 (by decide) ?_
        refine e_goto (t := 64) m_X6_beginsExpr dX6_beginsExpr_60 (by decide) ?_
        exact e_reti m_X6_beginsExpr dX6_beginsExpr_64 (Or.inr ⟨rfl, by decide⟩)
      · refine e_iload_n m_X6_beginsExpr dX6_beginsExpr_23 rfl rfl ?_
        refine e_bipush (v := nI 80) m_X6_beginsExpr dX6_beginsExpr_24 (by decide) ?_
        refine e_ieq (t := 59) (a := x0) (b := 80) hN m_X6_beginsExpr dX6_beginsExpr_26 (by decide) (fun q5 hN => ?_) (fun q5 hN => ?_)
        · refine e_iconst (v := nI 1) m_X6_beginsExpr dX6_beginsExpr_59 (by decide) ?_
          refine e_goto (t := 64) m_X6_beginsExpr dX6_beginsExpr_60 (by decide) ?_
          exact e_reti m_X6_beginsExpr dX6_beginsExpr_64 (Or.inr ⟨rfl, by decide⟩)
        · refine e_iload_n m_X6_beginsExpr dX6_beginsExpr_29 rfl rfl ?_
          refine e_bipush (v := nI 26) m_X6_beginsExpr dX6_beginsExpr_30 (by decide) ?_
          refine e_ieq (t := 59) (a := x0) (b := 26) hN m_X6_beginsExpr dX6_beginsExpr_32 (by decide) (fun q6 hN => ?_) (fun q6 hN => ?_)
          · refine e_iconst (v := nI 1) m_X6_beginsExpr dX6_beginsExpr_59 (by decide) ?_
            refine e_goto (t := 64) m_X6_beginsExpr dX6_beginsExpr_60 (by decide) ?_
            exact e_reti m_X6_beginsExpr dX6_beginsExpr_64 (Or.inr ⟨rfl, by decide⟩)
          · refine e_iload_n m_X6_beginsExpr dX6_beginsExpr_35 rfl rfl ?_
            refine e_bipush (v := nI 12) m_X6_beginsExpr dX6_beginsExpr_36 (by decide) ?_
            refine e_ieq (t := 59) (a := x0) (b := 12) hN m_X6_beginsExpr dX6_beginsExpr_38 (by decide) (fun q7 hN => ?_) (fun q7 hN => ?_)
            · refine e_iconst (v := nI 1) m_X6_beginsExpr dX6_beginsExpr_59 (by decide) ?_
              refine e_goto (t := 64) m_X6_beginsExpr dX6_beginsExpr_60 (by decide) ?_
              exact e_reti m_X6_beginsExpr dX6_beginsExpr_64 (Or.inr ⟨rfl, by decide⟩)
            · refine e_iload_n m_X6_beginsExpr dX6_beginsExpr_41 rfl rfl ?_
              refine e_bipush (v := nI 31) m_X6_beginsExpr dX6_beginsExpr_42 (by decide) ?_
              refine e_ieq (t := 59) (a := x0) (b := 31) hN m_X6_beginsExpr dX6_beginsExpr_44 (by decide) (fun q8 hN => ?_) (fun q8 hN => ?_)
              · refine e_iconst (v := nI 1) m_X6_beginsExpr dX6_beginsExpr_59 (by decide) ?_
                refine e_goto (t := 64) m_X6_beginsExpr dX6_beginsExpr_60 (by decide) ?_
                exact e_reti m_X6_beginsExpr dX6_beginsExpr_64 (Or.inr ⟨rfl, by decide⟩)
              · refine e_iload_n m_X6_beginsExpr dX6_beginsExpr_47 rfl rfl ?_
                refine e_bipush (v := nI 20) m_X6_beginsExpr dX6_beginsExpr_48 (by decide) ?_
                refine e_ieq (t := 59) (a := x0) (b := 20) hN m_X6_beginsExpr dX6_beginsExpr_50 (by decide) (fun q9 hN => ?_) (fun q9 hN => ?_)
                · refine e_iconst (v := nI 1) m_X6_beginsExpr dX6_beginsExpr_59 (by decide) ?_
                  refine e_goto (t := 64) m_X6_beginsExpr dX6_beginsExpr_60 (by decide) ?_
                  exact e_reti m_X6_beginsExpr dX6_beginsExpr_64 (Or.inr ⟨rfl, by decide⟩)
                · refine e_iload_n m_X6_beginsExpr dX6_beginsExpr_53 rfl rfl ?_
                  refine e_bipush (v := nI 25) m_X6_beginsExpr dX6_beginsExpr_54 (by decide) ?_
                  refine e_ine (t := 63) (a := x0) (b := 25) hN m_X6_beginsExpr dX6_beginsExpr_56 (by decide) (fun q10 hN => ?_) (fun q10 hN => ?_)
                  · refine e_iconst (v := nI 1) m_X6_beginsExpr dX6_beginsExpr_59 (by decide) ?_
                    refine e_goto (t := 64) m_X6_beginsExpr dX6_beginsExpr_60 (by decide) ?_
                    exact e_reti m_X6_beginsExpr dX6_beginsExpr_64 (Or.inr ⟨rfl, by decide⟩)
                  · refine e_iconst (v := nI 0) m_X6_beginsExpr dX6_beginsExpr_63 (by decide) ?_
                    exact e_reti m_X6_beginsExpr dX6_beginsExpr_64 (Or.inr ⟨rfl, by decide⟩)
    · refine e_iconst (v := nI 1) m_X6_beginsExpr dX6_beginsExpr_59 (by decide) ?_
      refine e_goto (t := 64) m_X6_beginsExpr dX6_beginsExpr_60 (by decide) ?_
      exact e_reti m_X6_beginsExpr dX6_beginsExpr_64 (Or.inr ⟨rfl, by decide⟩)
  · refine e_iload_n m_X6_beginsExpr dX6_beginsExpr_5 rfl rfl ?_
    refine e_iconst (v := nI 5) m_X6_beginsExpr dX6_beginsExpr_6 (by decide) ?_
    refine e_ile (t := 59) (a := x0) (b := 5) hN m_X6_beginsExpr dX6_beginsExpr_7 (by decide) (fun q11 hN => ?_) (fun q11 hN => ?_)
    · refine e_iload_n m_X6_beginsExpr dX6_beginsExpr_10 rfl rfl ?_
      refine e_ck hN (fun q12 hN => ?_)
      refine e_cs (as := [_]) m_X6_beginsExpr dX6_beginsExpr_11 c_RX6_103 (by decide) rfl rfl (Nat.le_of_ble_eq_true rfl) (Nat.le_of_ble_eq_true rfl) (by omega) (z_X6_isUnary q12 (by omega)) ?_
      refine e_ifne (t := 59) hN m_X6_beginsExpr dX6_beginsExpr_14 (by decide) (fun q13 hN => ?_) (fun q13 hN => ?_)
      · refine e_iload_n m_X6_beginsExpr dX6_beginsExpr_17 rfl rfl ?_
        refine e_bipush (v := nI 78) m_X6_beginsExpr dX6_beginsExpr_18 (by decide) ?_
        refine e_ieq (t := 59) (a := x0) (b := 78) hN m_X6_beginsExpr dX6_beginsExpr_20 (by decide) (fun q14 hN => ?_) (fun q14 hN => ?_)
        · refine e_iconst (v := nI 1) m_X6_beginsExpr dX6_beginsExpr_59 (by decide) ?_
          refine e_goto (t := 64) m_X6_beginsExpr dX6_beginsExpr_60 (by decide) ?_
          exact e_reti m_X6_beginsExpr dX6_beginsExpr_64 (Or.inr ⟨rfl, by decide⟩)
        · refine e_iload_n m_X6_beginsExpr dX6_beginsExpr_23 rfl rfl ?_
          refine e_bipush (v := nI 80) m_X6_beginsExpr dX6_beginsExpr_24 (by decide) ?_
          refine e_ieq (t := 59) (a := x0) (b := 80) hN m_X6_beginsExpr dX6_beginsExpr_26 (by decide) (fun q15 hN => ?_) (fun q15 hN => ?_)
          · refine e_iconst (v := nI 1) m_X6_beginsExpr dX6_beginsExpr_59 (by decide) ?_
            refine e_goto (t := 64) m_X6_beginsExpr dX6_beginsExpr_60 (by decide) ?_
            exact e_reti m_X6_beginsExpr dX6_beginsExpr_64 (Or.inr ⟨rfl, by decide⟩)
          · refine e_iload_n m_X6_beginsExpr dX6_beginsExpr_29 rfl rfl ?_
            refine e_bipush (v := nI 26) m_X6_beginsExpr dX6_beginsExpr_30 (by decide) ?_
            refine e_ieq (t := 59) (a := x0) (b := 26) hN m_X6_beginsExpr dX6_beginsExpr_32 (by decide) (fun q16 hN => ?_) (fun q16 hN => ?_)
            · refine e_iconst (v := nI 1) m_X6_beginsExpr dX6_beginsExpr_59 (by decide) ?_
              refine e_goto (t := 64) m_X6_beginsExpr dX6_beginsExpr_60 (by decide) ?_
              exact e_reti m_X6_beginsExpr dX6_beginsExpr_64 (Or.inr ⟨rfl, by decide⟩)
            · refine e_iload_n m_X6_beginsExpr dX6_beginsExpr_35 rfl rfl ?_
              refine e_bipush (v := nI 12) m_X6_beginsExpr dX6_beginsExpr_36 (by decide) ?_
              refine e_ieq (t := 59) (a := x0) (b := 12) hN m_X6_beginsExpr dX6_beginsExpr_38 (by decide) (fun q17 hN => ?_) (fun q17 hN => ?_)
              · refine e_iconst (v := nI 1) m_X6_beginsExpr dX6_beginsExpr_59 (by decide) ?_
                refine e_goto (t := 64) m_X6_beginsExpr dX6_beginsExpr_60 (by decide) ?_
                exact e_reti m_X6_beginsExpr dX6_beginsExpr_64 (Or.inr ⟨rfl, by decide⟩)
              · refine e_iload_n m_X6_beginsExpr dX6_beginsExpr_41 rfl rfl ?_
                refine e_bipush (v := nI 31) m_X6_beginsExpr dX6_beginsExpr_42 (by decide) ?_
                refine e_ieq (t := 59) (a := x0) (b := 31) hN m_X6_beginsExpr dX6_beginsExpr_44 (by decide) (fun q18 hN => ?_) (fun q18 hN => ?_)
                · refine e_iconst (v := nI 1) m_X6_beginsExpr dX6_beginsExpr_59 (by decide) ?_
                  refine e_goto (t := 64) m_X6_beginsExpr dX6_beginsExpr_60 (by decide) ?_
                  exact e_reti m_X6_beginsExpr dX6_beginsExpr_64 (Or.inr ⟨rfl, by decide⟩)
                · refine e_iload_n m_X6_beginsExpr dX6_beginsExpr_47 rfl rfl ?_
                  refine e_bipush (v := nI 20) m_X6_beginsExpr dX6_beginsExpr_48 (by decide) ?_
                  refine e_ieq (t := 59) (a := x0) (b := 20) hN m_X6_beginsExpr dX6_beginsExpr_50 (by decide) (fun q19 hN => ?_) (fun q19 hN => ?_)
                  · refine e_iconst (v := nI 1) m_X6_beginsExpr dX6_beginsExpr_59 (by decide) ?_
                    refine e_goto (t := 64) m_X6_beginsExpr dX6_beginsExpr_60 (by decide) ?_
                    exact e_reti m_X6_beginsExpr dX6_beginsExpr_64 (Or.inr ⟨rfl, by decide⟩)
                  · refine e_iload_n m_X6_beginsExpr dX6_beginsExpr_53 rfl rfl ?_
                    refine e_bipush (v := nI 25) m_X6_beginsExpr dX6_beginsExpr_54 (by decide) ?_
                    refine e_ine (t := 63) (a := x0) (b := 25) hN m_X6_beginsExpr dX6_beginsExpr_56 (by decide) (fun q20 hN => ?_) (fun q20 hN => ?_)
                    · refine e_iconst (v := nI 1) m_X6_beginsExpr dX6_beginsExpr_59 (by decide) ?_
                      refine e_goto (t := 64) m_X6_beginsExpr dX6_beginsExpr_60 (by decide) ?_
                      exact e_reti m_X6_beginsExpr dX6_beginsExpr_64 (Or.inr ⟨rfl, by decide⟩)
                    · refine e_iconst (v := nI 0) m_X6_beginsExpr dX6_beginsExpr_63 (by decide) ?_
                      exact e_reti m_X6_beginsExpr dX6_beginsExpr_64 (Or.inr ⟨rfl, by decide⟩)
      · refine e_iconst (v := nI 1) m_X6_beginsExpr dX6_beginsExpr_59 (by decide) ?_
        refine e_goto (t := 64) m_X6_beginsExpr dX6_beginsExpr_60 (by decide) ?_
        exact e_reti m_X6_beginsExpr dX6_beginsExpr_64 (Or.inr ⟨rfl, by decide⟩)
    · refine e_iconst (v := nI 1) m_X6_beginsExpr dX6_beginsExpr_59 (by decide) ?_
      refine e_goto (t := 64) m_X6_beginsExpr dX6_beginsExpr_60 (by decide) ?_
      exact e_reti m_X6_beginsExpr dX6_beginsExpr_64 (Or.inr ⟨rfl, by decide⟩)

def f_X6_beginsExpr (x0 : Nat) : Nat := if x0 < 1 then if (f_X6_isUnary x0) = 0 then if x0 = 78 then 1 else if x0 = 80 then 1 else if x0 = 26 then 1 else if x0 = 12 then 1 else if x0 = 31 then 1 else if x0 = 20 then 1 else if x0 = 25 then 1 else 0 else 1 else if 5 < x0 then if (f_X6_isUnary x0) = 0 then if x0 = 78 then 1 else if x0 = 80 then 1 else if x0 = 26 then 1 else if x0 = 12 then 1 else if x0 = 31 then 1 else if x0 = 20 then 1 else if x0 = 25 then 1 else 0 else 1 else 1
theorem fb_X6_beginsExpr {x0 : Nat} : f_X6_beginsExpr x0 < 2 := by
  unfold f_X6_beginsExpr
  repeat' refine ite_lt ?_ ?_
  all_goals decide
theorem fe_X6_beginsExpr {x0 : Nat} (h0 : x0 < 2147483648) {s : mm_H} : b_X6_beginsExpr x0 s = okR (f_X6_beginsExpr x0) s := by
  unfold b_X6_beginsExpr f_X6_beginsExpr
  have u0 : f_X6_isUnary x0 < 2147483648 := Nat.lt_of_lt_of_le fb_X6_isUnary (by decide)
  simp only [ck, ife, ifl, ifz, ok_ite, h0, u0, and_self, if_true, Nat.reduceLT, true_and, and_true]
theorem z_X6_beginsExpr {xs : Nat → Int32} {L d : Nat} {h : mm_H} {x0 : Nat} (h0 : x0 < 2147483648) (hd : 6 ≤ d) : Rn xs L d 188 [.int (nI x0)] h (.inl (some (.int (nI (f_X6_beginsExpr x0)))), h, 0, 0) := by
  have e1 : b_X6_beginsExpr x0 h = okR (f_X6_beginsExpr x0) h := fe_X6_beginsExpr h0
  have := w_X6_beginsExpr (xs := xs) (L := L) (d := d) (s := h) (x0 := x0) (by omega) (by rw [e1]; exact fun q => by cases q)
  rw [e1] at this
  exact this
def b_X6_strength  (x0 : Nat) (s : mm_H) : Rs mm_H := ife x0 63 (okR 1 s) (ife x0 62 (okR 2 s) (ife x0 67 (okR 3 s) (ife x0 68 (okR 3 s) (ife x0 69 (okR 3 s) (ifl x0 73 (ife x0 40 (okR 4 s) (ife x0 41 (okR 4 s) (ife x0 46 (okR 4 s) (ife x0 47 (okR 4 s) (ife x0 42 (okR 5 s) (ife x0 43 (okR 5 s) (ife x0 44 (okR 5 s) (ife x0 48 (okR 5 s) (ife x0 49 (okR 5 s) (ife x0 45 (okR 5 s) (ife x0 50 (okR 5 s) (okR 0 s)))))))))))) (ifl 75 x0 (ife x0 40 (okR 4 s) (ife x0 41 (okR 4 s) (ife x0 46 (okR 4 s) (ife x0 47 (okR 4 s) (ife x0 42 (okR 5 s) (ife x0 43 (okR 5 s) (ife x0 44 (okR 5 s) (ife x0 48 (okR 5 s) (ife x0 49 (okR 5 s) (ife x0 45 (okR 5 s) (ife x0 50 (okR 5 s) (okR 0 s)))))))))))) (okR 3 s)))))))
theorem w_X6_strength {xs : Nat → Int32} {L : Nat} {x0 : Nat} {s : mm_H} {d : Nat} (hd : 5 ≤ d) (hN : b_X6_strength  x0 s ≠ none) : Rn xs L d 138 [.int (nI x0)] (idH s) (ou eN (idH) (b_X6_strength  x0 s)) := by
  unfold Rn
  unfold b_X6_strength at hN ⊢
  refine e_iload_n m_X6_strength dX6_strength_0 rfl rfl ?_
  refine e_bipush (v := nI 63) m_X6_strength dX6_strength_1 (by decide) ?_
  refine e_ine (t := 8) (a := x0) (b := 63) hN m_X6_strength dX6_strength_3 (by decide) (fun q1 hN => ?_) (fun q1 hN => ?_)
  · refine e_iconst (v := nI 1) m_X6_strength dX6_strength_6 (by decide) ?_
    exact e_reti m_X6_strength dX6_strength_7 (Or.inl rfl)
  · refine e_iload_n m_X6_strength dX6_strength_8 rfl rfl ?_
    refine e_bipush (v := nI 62) m_X6_strength dX6_strength_9 (by decide) ?_
    refine e_ine (t := 16) (a := x0) (b := 62) hN m_X6_strength dX6_strength_11 (by decide) (fun q2 hN => ?_) (fun q2 hN => ?_)
    · refine e_iconst (v := nI 2) m_X6_strength dX6_strength_14 (by decide) ?_
      exact e_reti m_X6_strength dX6_strength_15 (Or.inl rfl)
    · refine e_iload_n m_X6_strength dX6_strength_16 rfl rfl ?_
      refine e_bipush (v := nI 67) m_X6_strength dX6_strength_17 (by decide) ?_
      refine e_ieq (t := 46) (a := x0) (b := 67) hN m_X6_strength dX6_strength_19 (by decide) (fun q3 hN => ?_) (fun q3 hN => ?_)
      · refine e_iconst (v := nI 3) m_X6_strength dX6_strength_46 (by decide) ?_
        exact e_reti m_X6_strength dX6_strength_47 (Or.inl rfl)
      · refine e_iload_n m_X6_strength dX6_strength_22 rfl rfl ?_
        refine e_bipush (v := nI 68) m_X6_strength dX6_strength_23 (by decide) ?_
        refine e_ieq (t := 46) (a := x0) (b := 68) hN m_X6_strength dX6_strength_25 (by decide) (fun q4 hN => ?_) (fun q4 hN => ?_)
        · refine e_iconst (v := nI 3) m_X6_strength dX6_strength_46 (by decide) ?_
          exact e_reti m_X6_strength dX6_strength_47 (Or.inl rfl)
        · refine e_iload_n m_X6_strength dX6_strength_28 rfl rfl ?_
          refine e_bipush (v := nI 69) m_X6_strength dX6_strength_29 (by decide) ?_
          refine e_ieq (t := 46) (a := x0) (b := 69) hN m_X6_strength dX6_strength_31 (by decide) (fun q5 hN => ?_) (fun q5 hN => ?_)
          · refine e_iconst (v := nI 3) m_X6_strength dX6_strength_46 (by decide) ?_
            exact e_reti m_X6_strength dX6_strength_47 (Or.inl rfl)
          · refine e_iload_n m_X6_strength dX6_strength_34 rfl rfl ?_
            refine e_bipush (v := nI 73) m_X6_strength dX6_strength_35 (by decide) ?_
            refine e_ilt (t := 48) (a := x0) (b := 73) hN m_X6_strength dX6_strength_37 (by decide) (fun q6 hN => ?_) (fun q6 hN => ?_)
            · refine e_iload_n m_X6_strength dX6_strength_48 rfl rfl ?_
              refine e_bipush (v := nI 40) m_X6_strength dX6_strength_49 (by decide) ?_
              refine e_ieq (t := 72) (a := x0) (b := 40) hN m_X6_strength dX6_strength_51 (by decide) (fun q7 hN => ?_) (fun q7 hN => ?_)
              · refine e_iconst (v := nI 4) m_X6_strength dX6_strength_72 (by decide) ?_
                exact e_reti m_X6_strength dX6_strength_73 (Or.inl rfl)
              · refine e_iload_n m_X6_strength dX6_strength_54 rfl rfl ?_
                refine e_bipush (v := nI 41) m_X6_strength dX6_strength_55 (by decide) ?_
                refine e_ieq (t := 72) (a := x0) (b := 41) hN m_X6_strength dX6_strength_57 (by decide) (fun q8 hN => ?_) (fun q8 hN => ?_)
                · refine e_iconst (v := nI 4) m_X6_strength dX6_strength_72 (by decide) ?_
                  exact e_reti m_X6_strength dX6_strength_73 (Or.inl rfl)
                · refine e_iload_n m_X6_strength dX6_strength_60 rfl rfl ?_
                  refine e_bipush (v := nI 46) m_X6_strength dX6_strength_61 (by decide) ?_
                  refine e_ieq (t := 72) (a := x0) (b := 46) hN m_X6_strength dX6_strength_63 (by decide) (fun q9 hN => ?_) (fun q9 hN => ?_)
                  · refine e_iconst (v := nI 4) m_X6_strength dX6_strength_72 (by decide) ?_
                    exact e_reti m_X6_strength dX6_strength_73 (Or.inl rfl)
                  · refine e_iload_n m_X6_strength dX6_strength_66 rfl rfl ?_
                    refine e_bipush (v := nI 47) m_X6_strength dX6_strength_67 (by decide) ?_
                    refine e_ine (t := 74) (a := x0) (b := 47) hN m_X6_strength dX6_strength_69 (by decide) (fun q10 hN => ?_) (fun q10 hN => ?_)
                    · refine e_iconst (v := nI 4) m_X6_strength dX6_strength_72 (by decide) ?_
                      exact e_reti m_X6_strength dX6_strength_73 (Or.inl rfl)
                    · refine e_iload_n m_X6_strength dX6_strength_74 rfl rfl ?_
                      refine e_bipush (v := nI 42) m_X6_strength dX6_strength_75 (by decide) ?_
                      refine e_ieq (t := 116) (a := x0) (b := 42) hN m_X6_strength dX6_strength_77 (by decide) (fun q11 hN => ?_) (fun q11 hN => ?_)
                      · refine e_iconst (v := nI 5) m_X6_strength dX6_strength_116 (by decide) ?_
                        refine e_goto (t := 121) m_X6_strength dX6_strength_117 (by decide) ?_
                        exact e_reti m_X6_strength dX6_strength_121 (Or.inl rfl)
                      · refine e_iload_n m_X6_strength dX6_strength_80 rfl rfl ?_
                        refine e_bipush (v := nI 43) m_X6_strength dX6_strength_81 (by decide) ?_
                        refine e_ieq (t := 116) (a := x0) (b := 43) hN m_X6_strength dX6_strength_83 (by decide) (fun q12 hN => ?_) (fun q12 hN => ?_)
                        · refine e_iconst (v := nI 5) m_X6_strength dX6_strength_116 (by decide) ?_
                          refine e_goto (t := 121) m_X6_strength dX6_strength_117 (by decide) ?_
                          exact e_reti m_X6_strength dX6_strength_121 (Or.inl rfl)
                        · refine e_iload_n m_X6_strength dX6_strength_86 rfl rfl ?_
                          refine e_bipush (v := nI 44) m_X6_strength dX6_strength_87 (by decide) ?_
                          refine e_ieq (t := 116) (a := x0) (b := 44) hN m_X6_strength dX6_strength_89 (by decide) (fun q13 hN => ?_) (fun q13 hN => ?_)
                          · refine e_iconst (v := nI 5) m_X6_strength dX6_strength_116 (by decide) ?_
                            refine e_goto (t := 121) m_X6_strength dX6_strength_117 (by decide) ?_
                            exact e_reti m_X6_strength dX6_strength_121 (Or.inl rfl)
                          · refine e_iload_n m_X6_strength dX6_strength_92 rfl rfl ?_
                            refine e_bipush (v := nI 48) m_X6_strength dX6_strength_93 (by decide) ?_
                            refine e_ieq (t := 116) (a := x0) (b := 48) hN m_X6_strength dX6_strength_95 (by decide) (fun q14 hN => ?_) (fun q14 hN => ?_)
                            · refine e_iconst (v := nI 5) m_X6_strength dX6_strength_116 (by decide) ?_
                              refine e_goto (t := 121) m_X6_strength dX6_strength_117 (by decide) ?_
                              exact e_reti m_X6_strength dX6_strength_121 (Or.inl rfl)
                            · refine e_iload_n m_X6_strength dX6_strength_98 rfl rfl ?_
                              refine e_bipush (v := nI 49) m_X6_strength dX6_strength_99 (by decide) ?_
                              refine e_ieq (t := 116) (a := x0) (b := 49) hN m_X6_strength dX6_strength_101 (by decide) (fun q15 hN => ?_) (fun q15 hN => ?_)
                              · refine e_iconst (v := nI 5) m_X6_strength dX6_strength_116 (by decide) ?_
                                refine e_goto (t := 121) m_X6_strength dX6_strength_117 (by decide) ?_
                                exact e_reti m_X6_strength dX6_strength_121 (Or.inl rfl)
                              · refine e_iload_n m_X6_strength dX6_strength_104 rfl rfl ?_
                                refine e_bipush (v := nI 45) m_X6_strength dX6_strength_105 (by decide) ?_
                                refine e_ieq (t := 116) (a := x0) (b := 45) hN m_X6_strength dX6_strength_107 (by decide) (fun q16 hN => ?_) (fun q16 hN => ?_)
                                · refine e_iconst (v := nI 5) m_X6_strength dX6_strength_116 (by decide) ?_
                                  refine e_goto (t := 121) m_X6_strength dX6_strength_117 (by decide) ?_
                                  exact e_reti m_X6_strength dX6_strength_121 (Or.inl rfl)
                                · refine e_iload_n m_X6_strength dX6_strength_110 rfl rfl ?_
                                  refine e_bipush (v := nI 50) m_X6_strength dX6_strength_111 (by decide) ?_
                                  refine e_ine (t := 120) (a := x0) (b := 50) hN m_X6_strength dX6_strength_113 (by decide) (fun q17 hN => ?_) (fun q17 hN => ?_)
                                  · refine e_iconst (v := nI 5) m_X6_strength dX6_strength_116 (by decide) ?_
                                    refine e_goto (t := 121) m_X6_strength dX6_strength_117 (by decide) ?_
                                    exact e_reti m_X6_strength dX6_strength_121 (Or.inl rfl)
                                  · refine e_iconst (v := nI 0) m_X6_strength dX6_strength_120 (by decide) ?_
                                    exact e_reti m_X6_strength dX6_strength_121 (Or.inl rfl)
            · refine e_iload_n m_X6_strength dX6_strength_40 rfl rfl ?_
              refine e_bipush (v := nI 75) m_X6_strength dX6_strength_41 (by decide) ?_
              refine e_igt (t := 48) (a := x0) (b := 75) hN m_X6_strength dX6_strength_43 (by decide) (fun q18 hN => ?_) (fun q18 hN => ?_)
              · refine e_iload_n m_X6_strength dX6_strength_48 rfl rfl ?_
                refine e_bipush (v := nI 40) m_X6_strength dX6_strength_49 (by decide) ?_
                refine e_ieq (t := 72) (a := x0) (b := 40) hN m_X6_strength dX6_strength_51 (by decide) (fun q19 hN => ?_) (fun q19 hN => ?_)
                · refine e_iconst (v := nI 4) m_X6_strength dX6_strength_72 (by decide) ?_
                  exact e_reti m_X6_strength dX6_strength_73 (Or.inl rfl)
                · refine e_iload_n m_X6_strength dX6_strength_54 rfl rfl ?_
                  refine e_bipush (v := nI 41) m_X6_strength dX6_strength_55 (by decide) ?_
                  refine e_ieq (t := 72) (a := x0) (b := 41) hN m_X6_strength dX6_strength_57 (by decide) (fun q20 hN => ?_) (fun q20 hN => ?_)
                  · refine e_iconst (v := nI 4) m_X6_strength dX6_strength_72 (by decide) ?_
                    exact e_reti m_X6_strength dX6_strength_73 (Or.inl rfl)
                  · refine e_iload_n m_X6_strength dX6_strength_60 rfl rfl ?_
                    refine e_bipush (v := nI 46) m_X6_strength dX6_strength_61 (by decide) ?_
                    refine e_ieq (t := 72) (a := x0) (b := 46) hN m_X6_strength dX6_strength_63 (by decide) (fun q21 hN => ?_) (fun q21 hN => ?_)
                    · refine e_iconst (v := nI 4) m_X6_strength dX6_strength_72 (by decide) ?_
                      exact e_reti m_X6_strength dX6_strength_73 (Or.inl rfl)
                    · refine e_iload_n m_X6_strength dX6_strength_66 rfl rfl ?_
                      refine e_bipush (v := nI 47) m_X6_strength dX6_strength_67 (by decide) ?_
                      refine e_ine (t := 74) (a := x0) (b := 47) hN m_X6_strength dX6_strength_69 (by decide) (fun q22 hN => ?_) (fun q22 hN => ?_)
                      · refine e_iconst (v := nI 4) m_X6_strength dX6_strength_72 (by decide) ?_
                        exact e_reti m_X6_strength dX6_strength_73 (Or.inl rfl)
                      · refine e_iload_n m_X6_strength dX6_strength_74 rfl rfl ?_
                        refine e_bipush (v := nI 42) m_X6_strength dX6_strength_75 (by decide) ?_
                        refine e_ieq (t := 116) (a := x0) (b := 42) hN m_X6_strength dX6_strength_77 (by decide) (fun q23 hN => ?_) (fun q23 hN => ?_)
                        · refine e_iconst (v := nI 5) m_X6_strength dX6_strength_116 (by decide) ?_
                          refine e_goto (t := 121) m_X6_strength dX6_strength_117 (by decide) ?_
                          exact e_reti m_X6_strength dX6_strength_121 (Or.inl rfl)
                        · refine e_iload_n m_X6_strength dX6_strength_80 rfl rfl ?_
                          refine e_bipush (v := nI 43) m_X6_strength dX6_strength_81 (by decide) ?_
                          refine e_ieq (t := 116) (a := x0) (b := 43) hN m_X6_strength dX6_strength_83 (by decide) (fun q24 hN => ?_) (fun q24 hN => ?_)
                          · refine e_iconst (v := nI 5) m_X6_strength dX6_strength_116 (by decide) ?_
                            refine e_goto (t := 121) m_X6_strength dX6_strength_117 (by decide) ?_
                            exact e_reti m_X6_strength dX6_strength_121 (Or.inl rfl)
                          · refine e_iload_n m_X6_strength dX6_strength_86 rfl rfl ?_
                            refine e_bipush (v := nI 44) m_X6_strength dX6_strength_87 (by decide) ?_
                            refine e_ieq (t := 116) (a := x0) (b := 44) hN m_X6_strength dX6_strength_89 (by decide) (fun q25 hN => ?_) (fun q25 hN => ?_)
                            · refine e_iconst (v := nI 5) m_X6_strength dX6_strength_116 (by decide) ?_
                              refine e_goto (t := 121) m_X6_strength dX6_strength_117 (by decide) ?_
                              exact e_reti m_X6_strength dX6_strength_121 (Or.inl rfl)
                            · refine e_iload_n m_X6_strength dX6_strength_92 rfl rfl ?_
                              refine e_bipush (v := nI 48) m_X6_strength dX6_strength_93 (by decide) ?_
                              refine e_ieq (t := 116) (a := x0) (b := 48) hN m_X6_strength dX6_strength_95 (by decide) (fun q26 hN => ?_) (fun q26 hN => ?_)
                              · refine e_iconst (v := nI 5) m_X6_strength dX6_strength_116 (by decide) ?_
                                refine e_goto (t := 121) m_X6_strength dX6_strength_117 (by decide) ?_
                                exact e_reti m_X6_strength dX6_strength_121 (Or.inl rfl)
                              · refine e_iload_n m_X6_strength dX6_strength_98 rfl rfl ?_
                                refine e_bipush (v := nI 49) m_X6_strength dX6_strength_99 (by decide) ?_
                                refine e_ieq (t := 116) (a := x0) (b := 49) hN m_X6_strength dX6_strength_101 (by decide) (fun q27 hN => ?_) (fun q27 hN => ?_)
                                · refine e_iconst (v := nI 5) m_X6_strength dX6_strength_116 (by decide) ?_
                                  refine e_goto (t := 121) m_X6_strength dX6_strength_117 (by decide) ?_
                                  exact e_reti m_X6_strength dX6_strength_121 (Or.inl rfl)
                                · refine e_iload_n m_X6_strength dX6_strength_104 rfl rfl ?_
                                  refine e_bipush (v := nI 45) m_X6_strength dX6_strength_105 (by decide) ?_
                                  refine e_ieq (t := 116) (a := x0) (b := 45) hN m_X6_strength dX6_strength_107 (by decide) (fun q28 hN => ?_) (fun q28 hN => ?_)
                                  · refine e_iconst (v := nI 5) m_X6_strength dX6_strength_116 (by decide) ?_
                                    refine e_goto (t := 121) m_X6_strength dX6_strength_117 (by decide) ?_
                                    exact e_reti m_X6_strength dX6_strength_121 (Or.inl rfl)
                                  · refine e_iload_n m_X6_strength dX6_strength_110 rfl rfl ?_
                                    refine e_bipush (v := nI 50) m_X6_strength dX6_strength_111 (by decide) ?_
                                    refine e_ine (t := 120) (a := x0) (b := 50) hN m_X6_strength dX6_strength_113 (by decide) (fun q29 hN => ?_) (fun q29 hN => ?_)
                                    · refine e_iconst (v := nI 5) m_X6_strength dX6_strength_116 (by decide) ?_
                                      refine e_goto (t := 121) m_X6_strength dX6_strength_117 (by decide) ?_
                                      exact e_reti m_X6_strength dX6_strength_121 (Or.inl rfl)
                                    · refine e_iconst (v := nI 0) m_X6_strength dX6_strength_120 (by decide) ?_
                                      exact e_reti m_X6_strength dX6_strength_121 (Or.inl rfl)
              · refine e_iconst (v := nI 3) m_X6_strength dX6_strength_46 (by decide) ?_
                exact e_reti m_X6_strength dX6_strength_47 (Or.inl rfl)

def f_X6_strength (x0 : Nat) : Nat := if x0 = 63 then 1 else if x0 = 62 then 2 else if x0 = 67 then 3 else if x0 = 68 then 3 else if x0 = 69 then 3 else if x0 < 73 then if x0 = 40 then 4 else if x0 = 41 then 4 else if x0 = 46 then 4 else if x0 = 47 then 4 else if x0 = 42 then 5 else if x0 = 43 then 5 else if x0 = 44 then 5 else if x0 = 48 then 5 else if x0 = 49 then 5 else if x0 = 45 then 5 else if x0 = 50 then 5 else 0 else if 75 < x0 then if x0 = 40 then 4 else if x0 = 41 then 4 else if x0 = 46 then 4 else if x0 = 47 then 4 else if x0 = 42 then 5 else if x0 = 43 then 5 else if x0 = 44 then 5 else if x0 = 48 then 5 else if x0 = 49 then 5 else if x0 = 45 then 5 else if x0 = 50 then 5 else 0 else 3
theorem fb_X6_strength {x0 : Nat} : f_X6_strength x0 < 9 := by
  unfold f_X6_strength
  repeat' refine ite_lt ?_ ?_
  all_goals decide
theorem fe_X6_strength {x0 : Nat} (h0 : x0 < 2147483648) {s : mm_H} : b_X6_strength x0 s = okR (f_X6_strength x0) s := by
  unfold b_X6_strength f_X6_strength
  skip
  simp only [ck, ife, ifl, ifz, ok_ite, h0, and_self, if_true, Nat.reduceLT, true_and, and_true]
theorem z_X6_strength {xs : Nat → Int32} {L d : Nat} {h : mm_H} {x0 : Nat} (h0 : x0 < 2147483648) (hd : 5 ≤ d) : Rn xs L d 138 [.int (nI x0)] h (.inl (some (.int (nI (f_X6_strength x0)))), h, 0, 0) := by
  have e1 : b_X6_strength x0 h = okR (f_X6_strength x0) h := fe_X6_strength h0
  have := w_X6_strength (xs := xs) (L := L) (d := d) (s := h) (x0 := x0) (by omega) (by rw [e1]; exact fun q => by cases q)
  rw [e1] at this
  exact this
def b_X6_beginsStatement  (x0 : Nat) (s : mm_H) : Rs mm_H := ck (x0 < 2147483648) (ifz (f_X6_beginsExpr x0) (ife x0 13 (okR 1 s) (ife x0 33 (okR 1 s) (ife x0 34 (okR 1 s) (ife x0 21 (okR 1 s) (ife x0 16 (okR 1 s) (ife x0 29 (okR 1 s) (ife x0 10 (okR 1 s) (ife x0 14 (okR 1 s) (ife x0 18 (okR 1 s) (ife x0 82 (okR 1 s) (ife x0 23 (okR 1 s) (ife x0 32 (okR 1 s) (ife x0 30 (okR 1 s) (ife x0 19 (okR 1 s) (okR 0 s))))))))))))))) (okR 1 s))
theorem w_X6_beginsStatement {xs : Nat → Int32} {L : Nat} {x0 : Nat} {s : mm_H} {d : Nat} (hd : 7 ≤ d) (hN : b_X6_beginsStatement  x0 s ≠ none) : Rn xs L d 187 [.int (nI x0)] (idH s) (ou eN (idH) (b_X6_beginsStatement  x0 s)) := by
  unfold Rn
  unfold b_X6_beginsStatement at hN ⊢
  refine e_iload_n m_X6_beginsStatement dX6_beginsStatement_0 rfl rfl ?_
  refine e_ck hN (fun q1 hN => ?_)
  refine e_cs (as := [_]) m_X6_beginsStatement dX6_beginsStatement_1 c_RX6_171 (by decide) rfl rfl (Nat.le_of_ble_eq_true rfl) (Nat.le_of_ble_eq_true rfl) (by omega) (z_X6_beginsExpr q1 (by omega)) ?_
  refine e_ifne (t := 91) hN m_X6_beginsStatement dX6_beginsStatement_4 (by decide) (fun q2 hN => ?_) (fun q2 hN => ?_)
  · refine e_iload_n m_X6_beginsStatement dX6_beginsStatement_7 rfl rfl ?_
    refine e_bipush (v := nI 13) m_X6_beginsStatement dX6_beginsStatement_8 (by decide) ?_
    refine e_ieq (t := 91) (a := x0) (b := 13) hN m_X6_beginsStatement dX6_beginsStatement_10 (by decide) (fun q3 hN => ?_) (fun q3 hN => ?_)
    · refine e_iconst (v := nI 1) m_X6_beginsStatement dX6_beginsStatement_91 (by decide) ?_
      refine e_goto (t := 96) m_X6_beginsStatement dX6_beginsStatement_92 (by decide) ?_
      exact e_reti m_X6_beginsStatement dX6_beginsStatement_96 (Or.inr ⟨rfl, by decide⟩)
    · refine e_iload_n m_X6_beginsStatement dX6_beginsStatement_13 rfl rfl ?_
      refine e_bipush (v := nI 33) m_X6_beginsStatement dX6_beginsStatement_14 (by decide) ?_
      refine e_ieq (t := 91) (a := x0) (b := 33) hN m_X6_beginsStatement dX6_beginsStatement_16 (by decide) (fun q4 hN => ?_) (fun q4 hN => ?_)
      · refine e_iconst (v := nI 1) m_X6_beginsStatement dX6_beginsStatement_91 (by decide) ?_
        refine e_goto (t := 96) m_X6_beginsStatement dX6_beginsStatement_92 (by decide) ?_
        exact e_reti m_X6_beginsStatement dX6_beginsStatement_96 (Or.inr ⟨rfl, by decide⟩)
      · refine e_iload_n m_X6_beginsStatement dX6_beginsStatement_19 rfl rfl ?_
        refine e_bipush (v := nI 34) m_X6_beginsStatement dX6_beginsStatement_20 (by decide) ?_
        refine e_ieq (t := 91) (a := x0) (b := 34) hN m_X6_beginsStatement dX6_beginsStatement_22 (by decide) (fun q5 hN => ?_) (fun q5 hN => ?_)
        · refine e_iconst (v := nI 1) m_X6_beginsStatement dX6_beginsStatement_91 (by decide) ?_
          refine e_goto (t := 96) m_X6_beginsStatement dX6_beginsStatement_92 (by decide) ?_
          exact e_reti m_X6_beginsStatement dX6_beginsStatement_96 (Or.inr ⟨rfl, by decide⟩)
        · refine e_iload_n m_X6_beginsStatement dX6_beginsStatement_25 rfl rfl ?_
          refine e_bipush (v := nI 21) m_X6_beginsStatement dX6_beginsStatement_26 (by decide) ?_
          refine e_ieq (t := 91) (a := x0) (b := 21) hN m_X6_beginsStatement dX6_beginsStatement_28 (by decide) (fun q6 hN => ?_) (fun q6 hN => ?_)
          · refine e_iconst (v := nI 1) m_X6_beginsStatement dX6_beginsStatement_91 (by decide) ?_
            refine e_goto (t := 96) m_X6_beginsStatement dX6_beginsStatement_92 (by decide) ?_
            exact e_reti m_X6_beginsStatement dX6_beginsStatement_96 (Or.inr ⟨rfl, by decide⟩)
          · refine e_iload_n m_X6_beginsStatement dX6_beginsStatement_31 rfl rfl ?_
            refine e_bipush (v := nI 16) m_X6_beginsStatement dX6_beginsStatement_32 (by decide) ?_
            refine e_ieq (t := 91) (a := x0) (b := 16) hN m_X6_beginsStatement dX6_beginsStatement_34 (by decide) (fun q7 hN => ?_) (fun q7 hN => ?_)
            · refine e_iconst (v := nI 1) m_X6_beginsStatement dX6_beginsStatement_91 (by decide) ?_
              refine e_goto (t := 96) m_X6_beginsStatement dX6_beginsStatement_92 (by decide) ?_
              exact e_reti m_X6_beginsStatement dX6_beginsStatement_96 (Or.inr ⟨rfl, by decide⟩)
            · refine e_iload_n m_X6_beginsStatement dX6_beginsStatement_37 rfl rfl ?_
              refine e_bipush (v := nI 29) m_X6_beginsStatement dX6_beginsStatement_38 (by decide) ?_
              refine e_ieq (t := 91) (a := x0) (b := 29) hN m_X6_beginsStatement dX6_beginsStatement_40 (by decide) (fun q8 hN => ?_) (fun q8 hN => ?_)
              · refine e_iconst (v := nI 1) m_X6_beginsStatement dX6_beginsStatement_91 (by decide) ?_
                refine e_goto (t := 96) m_X6_beginsStatement dX6_beginsStatement_92 (by decide) ?_
                exact e_reti m_X6_beginsStatement dX6_beginsStatement_96 (Or.inr ⟨rfl, by decide⟩)
              · refine e_iload_n m_X6_beginsStatement dX6_beginsStatement_43 rfl rfl ?_
                refine e_bipush (v := nI 10) m_X6_beginsStatement dX6_beginsStatement_44 (by decide) ?_
                refine e_ieq (t := 91) (a := x0) (b := 10) hN m_X6_beginsStatement dX6_beginsStatement_46 (by decide) (fun q9 hN => ?_) (fun q9 hN => ?_)
                · refine e_iconst (v := nI 1) m_X6_beginsStatement dX6_beginsStatement_91 (by decide) ?_
                  refine e_goto (t := 96) m_X6_beginsStatement dX6_beginsStatement_92 (by decide) ?_
                  exact e_reti m_X6_beginsStatement dX6_beginsStatement_96 (Or.inr ⟨rfl, by decide⟩)
                · refine e_iload_n m_X6_beginsStatement dX6_beginsStatement_49 rfl rfl ?_
                  refine e_bipush (v := nI 14) m_X6_beginsStatement dX6_beginsStatement_50 (by decide) ?_
                  refine e_ieq (t := 91) (a := x0) (b := 14) hN m_X6_beginsStatement dX6_beginsStatement_52 (by decide) (fun q10 hN => ?_) (fun q10 hN => ?_)
                  · refine e_iconst (v := nI 1) m_X6_beginsStatement dX6_beginsStatement_91 (by decide) ?_
                    refine e_goto (t := 96) m_X6_beginsStatement dX6_beginsStatement_92 (by decide) ?_
                    exact e_reti m_X6_beginsStatement dX6_beginsStatement_96 (Or.inr ⟨rfl, by decide⟩)
                  · refine e_iload_n m_X6_beginsStatement dX6_beginsStatement_55 rfl rfl ?_
                    refine e_bipush (v := nI 18) m_X6_beginsStatement dX6_beginsStatement_56 (by decide) ?_
                    refine e_ieq (t := 91) (a := x0) (b := 18) hN m_X6_beginsStatement dX6_beginsStatement_58 (by decide) (fun q11 hN => ?_) (fun q11 hN => ?_)
                    · refine e_iconst (v := nI 1) m_X6_beginsStatement dX6_beginsStatement_91 (by decide) ?_
                      refine e_goto (t := 96) m_X6_beginsStatement dX6_beginsStatement_92 (by decide) ?_
                      exact e_reti m_X6_beginsStatement dX6_beginsStatement_96 (Or.inr ⟨rfl, by decide⟩)
                    · refine e_iload_n m_X6_beginsStatement dX6_beginsStatement_61 rfl rfl ?_
                      refine e_bipush (v := nI 82) m_X6_beginsStatement dX6_beginsStatement_62 (by decide) ?_
                      refine e_ieq (t := 91) (a := x0) (b := 82) hN m_X6_beginsStatement dX6_beginsStatement_64 (by decide) (fun q12 hN => ?_) (fun q12 hN => ?_)
                      · refine e_iconst (v := nI 1) m_X6_beginsStatement dX6_beginsStatement_91 (by decide) ?_
                        refine e_goto (t := 96) m_X6_beginsStatement dX6_beginsStatement_92 (by decide) ?_
                        exact e_reti m_X6_beginsStatement dX6_beginsStatement_96 (Or.inr ⟨rfl, by decide⟩)
                      · refine e_iload_n m_X6_beginsStatement dX6_beginsStatement_67 rfl rfl ?_
                        refine e_bipush (v := nI 23) m_X6_beginsStatement dX6_beginsStatement_68 (by decide) ?_
                        refine e_ieq (t := 91) (a := x0) (b := 23) hN m_X6_beginsStatement dX6_beginsStatement_70 (by decide) (fun q13 hN => ?_) (fun q13 hN => ?_)
                        · refine e_iconst (v := nI 1) m_X6_beginsStatement dX6_beginsStatement_91 (by decide) ?_
                          refine e_goto (t := 96) m_X6_beginsStatement dX6_beginsStatement_92 (by decide) ?_
                          exact e_reti m_X6_beginsStatement dX6_beginsStatement_96 (Or.inr ⟨rfl, by decide⟩)
                        · refine e_iload_n m_X6_beginsStatement dX6_beginsStatement_73 rfl rfl ?_
                          refine e_bipush (v := nI 32) m_X6_beginsStatement dX6_beginsStatement_74 (by decide) ?_
                          refine e_ieq (t := 91) (a := x0) (b := 32) hN m_X6_beginsStatement dX6_beginsStatement_76 (by decide) (fun q14 hN => ?_) (fun q14 hN => ?_)
                          · refine e_iconst (v := nI 1) m_X6_beginsStatement dX6_beginsStatement_91 (by decide) ?_
                            refine e_goto (t := 96) m_X6_beginsStatement dX6_beginsStatement_92 (by decide) ?_
                            exact e_reti m_X6_beginsStatement dX6_beginsStatement_96 (Or.inr ⟨rfl, by decide⟩)
                          · refine e_iload_n m_X6_beginsStatement dX6_beginsStatement_79 rfl rfl ?_
                            refine e_bipush (v := nI 30) m_X6_beginsStatement dX6_beginsStatement_80 (by decide) ?_
                            refine e_ieq (t := 91) (a := x0) (b := 30) hN m_X6_beginsStatement dX6_beginsStatement_82 (by decide) (fun q15 hN => ?_) (fun q15 hN => ?_)
                            · refine e_iconst (v := nI 1) m_X6_beginsStatement dX6_beginsStatement_91 (by decide) ?_
                              refine e_goto (t := 96) m_X6_beginsStatement dX6_beginsStatement_92 (by decide) ?_
                              exact e_reti m_X6_beginsStatement dX6_beginsStatement_96 (Or.inr ⟨rfl, by decide⟩)
                            · refine e_iload_n m_X6_beginsStatement dX6_beginsStatement_85 rfl rfl ?_
                              refine e_bipush (v := nI 19) m_X6_beginsStatement dX6_beginsStatement_86 (by decide) ?_
                              refine e_ine (t := 95) (a := x0) (b := 19) hN m_X6_beginsStatement dX6_beginsStatement_88 (by decide) (fun q16 hN => ?_) (fun q16 hN => ?_)
                              · refine e_iconst (v := nI 1) m_X6_beginsStatement dX6_beginsStatement_91 (by decide) ?_
                                refine e_goto (t := 96) m_X6_beginsStatement dX6_beginsStatement_92 (by decide) ?_
                                exact e_reti m_X6_beginsStatement dX6_beginsStatement_96 (Or.inr ⟨rfl, by decide⟩)
                              · refine e_iconst (v := nI 0) m_X6_beginsStatement dX6_beginsStatement_95 (by decide) ?_
                                exact e_reti m_X6_beginsStatement dX6_beginsStatement_96 (Or.inr ⟨rfl, by decide⟩)
  · refine e_iconst (v := nI 1) m_X6_beginsStatement dX6_beginsStatement_91 (by decide) ?_
    refine e_goto (t := 96) m_X6_beginsStatement dX6_beginsStatement_92 (by decide) ?_
    exact e_reti m_X6_beginsStatement dX6_beginsStatement_96 (Or.inr ⟨rfl, by decide⟩)

def f_X6_beginsStatement (x0 : Nat) : Nat := if (f_X6_beginsExpr x0) = 0 then if x0 = 13 then 1 else if x0 = 33 then 1 else if x0 = 34 then 1 else if x0 = 21 then 1 else if x0 = 16 then 1 else if x0 = 29 then 1 else if x0 = 10 then 1 else if x0 = 14 then 1 else if x0 = 18 then 1 else if x0 = 82 then 1 else if x0 = 23 then 1 else if x0 = 32 then 1 else if x0 = 30 then 1 else if x0 = 19 then 1 else 0 else 1
theorem fb_X6_beginsStatement {x0 : Nat} : f_X6_beginsStatement x0 < 2 := by
  unfold f_X6_beginsStatement
  repeat' refine ite_lt ?_ ?_
  all_goals decide
theorem fe_X6_beginsStatement {x0 : Nat} (h0 : x0 < 2147483648) {s : mm_H} : b_X6_beginsStatement x0 s = okR (f_X6_beginsStatement x0) s := by
  unfold b_X6_beginsStatement f_X6_beginsStatement
  have u0 : f_X6_beginsExpr x0 < 2147483648 := Nat.lt_of_lt_of_le fb_X6_beginsExpr (by decide)
  simp only [ck, ife, ifl, ifz, ok_ite, h0, u0, and_self, if_true, Nat.reduceLT, true_and, and_true]
theorem z_X6_beginsStatement {xs : Nat → Int32} {L d : Nat} {h : mm_H} {x0 : Nat} (h0 : x0 < 2147483648) (hd : 7 ≤ d) : Rn xs L d 187 [.int (nI x0)] h (.inl (some (.int (nI (f_X6_beginsStatement x0)))), h, 0, 0) := by
  have e1 : b_X6_beginsStatement x0 h = okR (f_X6_beginsStatement x0) h := fe_X6_beginsStatement h0
  have := w_X6_beginsStatement (xs := xs) (L := L) (d := d) (s := h) (x0 := x0) (by omega) (by rw [e1]; exact fun q => by cases q)
  rw [e1] at this
  exact this
