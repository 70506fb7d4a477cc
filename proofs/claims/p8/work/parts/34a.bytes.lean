/-! Kinds and bytes: p1's rows. -/
def exC (x : Int32) : Int32 := if x < 40 then 0 else if 87 < x then 0 else 1
def exA (x : Int32) : Int32 := if x < 10 then exC x else if x ≤ 34 then 1 else exC x
def exB (x : Int32) : Int32 := if x < 1 then exA x else if x ≤ 5 then 1 else exA x
theorem exC_01 (x : Int32) : exC x = 0 ∨ exC x = 1 := by
  unfold exC
  split
  · exact Or.inl rfl
  · split
    · exact Or.inl rfl
    · exact Or.inr rfl
theorem exA_01 (x : Int32) : exA x = 0 ∨ exA x = 1 := by
  unfold exA
  split
  · exact exC_01 x
  · split
    · exact Or.inr rfl
    · exact exC_01 x
theorem exB_01 (x : Int32) : exB x = 0 ∨ exB x = 1 := by
  unfold exB
  split
  · exact exA_01 x
  · split
    · exact Or.inr rfl
    · exact exA_01 x
theorem t_exists {xs : Nat → Int32} {L d : Nat} {h : mm_H} {x : Int32} : Rn xs L d 4 [.int x] h (.inl (some (.int (exB x))), h, 0, 0) := by
  unfold Rn
  refine e_iload_n m_X0_exists dX0_exists_0 rfl rfl ?_
  refine e_iconst (v := 1) m_X0_exists dX0_exists_1 (by decide) ?_
  refine e_icmp (t := 10) m_X0_exists dX0_exists_2 (by decide) (fun q1 => ?_) (fun q1 => ?_)
  · have q1 := c_lt q1
    refine e_iload_n m_X0_exists dX0_exists_10 rfl rfl ?_
    refine e_bipush (v := 10) m_X0_exists dX0_exists_11 (by decide) ?_
    refine e_icmp (t := 22) m_X0_exists dX0_exists_13 (by decide) (fun q2 => ?_) (fun q2 => ?_)
    · have q2 := c_lt q2
      refine e_iload_n m_X0_exists dX0_exists_22 rfl rfl ?_
      refine e_bipush (v := 40) m_X0_exists dX0_exists_23 (by decide) ?_
      refine e_icmp (t := 38) m_X0_exists dX0_exists_25 (by decide) (fun q3 => ?_) (fun q3 => ?_)
      · have q3 := c_lt q3
        refine e_iconst (v := 0) m_X0_exists dX0_exists_38 (by decide) ?_
        rw [show exB x = 0 by unfold exB exA exC; rw [if_pos q1, if_pos q2, if_pos q3]]
        exact e_reti m_X0_exists dX0_exists_39 (Or.inr ⟨rfl, by decide⟩)
      · have q3 := c_lt' q3
        refine e_iload_n m_X0_exists dX0_exists_28 rfl rfl ?_
        refine e_bipush (v := 87) m_X0_exists dX0_exists_29 (by decide) ?_
        refine e_icmp (t := 38) m_X0_exists dX0_exists_31 (by decide) (fun q4 => ?_) (fun q4 => ?_)
        · have q4 := c_gt q4
          refine e_iconst (v := 0) m_X0_exists dX0_exists_38 (by decide) ?_
          rw [show exB x = 0 by unfold exB exA exC; rw [if_pos q1, if_pos q2, if_neg q3, if_pos q4]]
          exact e_reti m_X0_exists dX0_exists_39 (Or.inr ⟨rfl, by decide⟩)
        · have q4 := c_gt' q4
          refine e_iconst (v := 1) m_X0_exists dX0_exists_34 (by decide) ?_
          refine e_goto (t := 39) m_X0_exists dX0_exists_35 (by decide) ?_
          rw [show exB x = 1 by unfold exB exA exC; rw [if_pos q1, if_pos q2, if_neg q3, if_neg q4]]
          exact e_reti m_X0_exists dX0_exists_39 (Or.inr ⟨rfl, by decide⟩)
    · have q2 := c_lt' q2
      refine e_iload_n m_X0_exists dX0_exists_16 rfl rfl ?_
      refine e_bipush (v := 34) m_X0_exists dX0_exists_17 (by decide) ?_
      refine e_icmp (t := 34) m_X0_exists dX0_exists_19 (by decide) (fun q5 => ?_) (fun q5 => ?_)
      · have q5 := c_le q5
        refine e_iconst (v := 1) m_X0_exists dX0_exists_34 (by decide) ?_
        refine e_goto (t := 39) m_X0_exists dX0_exists_35 (by decide) ?_
        rw [show exB x = 1 by unfold exB exA exC; rw [if_pos q1, if_neg q2, if_pos q5]]
        exact e_reti m_X0_exists dX0_exists_39 (Or.inr ⟨rfl, by decide⟩)
      · have q5 := c_le' q5
        refine e_iload_n m_X0_exists dX0_exists_22 rfl rfl ?_
        refine e_bipush (v := 40) m_X0_exists dX0_exists_23 (by decide) ?_
        refine e_icmp (t := 38) m_X0_exists dX0_exists_25 (by decide) (fun q6 => ?_) (fun q6 => ?_)
        · have q6 := c_lt q6
          refine e_iconst (v := 0) m_X0_exists dX0_exists_38 (by decide) ?_
          rw [show exB x = 0 by unfold exB exA exC; rw [if_pos q1, if_neg q2, if_neg q5, if_pos q6]]
          exact e_reti m_X0_exists dX0_exists_39 (Or.inr ⟨rfl, by decide⟩)
        · have q6 := c_lt' q6
          refine e_iload_n m_X0_exists dX0_exists_28 rfl rfl ?_
          refine e_bipush (v := 87) m_X0_exists dX0_exists_29 (by decide) ?_
          refine e_icmp (t := 38) m_X0_exists dX0_exists_31 (by decide) (fun q7 => ?_) (fun q7 => ?_)
          · have q7 := c_gt q7
            refine e_iconst (v := 0) m_X0_exists dX0_exists_38 (by decide) ?_
            rw [show exB x = 0 by unfold exB exA exC; rw [if_pos q1, if_neg q2, if_neg q5, if_neg q6, if_pos q7]]
            exact e_reti m_X0_exists dX0_exists_39 (Or.inr ⟨rfl, by decide⟩)
          · have q7 := c_gt' q7
            refine e_iconst (v := 1) m_X0_exists dX0_exists_34 (by decide) ?_
            refine e_goto (t := 39) m_X0_exists dX0_exists_35 (by decide) ?_
            rw [show exB x = 1 by unfold exB exA exC; rw [if_pos q1, if_neg q2, if_neg q5, if_neg q6, if_neg q7]]
            exact e_reti m_X0_exists dX0_exists_39 (Or.inr ⟨rfl, by decide⟩)
  · have q1 := c_lt' q1
    refine e_iload_n m_X0_exists dX0_exists_5 rfl rfl ?_
    refine e_iconst (v := 5) m_X0_exists dX0_exists_6 (by decide) ?_
    refine e_icmp (t := 34) m_X0_exists dX0_exists_7 (by decide) (fun q8 => ?_) (fun q8 => ?_)
    · have q8 := c_le q8
      refine e_iconst (v := 1) m_X0_exists dX0_exists_34 (by decide) ?_
      refine e_goto (t := 39) m_X0_exists dX0_exists_35 (by decide) ?_
      rw [show exB x = 1 by unfold exB exA exC; rw [if_neg q1, if_pos q8]]
      exact e_reti m_X0_exists dX0_exists_39 (Or.inr ⟨rfl, by decide⟩)
    · have q8 := c_le' q8
      refine e_iload_n m_X0_exists dX0_exists_10 rfl rfl ?_
      refine e_bipush (v := 10) m_X0_exists dX0_exists_11 (by decide) ?_
      refine e_icmp (t := 22) m_X0_exists dX0_exists_13 (by decide) (fun q9 => ?_) (fun q9 => ?_)
      · have q9 := c_lt q9
        refine e_iload_n m_X0_exists dX0_exists_22 rfl rfl ?_
        refine e_bipush (v := 40) m_X0_exists dX0_exists_23 (by decide) ?_
        refine e_icmp (t := 38) m_X0_exists dX0_exists_25 (by decide) (fun q10 => ?_) (fun q10 => ?_)
        · have q10 := c_lt q10
          refine e_iconst (v := 0) m_X0_exists dX0_exists_38 (by decide) ?_
          rw [show exB x = 0 by unfold exB exA exC; rw [if_neg q1, if_neg q8, if_pos q9, if_pos q10]]
          exact e_reti m_X0_exists dX0_exists_39 (Or.inr ⟨rfl, by decide⟩)
        · have q10 := c_lt' q10
          refine e_iload_n m_X0_exists dX0_exists_28 rfl rfl ?_
          refine e_bipush (v := 87) m_X0_exists dX0_exists_29 (by decide) ?_
          refine e_icmp (t := 38) m_X0_exists dX0_exists_31 (by decide) (fun q11 => ?_) (fun q11 => ?_)
          · have q11 := c_gt q11
            refine e_iconst (v := 0) m_X0_exists dX0_exists_38 (by decide) ?_
            rw [show exB x = 0 by unfold exB exA exC; rw [if_neg q1, if_neg q8, if_pos q9, if_neg q10, if_pos q11]]
            exact e_reti m_X0_exists dX0_exists_39 (Or.inr ⟨rfl, by decide⟩)
          · have q11 := c_gt' q11
            refine e_iconst (v := 1) m_X0_exists dX0_exists_34 (by decide) ?_
            refine e_goto (t := 39) m_X0_exists dX0_exists_35 (by decide) ?_
            rw [show exB x = 1 by unfold exB exA exC; rw [if_neg q1, if_neg q8, if_pos q9, if_neg q10, if_neg q11]]
            exact e_reti m_X0_exists dX0_exists_39 (Or.inr ⟨rfl, by decide⟩)
      · have q9 := c_lt' q9
        refine e_iload_n m_X0_exists dX0_exists_16 rfl rfl ?_
        refine e_bipush (v := 34) m_X0_exists dX0_exists_17 (by decide) ?_
        refine e_icmp (t := 34) m_X0_exists dX0_exists_19 (by decide) (fun q12 => ?_) (fun q12 => ?_)
        · have q12 := c_le q12
          refine e_iconst (v := 1) m_X0_exists dX0_exists_34 (by decide) ?_
          refine e_goto (t := 39) m_X0_exists dX0_exists_35 (by decide) ?_
          rw [show exB x = 1 by unfold exB exA exC; rw [if_neg q1, if_neg q8, if_neg q9, if_pos q12]]
          exact e_reti m_X0_exists dX0_exists_39 (Or.inr ⟨rfl, by decide⟩)
        · have q12 := c_le' q12
          refine e_iload_n m_X0_exists dX0_exists_22 rfl rfl ?_
          refine e_bipush (v := 40) m_X0_exists dX0_exists_23 (by decide) ?_
          refine e_icmp (t := 38) m_X0_exists dX0_exists_25 (by decide) (fun q13 => ?_) (fun q13 => ?_)
          · have q13 := c_lt q13
            refine e_iconst (v := 0) m_X0_exists dX0_exists_38 (by decide) ?_
            rw [show exB x = 0 by unfold exB exA exC; rw [if_neg q1, if_neg q8, if_neg q9, if_neg q12, if_pos q13]]
            exact e_reti m_X0_exists dX0_exists_39 (Or.inr ⟨rfl, by decide⟩)
          · have q13 := c_lt' q13
            refine e_iload_n m_X0_exists dX0_exists_28 rfl rfl ?_
            refine e_bipush (v := 87) m_X0_exists dX0_exists_29 (by decide) ?_
            refine e_icmp (t := 38) m_X0_exists dX0_exists_31 (by decide) (fun q14 => ?_) (fun q14 => ?_)
            · have q14 := c_gt q14
              refine e_iconst (v := 0) m_X0_exists dX0_exists_38 (by decide) ?_
              rw [show exB x = 0 by unfold exB exA exC; rw [if_neg q1, if_neg q8, if_neg q9, if_neg q12, if_neg q13, if_pos q14]]
              exact e_reti m_X0_exists dX0_exists_39 (Or.inr ⟨rfl, by decide⟩)
            · have q14 := c_gt' q14
              refine e_iconst (v := 1) m_X0_exists dX0_exists_34 (by decide) ?_
              refine e_goto (t := 39) m_X0_exists dX0_exists_35 (by decide) ?_
              rw [show exB x = 1 by unfold exB exA exC; rw [if_neg q1, if_neg q8, if_neg q9, if_neg q12, if_neg q13, if_neg q14]]
              exact e_reti m_X0_exists dX0_exists_39 (Or.inr ⟨rfl, by decide⟩)
theorem t_isKind {xs : Nat → Int32} {L d : Nat} {h : mm_H} {x : Int32} : Rn xs L d 126 [.int x] h (.inl (some (.int (exB x))), h, 0, 0) := by
  unfold Rn
  refine e_iload_n m_X6_isKind dX6_isKind_0 rfl rfl ?_
  refine e_iconst (v := 1) m_X6_isKind dX6_isKind_1 (by decide) ?_
  refine e_icmp (t := 10) m_X6_isKind dX6_isKind_2 (by decide) (fun q1 => ?_) (fun q1 => ?_)
  · have q1 := c_lt q1
    refine e_iload_n m_X6_isKind dX6_isKind_10 rfl rfl ?_
    refine e_bipush (v := 10) m_X6_isKind dX6_isKind_11 (by decide) ?_
    refine e_icmp (t := 22) m_X6_isKind dX6_isKind_13 (by decide) (fun q2 => ?_) (fun q2 => ?_)
    · have q2 := c_lt q2
      refine e_iload_n m_X6_isKind dX6_isKind_22 rfl rfl ?_
      refine e_bipush (v := 40) m_X6_isKind dX6_isKind_23 (by decide) ?_
      refine e_icmp (t := 38) m_X6_isKind dX6_isKind_25 (by decide) (fun q3 => ?_) (fun q3 => ?_)
      · have q3 := c_lt q3
        refine e_iconst (v := 0) m_X6_isKind dX6_isKind_38 (by decide) ?_
        rw [show exB x = 0 by unfold exB exA exC; rw [if_pos q1, if_pos q2, if_pos q3]]
        exact e_reti m_X6_isKind dX6_isKind_39 (Or.inr ⟨rfl, by decide⟩)
      · have q3 := c_lt' q3
        refine e_iload_n m_X6_isKind dX6_isKind_28 rfl rfl ?_
        refine e_bipush (v := 87) m_X6_isKind dX6_isKind_29 (by decide) ?_
        refine e_icmp (t := 38) m_X6_isKind dX6_isKind_31 (by decide) (fun q4 => ?_) (fun q4 => ?_)
        · have q4 := c_gt q4
          refine e_iconst (v := 0) m_X6_isKind dX6_isKind_38 (by decide) ?_
          rw [show exB x = 0 by unfold exB exA exC; rw [if_pos q1, if_pos q2, if_neg q3, if_pos q4]]
          exact e_reti m_X6_isKind dX6_isKind_39 (Or.inr ⟨rfl, by decide⟩)
        · have q4 := c_gt' q4
          refine e_iconst (v := 1) m_X6_isKind dX6_isKind_34 (by decide) ?_
          refine e_goto (t := 39) m_X6_isKind dX6_isKind_35 (by decide) ?_
          rw [show exB x = 1 by unfold exB exA exC; rw [if_pos q1, if_pos q2, if_neg q3, if_neg q4]]
          exact e_reti m_X6_isKind dX6_isKind_39 (Or.inr ⟨rfl, by decide⟩)
    · have q2 := c_lt' q2
      refine e_iload_n m_X6_isKind dX6_isKind_16 rfl rfl ?_
      refine e_bipush (v := 34) m_X6_isKind dX6_isKind_17 (by decide) ?_
      refine e_icmp (t := 34) m_X6_isKind dX6_isKind_19 (by decide) (fun q5 => ?_) (fun q5 => ?_)
      · have q5 := c_le q5
        refine e_iconst (v := 1) m_X6_isKind dX6_isKind_34 (by decide) ?_
        refine e_goto (t := 39) m_X6_isKind dX6_isKind_35 (by decide) ?_
        rw [show exB x = 1 by unfold exB exA exC; rw [if_pos q1, if_neg q2, if_pos q5]]
        exact e_reti m_X6_isKind dX6_isKind_39 (Or.inr ⟨rfl, by decide⟩)
      · have q5 := c_le' q5
        refine e_iload_n m_X6_isKind dX6_isKind_22 rfl rfl ?_
        refine e_bipush (v := 40) m_X6_isKind dX6_isKind_23 (by decide) ?_
        refine e_icmp (t := 38) m_X6_isKind dX6_isKind_25 (by decide) (fun q6 => ?_) (fun q6 => ?_)
        · have q6 := c_lt q6
          refine e_iconst (v := 0) m_X6_isKind dX6_isKind_38 (by decide) ?_
          rw [show exB x = 0 by unfold exB exA exC; rw [if_pos q1, if_neg q2, if_neg q5, if_pos q6]]
          exact e_reti m_X6_isKind dX6_isKind_39 (Or.inr ⟨rfl, by decide⟩)
        · have q6 := c_lt' q6
          refine e_iload_n m_X6_isKind dX6_isKind_28 rfl rfl ?_
          refine e_bipush (v := 87) m_X6_isKind dX6_isKind_29 (by decide) ?_
          refine e_icmp (t := 38) m_X6_isKind dX6_isKind_31 (by decide) (fun q7 => ?_) (fun q7 => ?_)
          · have q7 := c_gt q7
            refine e_iconst (v := 0) m_X6_isKind dX6_isKind_38 (by decide) ?_
            rw [show exB x = 0 by unfold exB exA exC; rw [if_pos q1, if_neg q2, if_neg q5, if_neg q6, if_pos q7]]
            exact e_reti m_X6_isKind dX6_isKind_39 (Or.inr ⟨rfl, by decide⟩)
          · have q7 := c_gt' q7
            refine e_iconst (v := 1) m_X6_isKind dX6_isKind_34 (by decide) ?_
            refine e_goto (t := 39) m_X6_isKind dX6_isKind_35 (by decide) ?_
            rw [show exB x = 1 by unfold exB exA exC; rw [if_pos q1, if_neg q2, if_neg q5, if_neg q6, if_neg q7]]
            exact e_reti m_X6_isKind dX6_isKind_39 (Or.inr ⟨rfl, by decide⟩)
  · have q1 := c_lt' q1
    refine e_iload_n m_X6_isKind dX6_isKind_5 rfl rfl ?_
    refine e_iconst (v := 5) m_X6_isKind dX6_isKind_6 (by decide) ?_
    refine e_icmp (t := 34) m_X6_isKind dX6_isKind_7 (by decide) (fun q8 => ?_) (fun q8 => ?_)
    · have q8 := c_le q8
      refine e_iconst (v := 1) m_X6_isKind dX6_isKind_34 (by decide) ?_
      refine e_goto (t := 39) m_X6_isKind dX6_isKind_35 (by decide) ?_
      rw [show exB x = 1 by unfold exB exA exC; rw [if_neg q1, if_pos q8]]
      exact e_reti m_X6_isKind dX6_isKind_39 (Or.inr ⟨rfl, by decide⟩)
    · have q8 := c_le' q8
      refine e_iload_n m_X6_isKind dX6_isKind_10 rfl rfl ?_
      refine e_bipush (v := 10) m_X6_isKind dX6_isKind_11 (by decide) ?_
      refine e_icmp (t := 22) m_X6_isKind dX6_isKind_13 (by decide) (fun q9 => ?_) (fun q9 => ?_)
      · have q9 := c_lt q9
        refine e_iload_n m_X6_isKind dX6_isKind_22 rfl rfl ?_
        refine e_bipush (v := 40) m_X6_isKind dX6_isKind_23 (by decide) ?_
        refine e_icmp (t := 38) m_X6_isKind dX6_isKind_25 (by decide) (fun q10 => ?_) (fun q10 => ?_)
        · have q10 := c_lt q10
          refine e_iconst (v := 0) m_X6_isKind dX6_isKind_38 (by decide) ?_
          rw [show exB x = 0 by unfold exB exA exC; rw [if_neg q1, if_neg q8, if_pos q9, if_pos q10]]
          exact e_reti m_X6_isKind dX6_isKind_39 (Or.inr ⟨rfl, by decide⟩)
        · have q10 := c_lt' q10
          refine e_iload_n m_X6_isKind dX6_isKind_28 rfl rfl ?_
          refine e_bipush (v := 87) m_X6_isKind dX6_isKind_29 (by decide) ?_
          refine e_icmp (t := 38) m_X6_isKind dX6_isKind_31 (by decide) (fun q11 => ?_) (fun q11 => ?_)
          · have q11 := c_gt q11
            refine e_iconst (v := 0) m_X6_isKind dX6_isKind_38 (by decide) ?_
            rw [show exB x = 0 by unfold exB exA exC; rw [if_neg q1, if_neg q8, if_pos q9, if_neg q10, if_pos q11]]
            exact e_reti m_X6_isKind dX6_isKind_39 (Or.inr ⟨rfl, by decide⟩)
          · have q11 := c_gt' q11
            refine e_iconst (v := 1) m_X6_isKind dX6_isKind_34 (by decide) ?_
            refine e_goto (t := 39) m_X6_isKind dX6_isKind_35 (by decide) ?_
            rw [show exB x = 1 by unfold exB exA exC; rw [if_neg q1, if_neg q8, if_pos q9, if_neg q10, if_neg q11]]
            exact e_reti m_X6_isKind dX6_isKind_39 (Or.inr ⟨rfl, by decide⟩)
      · have q9 := c_lt' q9
        refine e_iload_n m_X6_isKind dX6_isKind_16 rfl rfl ?_
        refine e_bipush (v := 34) m_X6_isKind dX6_isKind_17 (by decide) ?_
        refine e_icmp (t := 34) m_X6_isKind dX6_isKind_19 (by decide) (fun q12 => ?_) (fun q12 => ?_)
        · have q12 := c_le q12
          refine e_iconst (v := 1) m_X6_isKind dX6_isKind_34 (by decide) ?_
          refine e_goto (t := 39) m_X6_isKind dX6_isKind_35 (by decide) ?_
          rw [show exB x = 1 by unfold exB exA exC; rw [if_neg q1, if_neg q8, if_neg q9, if_pos q12]]
          exact e_reti m_X6_isKind dX6_isKind_39 (Or.inr ⟨rfl, by decide⟩)
        · have q12 := c_le' q12
          refine e_iload_n m_X6_isKind dX6_isKind_22 rfl rfl ?_
          refine e_bipush (v := 40) m_X6_isKind dX6_isKind_23 (by decide) ?_
          refine e_icmp (t := 38) m_X6_isKind dX6_isKind_25 (by decide) (fun q13 => ?_) (fun q13 => ?_)
          · have q13 := c_lt q13
            refine e_iconst (v := 0) m_X6_isKind dX6_isKind_38 (by decide) ?_
            rw [show exB x = 0 by unfold exB exA exC; rw [if_neg q1, if_neg q8, if_neg q9, if_neg q12, if_pos q13]]
            exact e_reti m_X6_isKind dX6_isKind_39 (Or.inr ⟨rfl, by decide⟩)
          · have q13 := c_lt' q13
            refine e_iload_n m_X6_isKind dX6_isKind_28 rfl rfl ?_
            refine e_bipush (v := 87) m_X6_isKind dX6_isKind_29 (by decide) ?_
            refine e_icmp (t := 38) m_X6_isKind dX6_isKind_31 (by decide) (fun q14 => ?_) (fun q14 => ?_)
            · have q14 := c_gt q14
              refine e_iconst (v := 0) m_X6_isKind dX6_isKind_38 (by decide) ?_
              rw [show exB x = 0 by unfold exB exA exC; rw [if_neg q1, if_neg q8, if_neg q9, if_neg q12, if_neg q13, if_pos q14]]
              exact e_reti m_X6_isKind dX6_isKind_39 (Or.inr ⟨rfl, by decide⟩)
            · have q14 := c_gt' q14
              refine e_iconst (v := 1) m_X6_isKind dX6_isKind_34 (by decide) ?_
              refine e_goto (t := 39) m_X6_isKind dX6_isKind_35 (by decide) ?_
              rw [show exB x = 1 by unfold exB exA exC; rw [if_neg q1, if_neg q8, if_neg q9, if_neg q12, if_neg q13, if_neg q14]]
              exact e_reti m_X6_isKind dX6_isKind_39 (Or.inr ⟨rfl, by decide⟩)
theorem lk_find2 {w : Value} {i j : Nat} (hj : j ≠ i) (hj2 : j + 1 ≠ i) : ∀ ls : mm_L, mm_lk ls j = some w → mm_lk (ls.filter (fun q => !(q.1 == i) && !(q.1 + 1 == i && q.2.category == 2))) j = some w := by
  intro ls
  induction ls with
  | nil => intro h; exact h
  | cons q r ih =>
    intro h
    by_cases hq : q.1 = j
    · have h2 : q.2 = w := by simpa [mm_lk, hq] using h
      have hk : (!(q.1 == i) && !(q.1 + 1 == i && q.2.category == 2)) = true := by
        rw [hq]; simp [hj, hj2]
      rw [List.filter_cons, if_pos hk]
      simp [mm_lk, hq, h2]
    · have h2 : mm_lk r j = some w := by simpa [mm_lk, hq] using h
      rw [List.filter_cons]
      split
      · have := ih h2
        simpa [mm_lk, hq] using this
      · exact ih h2
theorem lk_mis2 {ls : mm_L} {i j : Nat} {v w : Value} (hj : j ≠ i) (hj2 : j + 1 ≠ i) (h : mm_lk ls j = some w) : mm_lk (mm_s1 ls i v) j = some w := by
  have := lk_find2 hj hj2 ls h
  have hij : i ≠ j := fun q => hj q.symm
  simpa [mm_lk, mm_s1, hij] using this
def sh : Nat → Int32
  | 0 => -8
  | n + 1 => nI (8 * n)
def kk : Nat → Int32
  | 0 => -1
  | n + 1 => nI n
theorem sh_dn : ∀ n, n < 8 → sh (n + 1) + Int32.ofInt (-8) = sh n := by decide +kernel
theorem sh_nn : ∀ n, n < 8 → mm_cond .lt (sh (n + 1)) 0 = false := by decide +kernel
theorem kk_dn : ∀ n, n < 8 → kk (n + 1) + Int32.ofInt (-1) = kk n := by decide +kernel
theorem kk_nn : ∀ n, n < 8 → mm_cond .lt (kk (n + 1)) 0 = false := by decide +kernel
def bC (w : Int64) (s : Int32) : Int32 := (w.toUInt64 >>> (s.toInt64.toUInt64 &&& Int64.toUInt64 63)).toInt64.toInt32 &&& 255
def bR (w : Int64) (k : Int32) : Int32 := ((w >>> ((8 * k).toInt64 &&& 63)) &&& 255).toInt32
theorem sh_s : ∀ n, n < 8 → (((sh (n + 1)).toInt64.toUInt64 &&& Int64.toUInt64 63).toBitVec % 64).toNat = 8 * n := by decide +kernel
theorem kk_s : ∀ n, n < 8 → (((8 * kk (n + 1)).toInt64 &&& 63).toBitVec.smod 64).toNat = 8 * n := by decide +kernel
theorem m255 : ∀ i, i < 64 → (255 : BitVec 64).getLsbD i = decide (i < 8) := by decide +kernel
theorem m255' : ∀ i, i < 32 → (255 : BitVec 32).getLsbD i = decide (i < 8) := by decide +kernel
theorem bRC (w : Int64) (n : Nat) (h : n < 8) : bR w (kk (n + 1)) = bC w (sh (n + 1)) := by
  unfold bR bC
  apply Int32.toBitVec_inj.mp
  have e1 := sh_s n h
  have e2 := kk_s n h
  generalize ((sh (n + 1)).toInt64.toUInt64 &&& Int64.toUInt64 63) = a at e1 ⊢
  generalize ((8 * kk (n + 1)).toInt64 &&& 63) = b at e2 ⊢
  rw [Int64.toBitVec_toInt32, Int32.toBitVec_and, Int64.toBitVec_toInt32, BitVec.signExtend_eq_setWidth_of_le _ (by decide), BitVec.signExtend_eq_setWidth_of_le _ (by decide)]
  apply BitVec.eq_of_getLsbD_eq
  intro i hi
  rw [BitVec.getLsbD_setWidth, BitVec.getLsbD_and, BitVec.getLsbD_setWidth]
  rw [show ((w >>> b) &&& 255).toBitVec = (w.toBitVec.sshiftRight' (b.toBitVec.smod 64)) &&& 255 from rfl, BitVec.getLsbD_and, BitVec.getLsbD_sshiftRight', e2, m255 i (by omega)]
  rw [show ((w.toUInt64 >>> a).toInt64).toBitVec = w.toBitVec >>> (a.toBitVec % 64) from rfl, BitVec.ushiftRight_eq', e1, BitVec.getLsbD_ushiftRight]
  rw [show (255 : Int32).toBitVec = (255 : BitVec 32) from rfl, m255' i hi]
  by_cases h8 : i < 8
  · simp [h8, hi, show ¬ 64 ≤ i by omega, show 8 * n + i < 64 by omega]
  · simp [h8]
def sc (w : Int64) : Nat → Nat → Option Nat
  | 0, m => some m
  | n + 1, m => if bC w (sh (n + 1)) = 0 then sc w n m else if exB (bC w (sh (n + 1))) = 0 then none else sc w n (m + 1)
theorem sc_le (w : Int64) : ∀ n m r, sc w n m = some r → r ≤ m + n := by
  intro n
  induction n with
  | zero => intro m r h; rw [sc] at h; cases h; exact Nat.le_refl _
  | succ n ih =>
    intro m r h
    rw [sc] at h
    split at h
    · have := ih _ _ h; omega
    · split at h
      · cases h
      · have := ih _ _ h; omega
theorem t_byteOf {xs : Nat → Int32} {L d : Nat} {h : mm_H} {w : Int64} {s : Int32} : Rn xs L d 8 [.long w, .int s] h (.inl (some (.int (bC w s))), h, 0, 0) := by
  unfold Rn
  refine e_lload_n m_X5_byteOf dX5_byteOf_0 rfl rfl ?_
  refine e_iload_n m_X5_byteOf dX5_byteOf_1 rfl rfl ?_
  refine e_lushr m_X5_byteOf dX5_byteOf_2 ?_
  refine e_l2i m_X5_byteOf dX5_byteOf_3 ?_
  refine e_sipush (v := 255) m_X5_byteOf dX5_byteOf_4 (by decide) ?_
  refine e_iand m_X5_byteOf dX5_byteOf_7 ?_
  exact e_reti m_X5_byteOf dX5_byteOf_8 (Or.inl rfl)
theorem t_scanN {xs : Nat → Int32} {L d : Nat} {h : mm_H} {w : Int64} (hd : 2 ≤ d) : ∀ n, n ≤ 8 → ∀ (m : Nat) (ls : mm_L) (hl0 : mm_lk ls 0 = some (.ref 0)) (hl1 : mm_lk ls 1 = some (.long w)) (hl3 : mm_lk ls 3 = some (.int (nI m))) (hl4 : mm_lk ls 4 = some (.int (sh n))), sc w n m = none → Ev xs L d 7 6 ls [] h 0 0 (.inl (some (.int 0)), h, 0, 0) := by
  intro n
  induction n with
  | zero => intro _ m ls _ _ _ _ hs; cases hs
  | succ n ih =>
    intro hn m ls hl0 hl1 hl3 hl4 hs
    rw [sc] at hs
    refine e_iload m_X5_addAll dX5_addAll_6 hl4 ?_
    refine e_ifF (t := 43) m_X5_addAll dX5_addAll_8 (by decide) (sh_nn n (by omega)) ?_
    refine e_lload_n m_X5_addAll dX5_addAll_11 rfl hl1 ?_
    refine e_iload m_X5_addAll dX5_addAll_12 hl4 ?_
    refine e_cs (as := [.long w, .int (sh (n + 1))]) m_X5_addAll dX5_addAll_14 c_RX5_36 (by decide) rfl rfl (Nat.le_of_ble_eq_true rfl) (Nat.le_of_ble_eq_true rfl) hd t_byteOf ?_
    refine e_istore (ls' := mm_s1 ls 5 (.int (bC w (sh (n + 1))))) m_X5_addAll dX5_addAll_17 (by decide) rfl ?_
    refine e_iload m_X5_addAll dX5_addAll_19 lk_hit ?_
    by_cases hb : bC w (sh (n + 1)) = 0
    · rw [if_pos hb] at hs
      refine e_ifT (t := 37) m_X5_addAll dX5_addAll_21 (by decide) (decide_eq_true hb) ?_
      refine e_iinc m_X5_addAll dX5_addAll_37 (by decide) (lk_mis (by decide) rfl hl4) (sh_dn n (by omega)) rfl ?_
      refine e_goto (t := 6) m_X5_addAll dX5_addAll_40 (by decide) ?_
      exact ih (by omega) m _ (lk_mis (by decide) rfl (lk_mis (by decide) rfl hl0)) (lk_mis2 (by decide) (by decide) (lk_mis2 (by decide) (by decide) hl1)) (lk_mis (by decide) rfl (lk_mis (by decide) rfl hl3)) lk_hit hs
    · rw [if_neg hb] at hs
      refine e_ifF (t := 37) m_X5_addAll dX5_addAll_21 (by decide) (decide_eq_false hb) ?_
      refine e_iload m_X5_addAll dX5_addAll_24 lk_hit ?_
      refine e_cs (as := [_]) m_X5_addAll dX5_addAll_26 c_RX5_23 (by decide) rfl rfl (Nat.le_of_ble_eq_true rfl) (Nat.le_of_ble_eq_true rfl) hd t_exists ?_
      by_cases hx : exB (bC w (sh (n + 1))) = 0
      · refine e_ifF (t := 34) m_X5_addAll dX5_addAll_29 (by decide) (decide_eq_false (fun q => q hx)) ?_
        refine e_iconst (v := 0) m_X5_addAll dX5_addAll_32 (by decide) ?_
        exact e_reti m_X5_addAll dX5_addAll_33 (Or.inr ⟨rfl, by decide⟩)
      · rw [if_neg hx] at hs
        refine e_ifT (t := 34) m_X5_addAll dX5_addAll_29 (by decide) (decide_eq_true hx) ?_
        refine e_iinc m_X5_addAll dX5_addAll_34 (by decide) (lk_mis (by decide) rfl hl3) (nI_succ m).symm rfl ?_
        refine e_iinc m_X5_addAll dX5_addAll_37 (by decide) (lk_mis (by decide) rfl (lk_mis (by decide) rfl hl4)) (sh_dn n (by omega)) rfl ?_
        refine e_goto (t := 6) m_X5_addAll dX5_addAll_40 (by decide) ?_
        exact ih (by omega) (m + 1) _ (lk_mis (by decide) rfl (lk_mis (by decide) rfl (lk_mis (by decide) rfl hl0))) (lk_mis2 (by decide) (by decide) (lk_mis2 (by decide) (by decide) (lk_mis2 (by decide) (by decide) hl1))) (lk_mis (by decide) rfl lk_hit) lk_hit hs
theorem t_scanS {xs : Nat → Int32} {L d : Nat} {h : mm_H} {w : Int64} (hd : 2 ≤ d) : ∀ n, n ≤ 8 → ∀ (m r : Nat) (ls : mm_L) (hl0 : mm_lk ls 0 = some (.ref 0)) (hl1 : mm_lk ls 1 = some (.long w)) (hl3 : mm_lk ls 3 = some (.int (nI m))) (hl4 : mm_lk ls 4 = some (.int (sh n))), sc w n m = some r → ∃ ls' : mm_L, mm_lk ls' 0 = some (.ref 0) ∧ mm_lk ls' 1 = some (.long w) ∧ mm_lk ls' 3 = some (.int (nI r)) ∧ ∀ o, Ev xs L d 7 43 ls' [] h 0 0 o → Ev xs L d 7 6 ls [] h 0 0 o := by
  intro n
  induction n with
  | zero =>
    intro _ m r ls hl0 hl1 hl3 hl4 hs
    cases hs
    refine ⟨ls, hl0, hl1, hl3, fun o K => ?_⟩
    refine e_iload m_X5_addAll dX5_addAll_6 hl4 ?_
    exact e_ifT (t := 43) m_X5_addAll dX5_addAll_8 (by decide) (by decide) K
  | succ n ih =>
    intro hn m r ls hl0 hl1 hl3 hl4 hs
    rw [sc] at hs
    by_cases hb : bC w (sh (n + 1)) = 0
    · rw [if_pos hb] at hs
      obtain ⟨ls', g0, g1, g3, K⟩ := ih (by omega) m r (mm_s1 (mm_s1 ls 5 (.int (bC w (sh (n + 1))))) 4 (.int (sh n))) (lk_mis (by decide) rfl (lk_mis (by decide) rfl hl0)) (lk_mis2 (by decide) (by decide) (lk_mis2 (by decide) (by decide) hl1)) (lk_mis (by decide) rfl (lk_mis (by decide) rfl hl3)) lk_hit hs
      refine ⟨ls', g0, g1, g3, fun o k => ?_⟩
      refine e_iload m_X5_addAll dX5_addAll_6 hl4 ?_
      refine e_ifF (t := 43) m_X5_addAll dX5_addAll_8 (by decide) (sh_nn n (by omega)) ?_
      refine e_lload_n m_X5_addAll dX5_addAll_11 rfl hl1 ?_
      refine e_iload m_X5_addAll dX5_addAll_12 hl4 ?_
      refine e_cs (as := [.long w, .int (sh (n + 1))]) m_X5_addAll dX5_addAll_14 c_RX5_36 (by decide) rfl rfl (Nat.le_of_ble_eq_true rfl) (Nat.le_of_ble_eq_true rfl) hd t_byteOf ?_
      refine e_istore (ls' := mm_s1 ls 5 (.int (bC w (sh (n + 1))))) m_X5_addAll dX5_addAll_17 (by decide) rfl ?_
      refine e_iload m_X5_addAll dX5_addAll_19 lk_hit ?_
    
      refine e_ifT (t := 37) m_X5_addAll dX5_addAll_21 (by decide) (decide_eq_true hb) ?_
      refine e_iinc m_X5_addAll dX5_addAll_37 (by decide) (lk_mis (by decide) rfl hl4) (sh_dn n (by omega)) rfl ?_
      refine e_goto (t := 6) m_X5_addAll dX5_addAll_40 (by decide) ?_
      exact K o k
    · rw [if_neg hb] at hs
      by_cases hx : exB (bC w (sh (n + 1))) = 0
      · rw [if_pos hx] at hs; cases hs
      · rw [if_neg hx] at hs
        obtain ⟨ls', g0, g1, g3, K⟩ := ih (by omega) (m + 1) r (mm_s1 (mm_s1 (mm_s1 ls 5 (.int (bC w (sh (n + 1))))) 3 (.int (nI (m + 1)))) 4 (.int (sh n))) (lk_mis (by decide) rfl (lk_mis (by decide) rfl (lk_mis (by decide) rfl hl0))) (lk_mis2 (by decide) (by decide) (lk_mis2 (by decide) (by decide) (lk_mis2 (by decide) (by decide) hl1))) (lk_mis (by decide) rfl lk_hit) lk_hit hs
        refine ⟨ls', g0, g1, g3, fun o k => ?_⟩
        refine e_iload m_X5_addAll dX5_addAll_6 hl4 ?_
        refine e_ifF (t := 43) m_X5_addAll dX5_addAll_8 (by decide) (sh_nn n (by omega)) ?_
        refine e_lload_n m_X5_addAll dX5_addAll_11 rfl hl1 ?_
        refine e_iload m_X5_addAll dX5_addAll_12 hl4 ?_
        refine e_cs (as := [.long w, .int (sh (n + 1))]) m_X5_addAll dX5_addAll_14 c_RX5_36 (by decide) rfl rfl (Nat.le_of_ble_eq_true rfl) (Nat.le_of_ble_eq_true rfl) hd t_byteOf ?_
        refine e_istore (ls' := mm_s1 ls 5 (.int (bC w (sh (n + 1))))) m_X5_addAll dX5_addAll_17 (by decide) rfl ?_
        refine e_iload m_X5_addAll dX5_addAll_19 lk_hit ?_
        refine e_ifF (t := 37) m_X5_addAll dX5_addAll_21 (by decide) (decide_eq_false hb) ?_
        refine e_iload m_X5_addAll dX5_addAll_24 lk_hit ?_
        refine e_cs (as := [_]) m_X5_addAll dX5_addAll_26 c_RX5_23 (by decide) rfl rfl (Nat.le_of_ble_eq_true rfl) (Nat.le_of_ble_eq_true rfl) hd t_exists ?_
        refine e_ifT (t := 34) m_X5_addAll dX5_addAll_29 (by decide) (decide_eq_true hx) ?_
        refine e_iinc m_X5_addAll dX5_addAll_34 (by decide) (lk_mis (by decide) rfl hl3) (nI_succ m).symm rfl ?_
        refine e_iinc m_X5_addAll dX5_addAll_37 (by decide) (lk_mis (by decide) rfl (lk_mis (by decide) rfl hl4)) (sh_dn n (by omega)) rfl ?_
        refine e_goto (t := 6) m_X5_addAll dX5_addAll_40 (by decide) ?_
        exact K o k
theorem u_scanN {xs : Nat → Int32} {L d : Nat} {h : mm_H} {w : Int64} (hd : 2 ≤ d) : ∀ n, n ≤ 8 → ∀ (m : Nat) (ls : mm_L) (hl0 : mm_lk ls 0 = some (.ref 10)) (hl1 : mm_lk ls 1 = some (.long w)) (hl3 : mm_lk ls 3 = some (.int (nI m))) (hl4 : mm_lk ls 4 = some (.int (kk n))), sc w n m = none → Ev xs L d 127 11 ls [] h 0 0 (.inl (some (.int 0)), h, 0, 0) := by
  intro n
  induction n with
  | zero => intro _ m ls _ _ _ _ hs; cases hs
  | succ n ih =>
    intro hn m ls hl0 hl1 hl3 hl4 hs
    rw [sc] at hs
    refine e_iload m_X6_addAll dX6_addAll_11 hl4 ?_
    refine e_ifF (t := 64) m_X6_addAll dX6_addAll_13 (by decide) (kk_nn n (by omega)) ?_
    refine e_lload_n m_X6_addAll dX6_addAll_16 rfl hl1 ?_
    refine e_bipush (v := 8) m_X6_addAll dX6_addAll_17 (by decide) ?_
    refine e_iload m_X6_addAll dX6_addAll_19 hl4 ?_
    refine e_imul m_X6_addAll dX6_addAll_21 ?_
    refine e_lshr m_X6_addAll dX6_addAll_22 ?_
    refine z_ldc2 m_X6_addAll.z dX6_addAll_23 j_RX6_75 ?_
    refine e_land m_X6_addAll dX6_addAll_26 ?_
    refine e_l2i m_X6_addAll dX6_addAll_27 ?_
    refine e_rw (st' := [.int (bC w (sh (n + 1)))]) (by rw [← bRC w n (by omega)]; rfl) ?_
    refine e_istore (ls' := mm_s1 ls 5 (.int (bC w (sh (n + 1))))) m_X6_addAll dX6_addAll_28 (by decide) rfl ?_
    refine e_iload m_X6_addAll dX6_addAll_30 lk_hit ?_
    by_cases hb : bC w (sh (n + 1)) = 0
    · rw [if_pos hb] at hs
      refine e_ifT (t := 45) m_X6_addAll dX6_addAll_32 (by decide) (decide_eq_true hb) ?_
      refine e_iload_n m_X6_addAll dX6_addAll_45 rfl (lk_mis (by decide) rfl hl3) ?_
      refine e_iload m_X6_addAll dX6_addAll_46 lk_hit ?_
      refine e_ifF (t := 55) m_X6_addAll dX6_addAll_48 (by decide) (decide_eq_false (fun q => q hb)) ?_
      refine e_iconst (v := 0) m_X6_addAll dX6_addAll_51 (by decide) ?_
      refine e_goto (t := 56) m_X6_addAll dX6_addAll_52 (by decide) ?_
      refine e_iadd m_X6_addAll dX6_addAll_56 ?_
      refine e_rw (st' := [.int (nI m)]) (by rw [Int32.add_zero]) ?_
      refine e_istore_n m_X6_addAll dX6_addAll_57 rfl (by decide) rfl ?_
      refine e_iinc m_X6_addAll dX6_addAll_58 (by decide) (lk_mis (by decide) rfl (lk_mis (by decide) rfl hl4)) (kk_dn n (by omega)) rfl ?_
      refine e_goto (t := 11) m_X6_addAll dX6_addAll_61 (by decide) ?_
      exact ih (by omega) m _ (lk_mis (by decide) rfl (lk_mis (by decide) rfl (lk_mis (by decide) rfl hl0))) (lk_mis2 (by decide) (by decide) (lk_mis2 (by decide) (by decide) (lk_mis2 (by decide) (by decide) hl1))) (lk_mis (by decide) rfl lk_hit) lk_hit hs
    · rw [if_neg hb] at hs
      by_cases hx : exB (bC w (sh (n + 1))) = 0
      · refine e_ifF (t := 45) m_X6_addAll dX6_addAll_32 (by decide) (decide_eq_false hb) ?_
        refine e_iload m_X6_addAll dX6_addAll_35 lk_hit ?_
        refine e_cs (as := [_]) m_X6_addAll dX6_addAll_37 c_RX6_68 (by decide) rfl rfl (Nat.le_of_ble_eq_true rfl) (Nat.le_of_ble_eq_true rfl) hd t_isKind ?_
        refine e_ifF (t := 45) m_X6_addAll dX6_addAll_40 (by decide) (decide_eq_false (fun q => q hx)) ?_
        refine e_iconst (v := 0) m_X6_addAll dX6_addAll_43 (by decide) ?_
        exact e_reti m_X6_addAll dX6_addAll_44 (Or.inr ⟨rfl, by decide⟩)
      · rw [if_neg hx] at hs
        refine e_ifF (t := 45) m_X6_addAll dX6_addAll_32 (by decide) (decide_eq_false hb) ?_
        refine e_iload m_X6_addAll dX6_addAll_35 lk_hit ?_
        refine e_cs (as := [_]) m_X6_addAll dX6_addAll_37 c_RX6_68 (by decide) rfl rfl (Nat.le_of_ble_eq_true rfl) (Nat.le_of_ble_eq_true rfl) hd t_isKind ?_
        refine e_ifT (t := 45) m_X6_addAll dX6_addAll_40 (by decide) (decide_eq_true hx) ?_
        refine e_iload_n m_X6_addAll dX6_addAll_45 rfl (lk_mis (by decide) rfl hl3) ?_
        refine e_iload m_X6_addAll dX6_addAll_46 lk_hit ?_
        refine e_ifT (t := 55) m_X6_addAll dX6_addAll_48 (by decide) (decide_eq_true hb) ?_
        refine e_iconst (v := 1) m_X6_addAll dX6_addAll_55 (by decide) ?_
        refine e_iadd m_X6_addAll dX6_addAll_56 ?_
        refine e_rw (st' := [.int (nI (m + 1))]) (by rw [nI_succ] <;> rfl) ?_
        refine e_istore_n m_X6_addAll dX6_addAll_57 rfl (by decide) rfl ?_
        refine e_iinc m_X6_addAll dX6_addAll_58 (by decide) (lk_mis (by decide) rfl (lk_mis (by decide) rfl hl4)) (kk_dn n (by omega)) rfl ?_
        refine e_goto (t := 11) m_X6_addAll dX6_addAll_61 (by decide) ?_
        exact ih (by omega) (m + 1) _ (lk_mis (by decide) rfl (lk_mis (by decide) rfl (lk_mis (by decide) rfl hl0))) (lk_mis2 (by decide) (by decide) (lk_mis2 (by decide) (by decide) (lk_mis2 (by decide) (by decide) hl1))) (lk_mis (by decide) rfl lk_hit) lk_hit hs
theorem u_scanS {xs : Nat → Int32} {L d : Nat} {h : mm_H} {w : Int64} (hd : 2 ≤ d) : ∀ n, n ≤ 8 → ∀ (m r : Nat) (ls : mm_L) (hl0 : mm_lk ls 0 = some (.ref 10)) (hl1 : mm_lk ls 1 = some (.long w)) (hl3 : mm_lk ls 3 = some (.int (nI m))) (hl4 : mm_lk ls 4 = some (.int (kk n))), sc w n m = some r → ∃ ls' : mm_L, mm_lk ls' 0 = some (.ref 10) ∧ mm_lk ls' 1 = some (.long w) ∧ mm_lk ls' 3 = some (.int (nI r)) ∧ ∀ o, Ev xs L d 127 64 ls' [] h 0 0 o → Ev xs L d 127 11 ls [] h 0 0 o := by
  intro n
  induction n with
  | zero =>
    intro _ m r ls hl0 hl1 hl3 hl4 hs
    cases hs
    refine ⟨ls, hl0, hl1, hl3, fun o K => ?_⟩
    refine e_iload m_X6_addAll dX6_addAll_11 hl4 ?_
    exact e_ifT (t := 64) m_X6_addAll dX6_addAll_13 (by decide) (by decide) K
  | succ n ih =>
    intro hn m r ls hl0 hl1 hl3 hl4 hs
    rw [sc] at hs
    by_cases hb : bC w (sh (n + 1)) = 0
    · rw [if_pos hb] at hs
      obtain ⟨ls', g0, g1, g3, K⟩ := ih (by omega) m r (mm_s1 (mm_s1 (mm_s1 ls 5 (.int (bC w (sh (n + 1))))) 3 (.int (nI m))) 4 (.int (kk n))) (lk_mis (by decide) rfl (lk_mis (by decide) rfl (lk_mis (by decide) rfl hl0))) (lk_mis2 (by decide) (by decide) (lk_mis2 (by decide) (by decide) (lk_mis2 (by decide) (by decide) hl1))) (lk_mis (by decide) rfl lk_hit) lk_hit hs
      refine ⟨ls', g0, g1, g3, fun o k => ?_⟩
      refine e_iload m_X6_addAll dX6_addAll_11 hl4 ?_
      refine e_ifF (t := 64) m_X6_addAll dX6_addAll_13 (by decide) (kk_nn n (by omega)) ?_
      refine e_lload_n m_X6_addAll dX6_addAll_16 rfl hl1 ?_
      refine e_bipush (v := 8) m_X6_addAll dX6_addAll_17 (by decide) ?_
      refine e_iload m_X6_addAll dX6_addAll_19 hl4 ?_
      refine e_imul m_X6_addAll dX6_addAll_21 ?_
      refine e_lshr m_X6_addAll dX6_addAll_22 ?_
      refine z_ldc2 m_X6_addAll.z dX6_addAll_23 j_RX6_75 ?_
      refine e_land m_X6_addAll dX6_addAll_26 ?_
      refine e_l2i m_X6_addAll dX6_addAll_27 ?_
      refine e_rw (st' := [.int (bC w (sh (n + 1)))]) (by rw [← bRC w n (by omega)]; rfl) ?_
      refine e_istore (ls' := mm_s1 ls 5 (.int (bC w (sh (n + 1))))) m_X6_addAll dX6_addAll_28 (by decide) rfl ?_
      refine e_iload m_X6_addAll dX6_addAll_30 lk_hit ?_
      refine e_ifT (t := 45) m_X6_addAll dX6_addAll_32 (by decide) (decide_eq_true hb) ?_
      refine e_iload_n m_X6_addAll dX6_addAll_45 rfl (lk_mis (by decide) rfl hl3) ?_
      refine e_iload m_X6_addAll dX6_addAll_46 lk_hit ?_
      refine e_ifF (t := 55) m_X6_addAll dX6_addAll_48 (by decide) (decide_eq_false (fun q => q hb)) ?_
      refine e_iconst (v := 0) m_X6_addAll dX6_addAll_51 (by decide) ?_
      refine e_goto (t := 56) m_X6_addAll dX6_addAll_52 (by decide) ?_
      refine e_iadd m_X6_addAll dX6_addAll_56 ?_
      refine e_rw (st' := [.int (nI m)]) (by rw [Int32.add_zero]) ?_
      refine e_istore_n m_X6_addAll dX6_addAll_57 rfl (by decide) rfl ?_
      refine e_iinc m_X6_addAll dX6_addAll_58 (by decide) (lk_mis (by decide) rfl (lk_mis (by decide) rfl hl4)) (kk_dn n (by omega)) rfl ?_
      refine e_goto (t := 11) m_X6_addAll dX6_addAll_61 (by decide) ?_
      exact K o k
    · rw [if_neg hb] at hs
      by_cases hx : exB (bC w (sh (n + 1))) = 0
      · rw [if_pos hx] at hs; cases hs
      · rw [if_neg hx] at hs
        obtain ⟨ls', g0, g1, g3, K⟩ := ih (by omega) (m + 1) r (mm_s1 (mm_s1 (mm_s1 ls 5 (.int (bC w (sh (n + 1))))) 3 (.int (nI (m + 1)))) 4 (.int (kk n))) (lk_mis (by decide) rfl (lk_mis (by decide) rfl (lk_mis (by decide) rfl hl0))) (lk_mis2 (by decide) (by decide) (lk_mis2 (by decide) (by decide) (lk_mis2 (by decide) (by decide) hl1))) (lk_mis (by decide) rfl lk_hit) lk_hit hs
        refine ⟨ls', g0, g1, g3, fun o k => ?_⟩
        refine e_iload m_X6_addAll dX6_addAll_11 hl4 ?_
        refine e_ifF (t := 64) m_X6_addAll dX6_addAll_13 (by decide) (kk_nn n (by omega)) ?_
        refine e_lload_n m_X6_addAll dX6_addAll_16 rfl hl1 ?_
        refine e_bipush (v := 8) m_X6_addAll dX6_addAll_17 (by decide) ?_
        refine e_iload m_X6_addAll dX6_addAll_19 hl4 ?_
        refine e_imul m_X6_addAll dX6_addAll_21 ?_
        refine e_lshr m_X6_addAll dX6_addAll_22 ?_
        refine z_ldc2 m_X6_addAll.z dX6_addAll_23 j_RX6_75 ?_
        refine e_land m_X6_addAll dX6_addAll_26 ?_
        refine e_l2i m_X6_addAll dX6_addAll_27 ?_
        refine e_rw (st' := [.int (bC w (sh (n + 1)))]) (by rw [← bRC w n (by omega)]; rfl) ?_
        refine e_istore (ls' := mm_s1 ls 5 (.int (bC w (sh (n + 1))))) m_X6_addAll dX6_addAll_28 (by decide) rfl ?_
        refine e_iload m_X6_addAll dX6_addAll_30 lk_hit ?_
        refine e_ifF (t := 45) m_X6_addAll dX6_addAll_32 (by decide) (decide_eq_false hb) ?_
        refine e_iload m_X6_addAll dX6_addAll_35 lk_hit ?_
        refine e_cs (as := [_]) m_X6_addAll dX6_addAll_37 c_RX6_68 (by decide) rfl rfl (Nat.le_of_ble_eq_true rfl) (Nat.le_of_ble_eq_true rfl) hd t_isKind ?_
        refine e_ifT (t := 45) m_X6_addAll dX6_addAll_40 (by decide) (decide_eq_true hx) ?_
        refine e_iload_n m_X6_addAll dX6_addAll_45 rfl (lk_mis (by decide) rfl hl3) ?_
        refine e_iload m_X6_addAll dX6_addAll_46 lk_hit ?_
        refine e_ifT (t := 55) m_X6_addAll dX6_addAll_48 (by decide) (decide_eq_true hb) ?_
        refine e_iconst (v := 1) m_X6_addAll dX6_addAll_55 (by decide) ?_
        refine e_iadd m_X6_addAll dX6_addAll_56 ?_
        refine e_rw (st' := [.int (nI (m + 1))]) (by rw [nI_succ] <;> rfl) ?_
        refine e_istore_n m_X6_addAll dX6_addAll_57 rfl (by decide) rfl ?_
        refine e_iinc m_X6_addAll dX6_addAll_58 (by decide) (lk_mis (by decide) rfl (lk_mis (by decide) rfl hl4)) (kk_dn n (by omega)) rfl ?_
        refine e_goto (t := 11) m_X6_addAll dX6_addAll_61 (by decide) ?_
        exact K o k
