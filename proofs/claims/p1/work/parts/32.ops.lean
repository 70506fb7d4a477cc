/-! The calls on the first heap. -/
def mF (th ct md nd td at' dp wr rw : Int32) : List Value := [.int th, .int ct, .ref 11, .int md, .int nd, .ref 12, .ref 13, .ref 14, .ref 15, .ref 16, .ref 17, .ref 18, .ref 19, .ref 20, .int td, .ref 21, .ref 22, .ref 23, .int at', .int dp, .int wr, .int rw, .ref 24, .ref 25, .ref 26, .ref 27]
def qh (cnt : Int32) (kf : Nat → Int32) (us nb th ct md nd td at' dp wr rw : Int32) (kg fW fT fP fF fL fN gD gN gT : Nat → Int32) (t : mm_H) : mm_H := (.inr (3, [.ref 1, .ref 3]) : mm_E) :: .inr (1, [.ref 2, .int cnt]) :: .inl (1, 16384, .inl kf) :: .inr (2, [.ref 4, .ref 5, .ref 6, .ref 7, .ref 8, .ref 9, .int us, .int nb]) :: .inl (0, 1024, .inl z0) :: .inl (0, 1024, .inl z0) :: .inl (0, 1024, .inl z0) :: .inl (0, 1024, .inl z0) :: .inl (0, 1024, .inl z0) :: .inl (0, 1024, .inl z0) :: .inr (4, mF th ct md nd td at' dp wr rw) :: .inl (1, 16385, .inl kg) :: .inl (0, 65536, .inl fW) :: .inl (0, 65536, .inl fT) :: .inl (0, 65536, .inl fP) :: .inl (0, 65536, .inl fF) :: .inl (0, 65536, .inl fL) :: .inl (0, 65536, .inl fN) :: .inl (0, 65536, .inl z0) :: .inl (0, 65536, .inl z0) :: .inl (0, 65536, .inl z0) :: .inl (0, 4096, .inl gD) :: .inl (0, 4096, .inl gN) :: .inl (0, 4096, .inl gT) :: .inl (2, 64, .inl z0) :: .inl (2, 64, .inl z0) :: .inl (0, 64, .inl z0) :: .inl (2, 64, .inl z0) :: .inl (3, 1, .inr (.inl fun _ => 0)) :: t
section QG
variable {cnt us nb th ct md nd td at' dp wr rw : Int32} {kf kg fW fT fP fF fL fN gD gN gT : Nat → Int32} {t : mm_H}
theorem qg0 : (qh cnt kf us nb th ct md nd td at' dp wr rw kg fW fT fP fF fL fN gD gN gT t)[0]? = some (.inr (3, [.ref 1, .ref 3])) := rfl
theorem qg1 : (qh cnt kf us nb th ct md nd td at' dp wr rw kg fW fT fP fF fL fN gD gN gT t)[1]? = some (.inr (1, [.ref 2, .int cnt])) := rfl
theorem qg2 : (qh cnt kf us nb th ct md nd td at' dp wr rw kg fW fT fP fF fL fN gD gN gT t)[2]? = some (.inl (1, 16384, .inl kf)) := rfl
theorem qg3 : (qh cnt kf us nb th ct md nd td at' dp wr rw kg fW fT fP fF fL fN gD gN gT t)[3]? = some (.inr (2, [.ref 4, .ref 5, .ref 6, .ref 7, .ref 8, .ref 9, .int us, .int nb])) := rfl
theorem qg4 : (qh cnt kf us nb th ct md nd td at' dp wr rw kg fW fT fP fF fL fN gD gN gT t)[4]? = some (.inl (0, 1024, .inl z0)) := rfl
theorem qg5 : (qh cnt kf us nb th ct md nd td at' dp wr rw kg fW fT fP fF fL fN gD gN gT t)[5]? = some (.inl (0, 1024, .inl z0)) := rfl
theorem qg6 : (qh cnt kf us nb th ct md nd td at' dp wr rw kg fW fT fP fF fL fN gD gN gT t)[6]? = some (.inl (0, 1024, .inl z0)) := rfl
theorem qg7 : (qh cnt kf us nb th ct md nd td at' dp wr rw kg fW fT fP fF fL fN gD gN gT t)[7]? = some (.inl (0, 1024, .inl z0)) := rfl
theorem qg8 : (qh cnt kf us nb th ct md nd td at' dp wr rw kg fW fT fP fF fL fN gD gN gT t)[8]? = some (.inl (0, 1024, .inl z0)) := rfl
theorem qg9 : (qh cnt kf us nb th ct md nd td at' dp wr rw kg fW fT fP fF fL fN gD gN gT t)[9]? = some (.inl (0, 1024, .inl z0)) := rfl
theorem qg10 : (qh cnt kf us nb th ct md nd td at' dp wr rw kg fW fT fP fF fL fN gD gN gT t)[10]? = some (.inr (4, [.int th, .int ct, .ref 11, .int md, .int nd, .ref 12, .ref 13, .ref 14, .ref 15, .ref 16, .ref 17, .ref 18, .ref 19, .ref 20, .int td, .ref 21, .ref 22, .ref 23, .int at', .int dp, .int wr, .int rw, .ref 24, .ref 25, .ref 26, .ref 27])) := rfl
theorem qg11 : (qh cnt kf us nb th ct md nd td at' dp wr rw kg fW fT fP fF fL fN gD gN gT t)[11]? = some (.inl (1, 16385, .inl kg)) := rfl
theorem qg12 : (qh cnt kf us nb th ct md nd td at' dp wr rw kg fW fT fP fF fL fN gD gN gT t)[12]? = some (.inl (0, 65536, .inl fW)) := rfl
theorem qg13 : (qh cnt kf us nb th ct md nd td at' dp wr rw kg fW fT fP fF fL fN gD gN gT t)[13]? = some (.inl (0, 65536, .inl fT)) := rfl
theorem qg14 : (qh cnt kf us nb th ct md nd td at' dp wr rw kg fW fT fP fF fL fN gD gN gT t)[14]? = some (.inl (0, 65536, .inl fP)) := rfl
theorem qg15 : (qh cnt kf us nb th ct md nd td at' dp wr rw kg fW fT fP fF fL fN gD gN gT t)[15]? = some (.inl (0, 65536, .inl fF)) := rfl
theorem qg16 : (qh cnt kf us nb th ct md nd td at' dp wr rw kg fW fT fP fF fL fN gD gN gT t)[16]? = some (.inl (0, 65536, .inl fL)) := rfl
theorem qg17 : (qh cnt kf us nb th ct md nd td at' dp wr rw kg fW fT fP fF fL fN gD gN gT t)[17]? = some (.inl (0, 65536, .inl fN)) := rfl
theorem qg18 : (qh cnt kf us nb th ct md nd td at' dp wr rw kg fW fT fP fF fL fN gD gN gT t)[18]? = some (.inl (0, 65536, .inl z0)) := rfl
theorem qg19 : (qh cnt kf us nb th ct md nd td at' dp wr rw kg fW fT fP fF fL fN gD gN gT t)[19]? = some (.inl (0, 65536, .inl z0)) := rfl
theorem qg20 : (qh cnt kf us nb th ct md nd td at' dp wr rw kg fW fT fP fF fL fN gD gN gT t)[20]? = some (.inl (0, 65536, .inl z0)) := rfl
theorem qg21 : (qh cnt kf us nb th ct md nd td at' dp wr rw kg fW fT fP fF fL fN gD gN gT t)[21]? = some (.inl (0, 4096, .inl gD)) := rfl
theorem qg22 : (qh cnt kf us nb th ct md nd td at' dp wr rw kg fW fT fP fF fL fN gD gN gT t)[22]? = some (.inl (0, 4096, .inl gN)) := rfl
theorem qg23 : (qh cnt kf us nb th ct md nd td at' dp wr rw kg fW fT fP fF fL fN gD gN gT t)[23]? = some (.inl (0, 4096, .inl gT)) := rfl
theorem qg24 : (qh cnt kf us nb th ct md nd td at' dp wr rw kg fW fT fP fF fL fN gD gN gT t)[24]? = some (.inl (2, 64, .inl z0)) := rfl
theorem qg25 : (qh cnt kf us nb th ct md nd td at' dp wr rw kg fW fT fP fF fL fN gD gN gT t)[25]? = some (.inl (2, 64, .inl z0)) := rfl
theorem qg26 : (qh cnt kf us nb th ct md nd td at' dp wr rw kg fW fT fP fF fL fN gD gN gT t)[26]? = some (.inl (0, 64, .inl z0)) := rfl
theorem qg27 : (qh cnt kf us nb th ct md nd td at' dp wr rw kg fW fT fP fF fL fN gD gN gT t)[27]? = some (.inl (2, 64, .inl z0)) := rfl
theorem qg28 : (qh cnt kf us nb th ct md nd td at' dp wr rw kg fW fT fP fF fL fN gD gN gT t)[28]? = some (.inl (3, 1, .inr (.inl fun _ => 0))) := rfl
end QG
theorem hq0_qh : hq0 = qh 0 z0 0 0 0 0 0 0 0 0 0 0 0 z0 z0 z0 z0 z0 z0 z0 z0 z0 z0 [] := rfl
def exC (x : Int32) : Int32 := if x < 40 then 0 else if 87 < x then 0 else 1
def exA (x : Int32) : Int32 := if x < 10 then exC x else if x ≤ 34 then 1 else exC x
def exB (x : Int32) : Int32 := if x < 1 then exA x else if x ≤ 5 then 1 else exA x
theorem exC_01 (x : Int32) : exC x = 0 ∨ exC x = 1 := by
  unfold exC
  split
  · exact Or.inl rfl
  · split
    · exact Or.inl rfl
    · exact Or.inr rfl
theorem exA_01 (x : Int32) : exA x = 0 ∨ exA x = 1 := by
  unfold exA
  split
  · exact exC_01 x
  · split
    · exact Or.inr rfl
    · exact exC_01 x
theorem exB_01 (x : Int32) : exB x = 0 ∨ exB x = 1 := by
  unfold exB
  split
  · exact exA_01 x
  · split
    · exact Or.inr rfl
    · exact exA_01 x
theorem t_exists {xs : Nat → Int32} {L d : Nat} {h : mm_H} {x : Int32} : Rn xs L d 4 [.int x] h (.inl (some (.int (exB x))), h, 0, 0) := by
  unfold Rn
  refine e_iload_n m_X0_exists dX0_exists_0 rfl rfl ?_
  refine e_iconst (v := 1) m_X0_exists dX0_exists_1 (by decide) ?_
  refine e_icmp (t := 10) m_X0_exists dX0_exists_2 (by decide) (fun q1 => ?_) (fun q1 => ?_)
  · have q1 := c_lt q1
    refine e_iload_n m_X0_exists dX0_exists_10 rfl rfl ?_
    refine e_bipush (v := 10) m_X0_exists dX0_exists_11 (by decide) ?_
    refine e_icmp (t := 22) m_X0_exists dX0_exists_13 (by decide) (fun q2 => ?_) (fun q2 => ?_)
    · have q2 := c_lt q2
      refine e_iload_n m_X0_exists dX0_exists_22 rfl rfl ?_
      refine e_bipush (v := 40) m_X0_exists dX0_exists_23 (by decide) ?_
      refine e_icmp (t := 38) m_X0_exists dX0_exists_25 (by decide) (fun q3 => ?_) (fun q3 => ?_)
      · have q3 := c_lt q3
        refine e_iconst (v := 0) m_X0_exists dX0_exists_38 (by decide) ?_
        rw [show exB x = 0 by unfold exB exA exC; rw [if_pos q1, if_pos q2, if_pos q3]]
        exact e_reti m_X0_exists dX0_exists_39 (Or.inr ⟨rfl, by decide⟩)
      · have q3 := c_lt' q3
        refine e_iload_n m_X0_exists dX0_exists_28 rfl rfl ?_
        refine e_bipush (v := 87) m_X0_exists dX0_exists_29 (by decide) ?_
        refine e_icmp (t := 38) m_X0_exists dX0_exists_31 (by decide) (fun q4 => ?_) (fun q4 => ?_)
        · have q4 := c_gt q4
          refine e_iconst (v := 0) m_X0_exists dX0_exists_38 (by decide) ?_
          rw [show exB x = 0 by unfold exB exA exC; rw [if_pos q1, if_pos q2, if_neg q3, if_pos q4]]
          exact e_reti m_X0_exists dX0_exists_39 (Or.inr ⟨rfl, by decide⟩)
        · have q4 := c_gt' q4
          refine e_iconst (v := 1) m_X0_exists dX0_exists_34 (by decide) ?_
          refine e_goto (t := 39) m_X0_exists dX0_exists_35 (by decide) ?_
          rw [show exB x = 1 by unfold exB exA exC; rw [if_pos q1, if_pos q2, if_neg q3, if_neg q4]]
          exact e_reti m_X0_exists dX0_exists_39 (Or.inr ⟨rfl, by decide⟩)
    · have q2 := c_lt' q2
      refine e_iload_n m_X0_exists dX0_exists_16 rfl rfl ?_
      refine e_bipush (v := 34) m_X0_exists dX0_exists_17 (by decide) ?_
      refine e_icmp (t := 34) m_X0_exists dX0_exists_19 (by decide) (fun q5 => ?_) (fun q5 => ?_)
      · have q5 := c_le q5
        refine e_iconst (v := 1) m_X0_exists dX0_exists_34 (by decide) ?_
        refine e_goto (t := 39) m_X0_exists dX0_exists_35 (by decide) ?_
        rw [show exB x = 1 by unfold exB exA exC; rw [if_pos q1, if_neg q2, if_pos q5]]
        exact e_reti m_X0_exists dX0_exists_39 (Or.inr ⟨rfl, by decide⟩)
      · have q5 := c_le' q5
        refine e_iload_n m_X0_exists dX0_exists_22 rfl rfl ?_
        refine e_bipush (v := 40) m_X0_exists dX0_exists_23 (by decide) ?_
        refine e_icmp (t := 38) m_X0_exists dX0_exists_25 (by decide) (fun q6 => ?_) (fun q6 => ?_)
        · have q6 := c_lt q6
          refine e_iconst (v := 0) m_X0_exists dX0_exists_38 (by decide) ?_
          rw [show exB x = 0 by unfold exB exA exC; rw [if_pos q1, if_neg q2, if_neg q5, if_pos q6]]
          exact e_reti m_X0_exists dX0_exists_39 (Or.inr ⟨rfl, by decide⟩)
        · have q6 := c_lt' q6
          refine e_iload_n m_X0_exists dX0_exists_28 rfl rfl ?_
          refine e_bipush (v := 87) m_X0_exists dX0_exists_29 (by decide) ?_
          refine e_icmp (t := 38) m_X0_exists dX0_exists_31 (by decide) (fun q7 => ?_) (fun q7 => ?_)
          · have q7 := c_gt q7
            refine e_iconst (v := 0) m_X0_exists dX0_exists_38 (by decide) ?_
            rw [show exB x = 0 by unfold exB exA exC; rw [if_pos q1, if_neg q2, if_neg q5, if_neg q6, if_pos q7]]
            exact e_reti m_X0_exists dX0_exists_39 (Or.inr ⟨rfl, by decide⟩)
          · have q7 := c_gt' q7
            refine e_iconst (v := 1) m_X0_exists dX0_exists_34 (by decide) ?_
            refine e_goto (t := 39) m_X0_exists dX0_exists_35 (by decide) ?_
            rw [show exB x = 1 by unfold exB exA exC; rw [if_pos q1, if_neg q2, if_neg q5, if_neg q6, if_neg q7]]
            exact e_reti m_X0_exists dX0_exists_39 (Or.inr ⟨rfl, by decide⟩)
  · have q1 := c_lt' q1
    refine e_iload_n m_X0_exists dX0_exists_5 rfl rfl ?_
    refine e_iconst (v := 5) m_X0_exists dX0_exists_6 (by decide) ?_
    refine e_icmp (t := 34) m_X0_exists dX0_exists_7 (by decide) (fun q8 => ?_) (fun q8 => ?_)
    · have q8 := c_le q8
      refine e_iconst (v := 1) m_X0_exists dX0_exists_34 (by decide) ?_
      refine e_goto (t := 39) m_X0_exists dX0_exists_35 (by decide) ?_
      rw [show exB x = 1 by unfold exB exA exC; rw [if_neg q1, if_pos q8]]
      exact e_reti m_X0_exists dX0_exists_39 (Or.inr ⟨rfl, by decide⟩)
    · have q8 := c_le' q8
      refine e_iload_n m_X0_exists dX0_exists_10 rfl rfl ?_
      refine e_bipush (v := 10) m_X0_exists dX0_exists_11 (by decide) ?_
      refine e_icmp (t := 22) m_X0_exists dX0_exists_13 (by decide) (fun q9 => ?_) (fun q9 => ?_)
      · have q9 := c_lt q9
        refine e_iload_n m_X0_exists dX0_exists_22 rfl rfl ?_
        refine e_bipush (v := 40) m_X0_exists dX0_exists_23 (by decide) ?_
        refine e_icmp (t := 38) m_X0_exists dX0_exists_25 (by decide) (fun q10 => ?_) (fun q10 => ?_)
        · have q10 := c_lt q10
          refine e_iconst (v := 0) m_X0_exists dX0_exists_38 (by decide) ?_
          rw [show exB x = 0 by unfold exB exA exC; rw [if_neg q1, if_neg q8, if_pos q9, if_pos q10]]
          exact e_reti m_X0_exists dX0_exists_39 (Or.inr ⟨rfl, by decide⟩)
        · have q10 := c_lt' q10
          refine e_iload_n m_X0_exists dX0_exists_28 rfl rfl ?_
          refine e_bipush (v := 87) m_X0_exists dX0_exists_29 (by decide) ?_
          refine e_icmp (t := 38) m_X0_exists dX0_exists_31 (by decide) (fun q11 => ?_) (fun q11 => ?_)
          · have q11 := c_gt q11
            refine e_iconst (v := 0) m_X0_exists dX0_exists_38 (by decide) ?_
            rw [show exB x = 0 by unfold exB exA exC; rw [if_neg q1, if_neg q8, if_pos q9, if_neg q10, if_pos q11]]
            exact e_reti m_X0_exists dX0_exists_39 (Or.inr ⟨rfl, by decide⟩)
          · have q11 := c_gt' q11
            refine e_iconst (v := 1) m_X0_exists dX0_exists_34 (by decide) ?_
            refine e_goto (t := 39) m_X0_exists dX0_exists_35 (by decide) ?_
            rw [show exB x = 1 by unfold exB exA exC; rw [if_neg q1, if_neg q8, if_pos q9, if_neg q10, if_neg q11]]
            exact e_reti m_X0_exists dX0_exists_39 (Or.inr ⟨rfl, by decide⟩)
      · have q9 := c_lt' q9
        refine e_iload_n m_X0_exists dX0_exists_16 rfl rfl ?_
        refine e_bipush (v := 34) m_X0_exists dX0_exists_17 (by decide) ?_
        refine e_icmp (t := 34) m_X0_exists dX0_exists_19 (by decide) (fun q12 => ?_) (fun q12 => ?_)
        · have q12 := c_le q12
          refine e_iconst (v := 1) m_X0_exists dX0_exists_34 (by decide) ?_
          refine e_goto (t := 39) m_X0_exists dX0_exists_35 (by decide) ?_
          rw [show exB x = 1 by unfold exB exA exC; rw [if_neg q1, if_neg q8, if_neg q9, if_pos q12]]
          exact e_reti m_X0_exists dX0_exists_39 (Or.inr ⟨rfl, by decide⟩)
        · have q12 := c_le' q12
          refine e_iload_n m_X0_exists dX0_exists_22 rfl rfl ?_
          refine e_bipush (v := 40) m_X0_exists dX0_exists_23 (by decide) ?_
          refine e_icmp (t := 38) m_X0_exists dX0_exists_25 (by decide) (fun q13 => ?_) (fun q13 => ?_)
          · have q13 := c_lt q13
            refine e_iconst (v := 0) m_X0_exists dX0_exists_38 (by decide) ?_
            rw [show exB x = 0 by unfold exB exA exC; rw [if_neg q1, if_neg q8, if_neg q9, if_neg q12, if_pos q13]]
            exact e_reti m_X0_exists dX0_exists_39 (Or.inr ⟨rfl, by decide⟩)
          · have q13 := c_lt' q13
            refine e_iload_n m_X0_exists dX0_exists_28 rfl rfl ?_
            refine e_bipush (v := 87) m_X0_exists dX0_exists_29 (by decide) ?_
            refine e_icmp (t := 38) m_X0_exists dX0_exists_31 (by decide) (fun q14 => ?_) (fun q14 => ?_)
            · have q14 := c_gt q14
              refine e_iconst (v := 0) m_X0_exists dX0_exists_38 (by decide) ?_
              rw [show exB x = 0 by unfold exB exA exC; rw [if_neg q1, if_neg q8, if_neg q9, if_neg q12, if_neg q13, if_pos q14]]
              exact e_reti m_X0_exists dX0_exists_39 (Or.inr ⟨rfl, by decide⟩)
            · have q14 := c_gt' q14
              refine e_iconst (v := 1) m_X0_exists dX0_exists_34 (by decide) ?_
              refine e_goto (t := 39) m_X0_exists dX0_exists_35 (by decide) ?_
              rw [show exB x = 1 by unfold exB exA exC; rw [if_neg q1, if_neg q8, if_neg q9, if_neg q12, if_neg q13, if_neg q14]]
              exact e_reti m_X0_exists dX0_exists_39 (Or.inr ⟨rfl, by decide⟩)
theorem t_isKind {xs : Nat → Int32} {L d : Nat} {h : mm_H} {x : Int32} : Rn xs L d 126 [.int x] h (.inl (some (.int (exB x))), h, 0, 0) := by
  unfold Rn
  refine e_iload_n m_X6_isKind dX6_isKind_0 rfl rfl ?_
  refine e_iconst (v := 1) m_X6_isKind dX6_isKind_1 (by decide) ?_
  refine e_icmp (t := 10) m_X6_isKind dX6_isKind_2 (by decide) (fun q1 => ?_) (fun q1 => ?_)
  · have q1 := c_lt q1
    refine e_iload_n m_X6_isKind dX6_isKind_10 rfl rfl ?_
    refine e_bipush (v := 10) m_X6_isKind dX6_isKind_11 (by decide) ?_
    refine e_icmp (t := 22) m_X6_isKind dX6_isKind_13 (by decide) (fun q2 => ?_) (fun q2 => ?_)
    · have q2 := c_lt q2
      refine e_iload_n m_X6_isKind dX6_isKind_22 rfl rfl ?_
      refine e_bipush (v := 40) m_X6_isKind dX6_isKind_23 (by decide) ?_
      refine e_icmp (t := 38) m_X6_isKind dX6_isKind_25 (by decide) (fun q3 => ?_) (fun q3 => ?_)
      · have q3 := c_lt q3
        refine e_iconst (v := 0) m_X6_isKind dX6_isKind_38 (by decide) ?_
        rw [show exB x = 0 by unfold exB exA exC; rw [if_pos q1, if_pos q2, if_pos q3]]
        exact e_reti m_X6_isKind dX6_isKind_39 (Or.inr ⟨rfl, by decide⟩)
      · have q3 := c_lt' q3
        refine e_iload_n m_X6_isKind dX6_isKind_28 rfl rfl ?_
        refine e_bipush (v := 87) m_X6_isKind dX6_isKind_29 (by decide) ?_
        refine e_icmp (t := 38) m_X6_isKind dX6_isKind_31 (by decide) (fun q4 => ?_) (fun q4 => ?_)
        · have q4 := c_gt q4
          refine e_iconst (v := 0) m_X6_isKind dX6_isKind_38 (by decide) ?_
          rw [show exB x = 0 by unfold exB exA exC; rw [if_pos q1, if_pos q2, if_neg q3, if_pos q4]]
          exact e_reti m_X6_isKind dX6_isKind_39 (Or.inr ⟨rfl, by decide⟩)
        · have q4 := c_gt' q4
          refine e_iconst (v := 1) m_X6_isKind dX6_isKind_34 (by decide) ?_
          refine e_goto (t := 39) m_X6_isKind dX6_isKind_35 (by decide) ?_
          rw [show exB x = 1 by unfold exB exA exC; rw [if_pos q1, if_pos q2, if_neg q3, if_neg q4]]
          exact e_reti m_X6_isKind dX6_isKind_39 (Or.inr ⟨rfl, by decide⟩)
    · have q2 := c_lt' q2
      refine e_iload_n m_X6_isKind dX6_isKind_16 rfl rfl ?_
      refine e_bipush (v := 34) m_X6_isKind dX6_isKind_17 (by decide) ?_
      refine e_icmp (t := 34) m_X6_isKind dX6_isKind_19 (by decide) (fun q5 => ?_) (fun q5 => ?_)
      · have q5 := c_le q5
        refine e_iconst (v := 1) m_X6_isKind dX6_isKind_34 (by decide) ?_
        refine e_goto (t := 39) m_X6_isKind dX6_isKind_35 (by decide) ?_
        rw [show exB x = 1 by unfold exB exA exC; rw [if_pos q1, if_neg q2, if_pos q5]]
        exact e_reti m_X6_isKind dX6_isKind_39 (Or.inr ⟨rfl, by decide⟩)
      · have q5 := c_le' q5
        refine e_iload_n m_X6_isKind dX6_isKind_22 rfl rfl ?_
        refine e_bipush (v := 40) m_X6_isKind dX6_isKind_23 (by decide) ?_
        refine e_icmp (t := 38) m_X6_isKind dX6_isKind_25 (by decide) (fun q6 => ?_) (fun q6 => ?_)
        · have q6 := c_lt q6
          refine e_iconst (v := 0) m_X6_isKind dX6_isKind_38 (by decide) ?_
          rw [show exB x = 0 by unfold exB exA exC; rw [if_pos q1, if_neg q2, if_neg q5, if_pos q6]]
          exact e_reti m_X6_isKind dX6_isKind_39 (Or.inr ⟨rfl, by decide⟩)
        · have q6 := c_lt' q6
          refine e_iload_n m_X6_isKind dX6_isKind_28 rfl rfl ?_
          refine e_bipush (v := 87) m_X6_isKind dX6_isKind_29 (by decide) ?_
          refine e_icmp (t := 38) m_X6_isKind dX6_isKind_31 (by decide) (fun q7 => ?_) (fun q7 => ?_)
          · have q7 := c_gt q7
            refine e_iconst (v := 0) m_X6_isKind dX6_isKind_38 (by decide) ?_
            rw [show exB x = 0 by unfold exB exA exC; rw [if_pos q1, if_neg q2, if_neg q5, if_neg q6, if_pos q7]]
            exact e_reti m_X6_isKind dX6_isKind_39 (Or.inr ⟨rfl, by decide⟩)
          · have q7 := c_gt' q7
            refine e_iconst (v := 1) m_X6_isKind dX6_isKind_34 (by decide) ?_
            refine e_goto (t := 39) m_X6_isKind dX6_isKind_35 (by decide) ?_
            rw [show exB x = 1 by unfold exB exA exC; rw [if_pos q1, if_neg q2, if_neg q5, if_neg q6, if_neg q7]]
            exact e_reti m_X6_isKind dX6_isKind_39 (Or.inr ⟨rfl, by decide⟩)
  · have q1 := c_lt' q1
    refine e_iload_n m_X6_isKind dX6_isKind_5 rfl rfl ?_
    refine e_iconst (v := 5) m_X6_isKind dX6_isKind_6 (by decide) ?_
    refine e_icmp (t := 34) m_X6_isKind dX6_isKind_7 (by decide) (fun q8 => ?_) (fun q8 => ?_)
    · have q8 := c_le q8
      refine e_iconst (v := 1) m_X6_isKind dX6_isKind_34 (by decide) ?_
      refine e_goto (t := 39) m_X6_isKind dX6_isKind_35 (by decide) ?_
      rw [show exB x = 1 by unfold exB exA exC; rw [if_neg q1, if_pos q8]]
      exact e_reti m_X6_isKind dX6_isKind_39 (Or.inr ⟨rfl, by decide⟩)
    · have q8 := c_le' q8
      refine e_iload_n m_X6_isKind dX6_isKind_10 rfl rfl ?_
      refine e_bipush (v := 10) m_X6_isKind dX6_isKind_11 (by decide) ?_
      refine e_icmp (t := 22) m_X6_isKind dX6_isKind_13 (by decide) (fun q9 => ?_) (fun q9 => ?_)
      · have q9 := c_lt q9
        refine e_iload_n m_X6_isKind dX6_isKind_22 rfl rfl ?_
        refine e_bipush (v := 40) m_X6_isKind dX6_isKind_23 (by decide) ?_
        refine e_icmp (t := 38) m_X6_isKind dX6_isKind_25 (by decide) (fun q10 => ?_) (fun q10 => ?_)
        · have q10 := c_lt q10
          refine e_iconst (v := 0) m_X6_isKind dX6_isKind_38 (by decide) ?_
          rw [show exB x = 0 by unfold exB exA exC; rw [if_neg q1, if_neg q8, if_pos q9, if_pos q10]]
          exact e_reti m_X6_isKind dX6_isKind_39 (Or.inr ⟨rfl, by decide⟩)
        · have q10 := c_lt' q10
          refine e_iload_n m_X6_isKind dX6_isKind_28 rfl rfl ?_
          refine e_bipush (v := 87) m_X6_isKind dX6_isKind_29 (by decide) ?_
          refine e_icmp (t := 38) m_X6_isKind dX6_isKind_31 (by decide) (fun q11 => ?_) (fun q11 => ?_)
          · have q11 := c_gt q11
            refine e_iconst (v := 0) m_X6_isKind dX6_isKind_38 (by decide) ?_
            rw [show exB x = 0 by unfold exB exA exC; rw [if_neg q1, if_neg q8, if_pos q9, if_neg q10, if_pos q11]]
            exact e_reti m_X6_isKind dX6_isKind_39 (Or.inr ⟨rfl, by decide⟩)
          · have q11 := c_gt' q11
            refine e_iconst (v := 1) m_X6_isKind dX6_isKind_34 (by decide) ?_
            refine e_goto (t := 39) m_X6_isKind dX6_isKind_35 (by decide) ?_
            rw [show exB x = 1 by unfold exB exA exC; rw [if_neg q1, if_neg q8, if_pos q9, if_neg q10, if_neg q11]]
            exact e_reti m_X6_isKind dX6_isKind_39 (Or.inr ⟨rfl, by decide⟩)
      · have q9 := c_lt' q9
        refine e_iload_n m_X6_isKind dX6_isKind_16 rfl rfl ?_
        refine e_bipush (v := 34) m_X6_isKind dX6_isKind_17 (by decide) ?_
        refine e_icmp (t := 34) m_X6_isKind dX6_isKind_19 (by decide) (fun q12 => ?_) (fun q12 => ?_)
        · have q12 := c_le q12
          refine e_iconst (v := 1) m_X6_isKind dX6_isKind_34 (by decide) ?_
          refine e_goto (t := 39) m_X6_isKind dX6_isKind_35 (by decide) ?_
          rw [show exB x = 1 by unfold exB exA exC; rw [if_neg q1, if_neg q8, if_neg q9, if_pos q12]]
          exact e_reti m_X6_isKind dX6_isKind_39 (Or.inr ⟨rfl, by decide⟩)
        · have q12 := c_le' q12
          refine e_iload_n m_X6_isKind dX6_isKind_22 rfl rfl ?_
          refine e_bipush (v := 40) m_X6_isKind dX6_isKind_23 (by decide) ?_
          refine e_icmp (t := 38) m_X6_isKind dX6_isKind_25 (by decide) (fun q13 => ?_) (fun q13 => ?_)
          · have q13 := c_lt q13
            refine e_iconst (v := 0) m_X6_isKind dX6_isKind_38 (by decide) ?_
            rw [show exB x = 0 by unfold exB exA exC; rw [if_neg q1, if_neg q8, if_neg q9, if_neg q12, if_pos q13]]
            exact e_reti m_X6_isKind dX6_isKind_39 (Or.inr ⟨rfl, by decide⟩)
          · have q13 := c_lt' q13
            refine e_iload_n m_X6_isKind dX6_isKind_28 rfl rfl ?_
            refine e_bipush (v := 87) m_X6_isKind dX6_isKind_29 (by decide) ?_
            refine e_icmp (t := 38) m_X6_isKind dX6_isKind_31 (by decide) (fun q14 => ?_) (fun q14 => ?_)
            · have q14 := c_gt q14
              refine e_iconst (v := 0) m_X6_isKind dX6_isKind_38 (by decide) ?_
              rw [show exB x = 0 by unfold exB exA exC; rw [if_neg q1, if_neg q8, if_neg q9, if_neg q12, if_neg q13, if_pos q14]]
              exact e_reti m_X6_isKind dX6_isKind_39 (Or.inr ⟨rfl, by decide⟩)
            · have q14 := c_gt' q14
              refine e_iconst (v := 1) m_X6_isKind dX6_isKind_34 (by decide) ?_
              refine e_goto (t := 39) m_X6_isKind dX6_isKind_35 (by decide) ?_
              rw [show exB x = 1 by unfold exB exA exC; rw [if_neg q1, if_neg q8, if_neg q9, if_neg q12, if_neg q13, if_neg q14]]
              exact e_reti m_X6_isKind dX6_isKind_39 (Or.inr ⟨rfl, by decide⟩)
theorem t_room {xs : Nat → Int32} {L d : Nat} {cnt us nb th ct md nd td at' dp wr rw : Int32} {kf kg fW fT fP fF fL fN gD gN gT : Nat → Int32} {t : mm_H} {m : Int32} (hm : mm_cond .gt m (16384 - cnt) = false) (hd : 1 ≤ d) : Rn xs L d 5 [.ref 1, .int m] (qh cnt kf us nb th ct md nd td at' dp wr rw kg fW fT fP fF fL fN gD gN gT t) (.inl (some (.int 1)), qh cnt kf us nb th ct md nd td at' dp wr rw kg fW fT fP fF fL fN gD gN gT t, 0, 0) := by
  unfold Rn
  refine e_iload_n m_X2_haveRoomFor dX2_haveRoomFor_0 rfl rfl ?_
  refine e_sipush (v := 16384) m_X2_haveRoomFor dX2_haveRoomFor_1 (by decide) ?_
  refine e_aload_n m_X2_haveRoomFor dX2_haveRoomFor_4 rfl rfl rfl ?_
  refine e_getf m_X2_haveRoomFor dX2_haveRoomFor_5 f_RX2_13 qg1 rfl ?_
  refine e_isub m_X2_haveRoomFor dX2_haveRoomFor_8 ?_
  refine e_icF (t := 16) m_X2_haveRoomFor dX2_haveRoomFor_9 (by decide) hm ?_
  refine e_iconst (v := 1) m_X2_haveRoomFor dX2_haveRoomFor_12 (by decide) ?_
  refine e_goto (t := 17) m_X2_haveRoomFor dX2_haveRoomFor_13 (by decide) ?_
  exact e_reti m_X2_haveRoomFor dX2_haveRoomFor_17 (Or.inr ⟨rfl, by decide⟩)
theorem t_app1 {xs : Nat → Int32} {L d : Nat} {cnt us nb th ct md nd td at' dp wr rw : Int32} {kf kg fW fT fP fF fL fN gD gN gT : Nat → Int32} {t : mm_H} {x : Int32} (q1 : cnt < 0) (hd : 1 ≤ d) : Rn xs L d 6 [.ref 1, .int x] (qh cnt kf us nb th ct md nd td at' dp wr rw kg fW fT fP fF fL fN gD gN gT t) (.inl none, qh cnt kf us nb th ct md nd td at' dp wr rw kg fW fT fP fF fL fN gD gN gT t, 0, 0) := by
  unfold Rn
  refine e_aload_n m_X2_append dX2_append_0 rfl rfl rfl ?_
  refine e_getf m_X2_append dX2_append_1 f_RX2_13 qg1 rfl ?_
  refine e_ifT (t := 40) m_X2_append dX2_append_4 (by decide) (decide_eq_true q1) ?_
  exact e_ret0 m_X2_append dX2_append_40
theorem t_app2 {xs : Nat → Int32} {L d : Nat} {cnt us nb th ct md nd td at' dp wr rw : Int32} {kf kg fW fT fP fF fL fN gD gN gT : Nat → Int32} {t : mm_H} {x : Int32} (q1 : ¬ cnt < 0) (q2 : Int32.ofNat 16384 ≤ cnt) (hd : 1 ≤ d) : Rn xs L d 6 [.ref 1, .int x] (qh cnt kf us nb th ct md nd td at' dp wr rw kg fW fT fP fF fL fN gD gN gT t) (.inl none, qh cnt kf us nb th ct md nd td at' dp wr rw kg fW fT fP fF fL fN gD gN gT t, 0, 0) := by
  unfold Rn
  refine e_aload_n m_X2_append dX2_append_0 rfl rfl rfl ?_
  refine e_getf m_X2_append dX2_append_1 f_RX2_13 qg1 rfl ?_
  refine e_ifF (t := 40) m_X2_append dX2_append_4 (by decide) (decide_eq_false q1) ?_
  refine e_aload_n m_X2_append dX2_append_7 rfl rfl rfl ?_
  refine e_getf m_X2_append dX2_append_8 f_RX2_13 qg1 rfl ?_
  refine e_aload_n m_X2_append dX2_append_11 rfl rfl rfl ?_
  refine e_getf m_X2_append dX2_append_12 f_RX2_9 qg1 rfl ?_
  refine e_alen m_X2_append dX2_append_15 qg2 (by decide) ?_
  refine e_icT (t := 40) m_X2_append dX2_append_16 (by decide) (decide_eq_true q2) ?_
  exact e_ret0 m_X2_append dX2_append_40
theorem t_app3 {xs : Nat → Int32} {L d : Nat} {cnt us nb th ct md nd td at' dp wr rw : Int32} {kf kg fW fT fP fF fL fN gD gN gT : Nat → Int32} {t : mm_H} {x : Int32} (q1 : ¬ cnt < 0) (q2 : ¬ Int32.ofNat 16384 ≤ cnt) (hd : 1 ≤ d) : Rn xs L d 6 [.ref 1, .int x] (qh cnt kf us nb th ct md nd td at' dp wr rw kg fW fT fP fF fL fN gD gN gT t) (.inl none, qh (cnt + 1) (upd kf (cnt : Int32).toNatClampNeg (vp_nar (mm_ty 1) x.toInt8.toInt32)) us nb th ct md nd td at' dp wr rw kg fW fT fP fF fL fN gD gN gT t, 0, 0) := by
  unfold Rn
  refine e_aload_n m_X2_append dX2_append_0 rfl rfl rfl ?_
  refine e_getf m_X2_append dX2_append_1 f_RX2_13 qg1 rfl ?_
  refine e_ifF (t := 40) m_X2_append dX2_append_4 (by decide) (decide_eq_false q1) ?_
  refine e_aload_n m_X2_append dX2_append_7 rfl rfl rfl ?_
  refine e_getf m_X2_append dX2_append_8 f_RX2_13 qg1 rfl ?_
  refine e_aload_n m_X2_append dX2_append_11 rfl rfl rfl ?_
  refine e_getf m_X2_append dX2_append_12 f_RX2_9 qg1 rfl ?_
  refine e_alen m_X2_append dX2_append_15 qg2 (by decide) ?_
  refine e_icF (t := 40) m_X2_append dX2_append_16 (by decide) (decide_eq_false q2) ?_
  refine e_aload_n m_X2_append dX2_append_19 rfl rfl rfl ?_
  refine e_getf m_X2_append dX2_append_20 f_RX2_9 qg1 rfl ?_
  refine e_aload_n m_X2_append dX2_append_23 rfl rfl rfl ?_
  refine e_getf m_X2_append dX2_append_24 f_RX2_13 qg1 rfl ?_
  refine e_iload_n m_X2_append dX2_append_27 rfl rfl ?_
  refine e_i2b m_X2_append dX2_append_28 ?_
  refine e_iast (h' := qh cnt (upd kf (cnt : Int32).toNatClampNeg (vp_nar (mm_ty 1) x.toInt8.toInt32)) us nb th ct md nd td at' dp wr rw kg fW fT fP fF fL fN gD gN gT t) (Or.inr ⟨rfl, Or.inl rfl⟩) m_X2_append dX2_append_29 qg2 (in_of (by decide) q1 q2) rfl ?_
  refine e_aload_n m_X2_append dX2_append_30 rfl rfl rfl ?_
  refine e_dup m_X2_append dX2_append_31 rfl ?_
  refine e_getf m_X2_append dX2_append_32 f_RX2_13 qg1 rfl ?_
  refine e_iconst (v := 1) m_X2_append dX2_append_35 (by decide) ?_
  refine e_iadd m_X2_append dX2_append_36 ?_
  refine e_putf (h' := qh (cnt + 1) (upd kf (cnt : Int32).toNatClampNeg (vp_nar (mm_ty 1) x.toInt8.toInt32)) us nb th ct md nd td at' dp wr rw kg fW fT fP fF fL fN gD gN gT t) m_X2_append dX2_append_37 f_RX2_13 qg1 (Nat.le_of_ble_eq_true rfl) (fit_i rfl) rfl rfl ?_
  exact e_ret0 m_X2_append dX2_append_40
theorem t_append {xs : Nat → Int32} {L d : Nat} {cnt us nb th ct md nd td at' dp wr rw : Int32} {kf kg fW fT fP fF fL fN gD gN gT : Nat → Int32} {t : mm_H} {x : Int32} (hd : 1 ≤ d) : ∃ (cnt2 : Int32) (kf2 : Nat → Int32), Rn xs L d 6 [.ref 1, .int x] (qh cnt kf us nb th ct md nd td at' dp wr rw kg fW fT fP fF fL fN gD gN gT t) (.inl none, qh cnt2 kf2 us nb th ct md nd td at' dp wr rw kg fW fT fP fF fL fN gD gN gT t, 0, 0) := by
  by_cases q1 : cnt < 0
  · exact ⟨_, _, t_app1 q1 hd⟩
  · by_cases q2 : Int32.ofNat 16384 ≤ cnt
    · exact ⟨_, _, t_app2 q1 q2 hd⟩
    · exact ⟨_, _, t_app3 q1 q2 hd⟩
theorem t_add0 {xs : Nat → Int32} {L d : Nat} {cnt us nb th ct md nd td at' dp wr rw : Int32} {kf kg fW fT fP fF fL fN gD gN gT : Nat → Int32} {t : mm_H} {x : Int32} (hx : exB x = 0) (hd : 2 ≤ d) : Rn xs L d 3 [.ref 0, .int x] (qh cnt kf us nb th ct md nd td at' dp wr rw kg fW fT fP fF fL fN gD gN gT t) (.inl (some (.int 0)), qh cnt kf us nb th ct md nd td at' dp wr rw kg fW fT fP fF fL fN gD gN gT t, 0, 0) := by
  unfold Rn
  refine e_iload_n m_X5_add dX5_add_0 rfl rfl ?_
  refine e_cs (as := [.int x]) m_X5_add dX5_add_1 c_RX5_23 (by decide) rfl rfl (Nat.le_of_ble_eq_true rfl) (Nat.le_of_ble_eq_true rfl) (by omega) (t_exists) ?_
  refine e_ifT (t := 18) m_X5_add dX5_add_4 (by decide) (by rw [hx]; rfl) ?_
  refine e_iconst (v := 0) m_X5_add dX5_add_18 (by decide) ?_
  exact e_reti m_X5_add dX5_add_19 (Or.inr ⟨rfl, by decide⟩)
theorem t_add1 {xs : Nat → Int32} {L d : Nat} {us nb th ct md nd td at' dp wr rw : Int32} {kf kg fW fT fP fF fL fN gD gN gT : Nat → Int32} {t : mm_H} {x : Int32} (hx : exB x = 1) (hd : 2 ≤ d) : Rn xs L d 3 [.ref 0, .int x] (qh 0 kf us nb th ct md nd td at' dp wr rw kg fW fT fP fF fL fN gD gN gT t) (.inl (some (.int 1)), qh (0 + 1) (upd kf (0 : Int32).toNatClampNeg (vp_nar (mm_ty 1) x.toInt8.toInt32)) us nb th ct md nd td at' dp wr rw kg fW fT fP fF fL fN gD gN gT t, 0, 0) := by
  unfold Rn
  refine e_iload_n m_X5_add dX5_add_0 rfl rfl ?_
  refine e_cs (as := [.int x]) m_X5_add dX5_add_1 c_RX5_23 (by decide) rfl rfl (Nat.le_of_ble_eq_true rfl) (Nat.le_of_ble_eq_true rfl) (by omega) (t_exists) ?_
  refine e_ifF (t := 18) m_X5_add dX5_add_4 (by decide) (by rw [hx]; rfl) ?_
  refine e_aload_n m_X5_add dX5_add_7 rfl rfl rfl ?_
  refine e_getf m_X5_add dX5_add_8 f_RX5_10 qg0 rfl ?_
  refine e_iconst (v := 1) m_X5_add dX5_add_11 (by decide) ?_
  refine e_cv (as := [.int 1]) m_X5_add dX5_add_12 c_RX5_29 (by decide) rfl rfl qg1 rfl (Nat.le_of_ble_eq_true rfl) (Nat.le_of_ble_eq_true rfl) (by omega) (t_room (by decide +kernel) (by omega)) ?_
  refine e_ifT (t := 20) m_X5_add dX5_add_15 (by decide) (by decide) ?_
  refine e_aload_n m_X5_add dX5_add_20 rfl rfl rfl ?_
  refine e_getf m_X5_add dX5_add_21 f_RX5_10 qg0 rfl ?_
  refine e_iload_n m_X5_add dX5_add_24 rfl rfl ?_
  refine e_cv (as := [.int x]) m_X5_add dX5_add_25 c_RX5_32 (by decide) rfl rfl qg1 rfl (Nat.le_of_ble_eq_true rfl) (Nat.le_of_ble_eq_true rfl) (by omega) (t_app3 (by decide) (by decide) (by omega)) ?_
  refine e_iconst (v := 1) m_X5_add dX5_add_28 (by decide) ?_
  exact e_reti m_X5_add dX5_add_29 (Or.inr ⟨rfl, by decide⟩)
theorem u_add0 {xs : Nat → Int32} {L d : Nat} {cnt us nb th ct md nd td at' dp wr rw : Int32} {kf kg fW fT fP fF fL fN gD gN gT : Nat → Int32} {t : mm_H} {x : Int32} (hx : exB x = 0) (hd : 2 ≤ d) : Rn xs L d 125 [.ref 10, .int x] (qh cnt kf us nb th ct md nd td at' dp wr rw kg fW fT fP fF fL fN gD gN gT t) (.inl (some (.int 0)), qh cnt kf us nb 0 ct md nd td at' dp wr rw kg fW fT fP fF fL fN gD gN gT t, 0, 0) := by
  unfold Rn
  refine e_aload_n m_X6_add dX6_add_0 rfl rfl rfl ?_
  refine e_iconst (v := 0) m_X6_add dX6_add_1 (by decide) ?_
  refine e_putf (h' := qh cnt kf us nb 0 ct md nd td at' dp wr rw kg fW fT fP fF fL fN gD gN gT t) m_X6_add dX6_add_2 f_RX6_64 qg10 (Nat.le_of_ble_eq_true rfl) (fit_i rfl) rfl rfl ?_
  refine e_iload_n m_X6_add dX6_add_5 rfl rfl ?_
  refine e_cs (as := [.int x]) m_X6_add dX6_add_6 c_RX6_68 (by decide) rfl rfl (Nat.le_of_ble_eq_true rfl) (Nat.le_of_ble_eq_true rfl) (by omega) (t_isKind) ?_
  refine e_ifT (t := 22) m_X6_add dX6_add_9 (by decide) (by rw [hx]; rfl) ?_
  refine e_iconst (v := 0) m_X6_add dX6_add_22 (by decide) ?_
  exact e_reti m_X6_add dX6_add_23 (Or.inr ⟨rfl, by decide⟩)
theorem u_add1 {xs : Nat → Int32} {L d : Nat} {cnt us nb th md nd td at' dp wr rw : Int32} {kf kg fW fT fP fF fL fN gD gN gT : Nat → Int32} {t : mm_H} {x : Int32} (hx : exB x = 1) (hd : 2 ≤ d) : Rn xs L d 125 [.ref 10, .int x] (qh cnt kf us nb th 0 md nd td at' dp wr rw kg fW fT fP fF fL fN gD gN gT t) (.inl (some (.int 1)), qh cnt kf us nb 0 (0 + 1) md nd td at' dp wr rw (upd kg (0 : Int32).toNatClampNeg (vp_nar (mm_ty 1) x.toInt8.toInt32)) fW fT fP fF fL fN gD gN gT t, 0, 0) := by
  unfold Rn
  refine e_aload_n m_X6_add dX6_add_0 rfl rfl rfl ?_
  refine e_iconst (v := 0) m_X6_add dX6_add_1 (by decide) ?_
  refine e_putf (h' := qh cnt kf us nb 0 0 md nd td at' dp wr rw kg fW fT fP fF fL fN gD gN gT t) m_X6_add dX6_add_2 f_RX6_64 qg10 (Nat.le_of_ble_eq_true rfl) (fit_i rfl) rfl rfl ?_
  refine e_iload_n m_X6_add dX6_add_5 rfl rfl ?_
  refine e_cs (as := [.int x]) m_X6_add dX6_add_6 c_RX6_68 (by decide) rfl rfl (Nat.le_of_ble_eq_true rfl) (Nat.le_of_ble_eq_true rfl) (by omega) (t_isKind) ?_
  refine e_ifF (t := 22) m_X6_add dX6_add_9 (by decide) (by rw [hx]; rfl) ?_
  refine e_aload_n m_X6_add dX6_add_12 rfl rfl rfl ?_
  refine e_getf m_X6_add dX6_add_13 f_RX6_72 qg10 rfl ?_
  refine e_sipush (v := 16384) m_X6_add dX6_add_16 (by decide) ?_
  refine e_icT (t := 24) m_X6_add dX6_add_19 (by decide) (by decide) ?_
  refine e_aload_n m_X6_add dX6_add_24 rfl rfl rfl ?_
  refine e_getf m_X6_add dX6_add_25 f_RX6_7 qg10 rfl ?_
  refine e_aload_n m_X6_add dX6_add_28 rfl rfl rfl ?_
  refine e_getf m_X6_add dX6_add_29 f_RX6_72 qg10 rfl ?_
  refine e_iload_n m_X6_add dX6_add_32 rfl rfl ?_
  refine e_i2b m_X6_add dX6_add_33 ?_
  refine e_iast (h' := qh cnt kf us nb 0 0 md nd td at' dp wr rw (upd kg (0 : Int32).toNatClampNeg (vp_nar (mm_ty 1) x.toInt8.toInt32)) fW fT fP fF fL fN gD gN gT t) (Or.inr ⟨rfl, Or.inl rfl⟩) m_X6_add dX6_add_34 qg11 (by unfold vp_in; decide +kernel) rfl ?_
  refine e_aload_n m_X6_add dX6_add_35 rfl rfl rfl ?_
  refine e_dup m_X6_add dX6_add_36 rfl ?_
  refine e_getf m_X6_add dX6_add_37 f_RX6_72 qg10 rfl ?_
  refine e_iconst (v := 1) m_X6_add dX6_add_40 (by decide) ?_
  refine e_iadd m_X6_add dX6_add_41 ?_
  refine e_putf (h' := qh cnt kf us nb 0 (0 + 1) md nd td at' dp wr rw (upd kg (0 : Int32).toNatClampNeg (vp_nar (mm_ty 1) x.toInt8.toInt32)) fW fT fP fF fL fN gD gN gT t) m_X6_add dX6_add_42 f_RX6_72 qg10 (Nat.le_of_ble_eq_true rfl) (fit_i rfl) rfl rfl ?_
  refine e_iconst (v := 1) m_X6_add dX6_add_45 (by decide) ?_
  exact e_reti m_X6_add dX6_add_46 (Or.inr ⟨rfl, by decide⟩)
theorem t_size {xs : Nat → Int32} {L d : Nat} {cnt us nb th ct md nd td at' dp wr rw : Int32} {kf kg fW fT fP fF fL fN gD gN gT : Nat → Int32} {t : mm_H} (hd : 1 ≤ d) : Rn xs L d 113 [.ref 0] (qh cnt kf us nb th ct md nd td at' dp wr rw kg fW fT fP fF fL fN gD gN gT t) (.inl (some (.int cnt)), qh cnt kf us nb th ct md nd td at' dp wr rw kg fW fT fP fF fL fN gD gN gT t, 0, 0) := by
  unfold Rn
  refine e_aload_n m_X5_size dX5_size_0 rfl rfl rfl ?_
  refine e_getf m_X5_size dX5_size_1 f_RX5_10 qg0 rfl ?_
  refine e_getf m_X5_size dX5_size_4 f_RX5_40 qg1 rfl ?_
  exact e_reti m_X5_size dX5_size_7 (Or.inl rfl)
theorem u_size {xs : Nat → Int32} {L d : Nat} {cnt us nb th ct md nd td at' dp wr rw : Int32} {kf kg fW fT fP fF fL fN gD gN gT : Nat → Int32} {t : mm_H} (hd : 1 ≤ d) : Rn xs L d 128 [.ref 10] (qh cnt kf us nb th ct md nd td at' dp wr rw kg fW fT fP fF fL fN gD gN gT t) (.inl (some (.int ct)), qh cnt kf us nb 0 ct md nd td at' dp wr rw kg fW fT fP fF fL fN gD gN gT t, 0, 0) := by
  unfold Rn
  refine e_aload_n m_X6_size dX6_size_0 rfl rfl rfl ?_
  refine e_iconst (v := 0) m_X6_size dX6_size_1 (by decide) ?_
  refine e_putf (h' := qh cnt kf us nb 0 ct md nd td at' dp wr rw kg fW fT fP fF fL fN gD gN gT t) m_X6_size dX6_size_2 f_RX6_64 qg10 (Nat.le_of_ble_eq_true rfl) (fit_i rfl) rfl rfl ?_
  refine e_aload_n m_X6_size dX6_size_5 rfl rfl rfl ?_
  refine e_getf m_X6_size dX6_size_6 f_RX6_72 qg10 rfl ?_
  exact e_reti m_X6_size dX6_size_9 (Or.inl rfl)
theorem t_nodes {xs : Nat → Int32} {L d : Nat} {cnt us nb th ct md nd td at' dp wr rw : Int32} {kf kg fW fT fP fF fL fN gD gN gT : Nat → Int32} {t : mm_H} (hd : 1 ≤ d) : Rn xs L d 114 [.ref 0] (qh cnt kf us nb th ct md nd td at' dp wr rw kg fW fT fP fF fL fN gD gN gT t) (.inl (some (.int nb)), qh cnt kf us nb th ct md nd td at' dp wr rw kg fW fT fP fF fL fN gD gN gT t, 0, 0) := by
  unfold Rn
  refine e_aload_n m_X5_nodes dX5_nodes_0 rfl rfl rfl ?_
  refine e_getf m_X5_nodes dX5_nodes_1 f_RX5_19 qg0 rfl ?_
  refine e_getf m_X5_nodes dX5_nodes_4 f_RX5_63 qg3 rfl ?_
  exact e_reti m_X5_nodes dX5_nodes_7 (Or.inl rfl)
theorem u_nodes {xs : Nat → Int32} {L d : Nat} {cnt us nb th ct md nd td at' dp wr rw : Int32} {kf kg fW fT fP fF fL fN gD gN gT : Nat → Int32} {t : mm_H} (hd : 1 ≤ d) : Rn xs L d 220 [.ref 10] (qh cnt kf us nb th ct md nd td at' dp wr rw kg fW fT fP fF fL fN gD gN gT t) (.inl (some (.int nd)), qh cnt kf us nb 0 ct md nd td at' dp wr rw kg fW fT fP fF fL fN gD gN gT t, 0, 0) := by
  unfold Rn
  refine e_aload_n m_X6_nodes dX6_nodes_0 rfl rfl rfl ?_
  refine e_iconst (v := 0) m_X6_nodes dX6_nodes_1 (by decide) ?_
  refine e_putf (h' := qh cnt kf us nb 0 ct md nd td at' dp wr rw kg fW fT fP fF fL fN gD gN gT t) m_X6_nodes dX6_nodes_2 f_RX6_64 qg10 (Nat.le_of_ble_eq_true rfl) (fit_i rfl) rfl rfl ?_
  refine e_aload_n m_X6_nodes dX6_nodes_5 rfl rfl rfl ?_
  refine e_getf m_X6_nodes dX6_nodes_6 f_RX6_366 qg10 rfl ?_
  exact e_reti m_X6_nodes dX6_nodes_9 (Or.inl rfl)
theorem u_thrown {xs : Nat → Int32} {L d : Nat} {cnt us nb th ct md nd td at' dp wr rw : Int32} {kf kg fW fT fP fF fL fN gD gN gT : Nat → Int32} {t : mm_H} (hd : 1 ≤ d) : Rn xs L d 124 [.ref 10] (qh cnt kf us nb th ct md nd td at' dp wr rw kg fW fT fP fF fL fN gD gN gT t) (.inl (some (.int th)), qh cnt kf us nb th ct md nd td at' dp wr rw kg fW fT fP fF fL fN gD gN gT t, 0, 0) := by
  unfold Rn
  refine e_aload_n m_X6_thrown dX6_thrown_0 rfl rfl rfl ?_
  refine e_getf m_X6_thrown dX6_thrown_1 f_RX6_64 qg10 rfl ?_
  exact e_reti m_X6_thrown dX6_thrown_4 (Or.inl rfl)
theorem u_fail {xs : Nat → Int32} {L d : Nat} {cnt us nb th ct md nd td at' dp wr rw : Int32} {kf kg fW fT fP fF fL fN gD gN gT : Nat → Int32} {t : mm_H} (hd : 1 ≤ d) : Rn xs L d 222 [.ref 10] (qh cnt kf us nb th ct md nd td at' dp wr rw kg fW fT fP fF fL fN gD gN gT t) (.inl (some (.int 0)), qh cnt kf us nb 1 ct md nd td at' dp wr rw kg fW fT fP fF fL fN gD gN gT t, 0, 0) := by
  unfold Rn
  refine e_aload_n m_X6_fail dX6_fail_0 rfl rfl rfl ?_
  refine e_iconst (v := 1) m_X6_fail dX6_fail_1 (by decide) ?_
  refine e_putf (h' := qh cnt kf us nb 1 ct md nd td at' dp wr rw kg fW fT fP fF fL fN gD gN gT t) m_X6_fail dX6_fail_2 f_RX6_64 qg10 (Nat.le_of_ble_eq_true rfl) (fit_i rfl) rfl rfl ?_
  refine e_iconst (v := 0) m_X6_fail dX6_fail_5 (by decide) ?_
  exact e_reti m_X6_fail dX6_fail_6 (Or.inl rfl)
theorem t_has {xs : Nat → Int32} {L d : Nat} {cnt us th ct md nd td at' dp wr rw : Int32} {kf kg fW fT fP fF fL fN gD gN gT : Nat → Int32} {t : mm_H} {k : Int32} : Rn xs L d 117 [.ref 3, .int k] (qh cnt kf us 0 th ct md nd td at' dp wr rw kg fW fT fP fF fL fN gD gN gT t) (.inl (some (.int 0)), qh cnt kf us 0 th ct md nd td at' dp wr rw kg fW fT fP fF fL fN gD gN gT t, 0, 0) := by
  unfold Rn
  refine e_iload_n m_X3_has dX3_has_0 rfl rfl ?_
  refine e_if (t := 16) m_X3_has dX3_has_1 (by decide) (fun q1 => ?_) (fun q1 => ?_)
  · have q1 := c_lt q1
    refine e_iconst (v := 0) m_X3_has dX3_has_16 (by decide) ?_
    exact e_reti m_X3_has dX3_has_17 (Or.inr ⟨rfl, by decide⟩)
  · have q1 := c_lt' q1
    refine e_iload_n m_X3_has dX3_has_4 rfl rfl ?_
    refine e_aload_n m_X3_has dX3_has_5 rfl rfl rfl ?_
    refine e_getf m_X3_has dX3_has_6 f_RX3_34 qg3 rfl ?_
    refine e_icmp (t := 16) m_X3_has dX3_has_9 (by decide) (fun q2 => ?_) (fun q2 => ?_)
    · have q2 := c_ge q2
      refine e_iconst (v := 0) m_X3_has dX3_has_16 (by decide) ?_
      exact e_reti m_X3_has dX3_has_17 (Or.inr ⟨rfl, by decide⟩)
    · have q2 := c_ge' q2
      refine e_iconst (v := 1) m_X3_has dX3_has_12 (by decide) ?_
      refine e_goto (t := 17) m_X3_has dX3_has_13 (by decide) ?_
      exact absurd (Int32.not_lt.mp q1) q2
theorem t_node {xs : Nat → Int32} {L d : Nat} {cnt us th ct md nd td at' dp wr rw : Int32} {kf kg fW fT fP fF fL fN gD gN gT : Nat → Int32} {t : mm_H} {k w : Int32} (hd : 8 ≤ d) : Rn xs L d 116 [.ref 0, .int k, .int w] (qh cnt kf us 0 th ct md nd td at' dp wr rw kg fW fT fP fF fL fN gD gN gT t) (.inr "java/util/NoSuchElementException", qh cnt kf us 0 th ct md nd td at' dp wr rw kg fW fT fP fF fL fN gD gN gT t, 1, 6) := by
  unfold Rn
  refine e_aload_n m_X5_node dX5_node_0 rfl rfl rfl ?_
  refine e_getf m_X5_node dX5_node_1 f_RX5_19 qg0 rfl ?_
  refine e_iload_n m_X5_node dX5_node_4 rfl rfl ?_
  refine e_cv (as := [.int k]) m_X5_node dX5_node_5 c_RX5_66 (by decide) rfl rfl qg3 rfl (Nat.le_of_ble_eq_true rfl) (Nat.le_of_ble_eq_true rfl) (by omega) (t_has) ?_
  refine e_ifF (t := 21) m_X5_node dX5_node_8 (by decide) (by decide) ?_
  exact e_thr m_X5_node dX5_node_11 (by decide +kernel) (by decide +kernel : mm_X RX5 69 = some (RX5, 69, "java/util/NoSuchElementException", 817)) dX5_node_14 dX5_node_15 dX5_node_17 dX5_node_20 (List.mem_cons_of_mem _ List.mem_cons_self) (Nat.zero_le _) (by omega)
theorem t_child {xs : Nat → Int32} {L d : Nat} {cnt us th ct md nd td at' dp wr rw : Int32} {kf kg fW fT fP fF fL fN gD gN gT : Nat → Int32} {t : mm_H} {k w : Int32} (hd : 8 ≤ d) : Rn xs L d 122 [.ref 0, .int k, .int w] (qh cnt kf us 0 th ct md nd td at' dp wr rw kg fW fT fP fF fL fN gD gN gT t) (.inr "java/util/NoSuchElementException", qh cnt kf us 0 th ct md nd td at' dp wr rw kg fW fT fP fF fL fN gD gN gT t, 1, 6) := by
  unfold Rn
  refine e_aload_n m_X5_child dX5_child_0 rfl rfl rfl ?_
  refine e_getf m_X5_child dX5_child_1 f_RX5_19 qg0 rfl ?_
  refine e_iload_n m_X5_child dX5_child_4 rfl rfl ?_
  refine e_cv (as := [.int k]) m_X5_child dX5_child_5 c_RX5_66 (by decide) rfl rfl qg3 rfl (Nat.le_of_ble_eq_true rfl) (Nat.le_of_ble_eq_true rfl) (by omega) (t_has) ?_
  refine e_ifT (t := 27) m_X5_child dX5_child_8 (by decide) (by decide) ?_
  exact e_thr m_X5_child dX5_child_27 (by decide +kernel) (by decide +kernel : mm_X RX5 69 = some (RX5, 69, "java/util/NoSuchElementException", 817)) dX5_child_30 dX5_child_31 dX5_child_33 dX5_child_36 (List.mem_cons_of_mem _ (List.mem_cons_of_mem _ (List.mem_cons_of_mem _ List.mem_cons_self))) (Nat.zero_le _) (by omega)
theorem u_node1 {xs : Nat → Int32} {L d : Nat} {cnt us nb th ct md td at' dp wr rw : Int32} {kf kg fW fT fP fF fL fN gD gN gT : Nat → Int32} {t : mm_H} {k w : Int32} (q1 : k < 0) (hd : 2 ≤ d) : Rn xs L d 221 [.ref 10, .int k, .int w] (qh cnt kf us nb th ct md 0 td at' dp wr rw kg fW fT fP fF fL fN gD gN gT t) (.inl (some (.int 0)), qh cnt kf us nb 1 ct md 0 td at' dp wr rw kg fW fT fP fF fL fN gD gN gT t, 0, 0) := by
  unfold Rn
  refine e_aload_n m_X6_node dX6_node_0 rfl rfl rfl ?_
  refine e_iconst (v := 0) m_X6_node dX6_node_1 (by decide) ?_
  refine e_putf (h' := qh cnt kf us nb 0 ct md 0 td at' dp wr rw kg fW fT fP fF fL fN gD gN gT t) m_X6_node dX6_node_2 f_RX6_64 qg10 (Nat.le_of_ble_eq_true rfl) (fit_i rfl) rfl rfl ?_
  refine e_iload_n m_X6_node dX6_node_5 rfl rfl ?_
  refine e_ifT (t := 26) m_X6_node dX6_node_6 (by decide) (decide_eq_true q1) ?_
  refine e_aload_n m_X6_node dX6_node_26 rfl rfl rfl ?_
  refine e_cv (as := []) m_X6_node dX6_node_27 c_RX6_375 (by decide) rfl rfl qg10 rfl (Nat.le_of_ble_eq_true rfl) (Nat.le_of_ble_eq_true rfl) (by omega) (u_fail (by omega)) ?_
  exact e_reti m_X6_node dX6_node_30 (Or.inl rfl)
theorem u_node2 {xs : Nat → Int32} {L d : Nat} {cnt us nb th ct md td at' dp wr rw : Int32} {kf kg fW fT fP fF fL fN gD gN gT : Nat → Int32} {t : mm_H} {k w : Int32} (q1 : ¬ k < 0) (hd : 2 ≤ d) : Rn xs L d 221 [.ref 10, .int k, .int w] (qh cnt kf us nb th ct md 0 td at' dp wr rw kg fW fT fP fF fL fN gD gN gT t) (.inl (some (.int 0)), qh cnt kf us nb 1 ct md 0 td at' dp wr rw kg fW fT fP fF fL fN gD gN gT t, 0, 0) := by
  unfold Rn
  refine e_aload_n m_X6_node dX6_node_0 rfl rfl rfl ?_
  refine e_iconst (v := 0) m_X6_node dX6_node_1 (by decide) ?_
  refine e_putf (h' := qh cnt kf us nb 0 ct md 0 td at' dp wr rw kg fW fT fP fF fL fN gD gN gT t) m_X6_node dX6_node_2 f_RX6_64 qg10 (Nat.le_of_ble_eq_true rfl) (fit_i rfl) rfl rfl ?_
  refine e_iload_n m_X6_node dX6_node_5 rfl rfl ?_
  refine e_ifF (t := 26) m_X6_node dX6_node_6 (by decide) (decide_eq_false q1) ?_
  refine e_iload_n m_X6_node dX6_node_9 rfl rfl ?_
  refine e_aload_n m_X6_node dX6_node_10 rfl rfl rfl ?_
  refine e_getf m_X6_node dX6_node_11 f_RX6_366 qg10 rfl ?_
  refine e_icT (t := 26) m_X6_node dX6_node_14 (by decide) (decide_eq_true (Int32.not_lt.mp q1)) ?_
  refine e_aload_n m_X6_node dX6_node_26 rfl rfl rfl ?_
  refine e_cv (as := []) m_X6_node dX6_node_27 c_RX6_375 (by decide) rfl rfl qg10 rfl (Nat.le_of_ble_eq_true rfl) (Nat.le_of_ble_eq_true rfl) (by omega) (u_fail (by omega)) ?_
  exact e_reti m_X6_node dX6_node_30 (Or.inl rfl)
theorem u_node {xs : Nat → Int32} {L d : Nat} {cnt us nb th ct md td at' dp wr rw : Int32} {kf kg fW fT fP fF fL fN gD gN gT : Nat → Int32} {t : mm_H} {k w : Int32} (hd : 2 ≤ d) : Rn xs L d 221 [.ref 10, .int k, .int w] (qh cnt kf us nb th ct md 0 td at' dp wr rw kg fW fT fP fF fL fN gD gN gT t) (.inl (some (.int 0)), qh cnt kf us nb 1 ct md 0 td at' dp wr rw kg fW fT fP fF fL fN gD gN gT t, 0, 0) := by
  by_cases q1 : k < 0
  · exact u_node1 q1 hd
  · exact u_node2 q1 hd
theorem u_child1 {xs : Nat → Int32} {L d : Nat} {cnt us nb th ct md td at' dp wr rw : Int32} {kf kg fW fT fP fF fL fN gD gN gT : Nat → Int32} {t : mm_H} {k w : Int32} (q1 : k < 0) (hd : 2 ≤ d) : Rn xs L d 223 [.ref 10, .int k, .int w] (qh cnt kf us nb th ct md 0 td at' dp wr rw kg fW fT fP fF fL fN gD gN gT t) (.inl (some (.int 0)), qh cnt kf us nb 1 ct md 0 td at' dp wr rw kg fW fT fP fF fL fN gD gN gT t, 0, 0) := by
  unfold Rn
  refine e_aload_n m_X6_child_ dX6_child__0 rfl rfl rfl ?_
  refine e_iconst (v := 0) m_X6_child_ dX6_child__1 (by decide) ?_
  refine e_putf (h' := qh cnt kf us nb 0 ct md 0 td at' dp wr rw kg fW fT fP fF fL fN gD gN gT t) m_X6_child_ dX6_child__2 f_RX6_64 qg10 (Nat.le_of_ble_eq_true rfl) (fit_i rfl) rfl rfl ?_
  refine e_iload_n m_X6_child_ dX6_child__5 rfl rfl ?_
  refine e_ifT (t := 21) m_X6_child_ dX6_child__6 (by decide) (decide_eq_true q1) ?_
  refine e_aload_n m_X6_child_ dX6_child__21 rfl rfl rfl ?_
  refine e_cv (as := []) m_X6_child_ dX6_child__22 c_RX6_375 (by decide) rfl rfl qg10 rfl (Nat.le_of_ble_eq_true rfl) (Nat.le_of_ble_eq_true rfl) (by omega) (u_fail (by omega)) ?_
  exact e_reti m_X6_child_ dX6_child__25 (Or.inl rfl)
theorem u_child2 {xs : Nat → Int32} {L d : Nat} {cnt us nb th ct md td at' dp wr rw : Int32} {kf kg fW fT fP fF fL fN gD gN gT : Nat → Int32} {t : mm_H} {k w : Int32} (q1 : ¬ k < 0) (hd : 2 ≤ d) : Rn xs L d 223 [.ref 10, .int k, .int w] (qh cnt kf us nb th ct md 0 td at' dp wr rw kg fW fT fP fF fL fN gD gN gT t) (.inl (some (.int 0)), qh cnt kf us nb 1 ct md 0 td at' dp wr rw kg fW fT fP fF fL fN gD gN gT t, 0, 0) := by
  unfold Rn
  refine e_aload_n m_X6_child_ dX6_child__0 rfl rfl rfl ?_
  refine e_iconst (v := 0) m_X6_child_ dX6_child__1 (by decide) ?_
  refine e_putf (h' := qh cnt kf us nb 0 ct md 0 td at' dp wr rw kg fW fT fP fF fL fN gD gN gT t) m_X6_child_ dX6_child__2 f_RX6_64 qg10 (Nat.le_of_ble_eq_true rfl) (fit_i rfl) rfl rfl ?_
  refine e_iload_n m_X6_child_ dX6_child__5 rfl rfl ?_
  refine e_ifF (t := 21) m_X6_child_ dX6_child__6 (by decide) (decide_eq_false q1) ?_
  refine e_iload_n m_X6_child_ dX6_child__9 rfl rfl ?_
  refine e_aload_n m_X6_child_ dX6_child__10 rfl rfl rfl ?_
  refine e_getf m_X6_child_ dX6_child__11 f_RX6_366 qg10 rfl ?_
  refine e_icT (t := 21) m_X6_child_ dX6_child__14 (by decide) (decide_eq_true (Int32.not_lt.mp q1)) ?_
  refine e_aload_n m_X6_child_ dX6_child__21 rfl rfl rfl ?_
  refine e_cv (as := []) m_X6_child_ dX6_child__22 c_RX6_375 (by decide) rfl rfl qg10 rfl (Nat.le_of_ble_eq_true rfl) (Nat.le_of_ble_eq_true rfl) (by omega) (u_fail (by omega)) ?_
  exact e_reti m_X6_child_ dX6_child__25 (Or.inl rfl)
theorem u_child {xs : Nat → Int32} {L d : Nat} {cnt us nb th ct md td at' dp wr rw : Int32} {kf kg fW fT fP fF fL fN gD gN gT : Nat → Int32} {t : mm_H} {k w : Int32} (hd : 2 ≤ d) : Rn xs L d 223 [.ref 10, .int k, .int w] (qh cnt kf us nb th ct md 0 td at' dp wr rw kg fW fT fP fF fL fN gD gN gT t) (.inl (some (.int 0)), qh cnt kf us nb 1 ct md 0 td at' dp wr rw kg fW fT fP fF fL fN gD gN gT t, 0, 0) := by
  by_cases q1 : k < 0
  · exact u_child1 q1 hd
  · exact u_child2 q1 hd
theorem l_node {xs : Nat → Int32} {L d : Nat} {cnt us th ct md nd td at' dp wr rw : Int32} {kf kg fW fT fP fF fL fN gD gN gT : Nat → Int32} {t : mm_H} {k w : Int32} (hd : 9 ≤ d) : Rn xs L d 115 [.ref 0, .int k, .int w, .ref 28] (qh cnt kf us 0 th ct md nd td at' dp wr rw kg fW fT fP fF fL fN gD gN gT t) (.inl (some (.int 1)), qh cnt kf us 0 th ct md nd td at' dp wr rw kg fW fT fP fF fL fN gD gN gT t, 1, 6) := by
  unfold Rn
  refine z_aload_n y_L_node dL_node_0 rfl rfl rfl ?_
  refine z_iconst (v := 0) y_L_node dL_node_1 (by decide) ?_
  refine z_aload_n y_L_node dL_node_2 rfl rfl rfl ?_
  refine z_iload_n y_L_node dL_node_3 rfl rfl ?_
  refine z_iload_n y_L_node dL_node_4 rfl rfl ?_
  refine z_cvC (pc' := 15) (k := 4) (as := [.int k, .int w]) (rfl : mm_all[115]? = some _) dL_node_5 c_RL_7 (by decide) rfl rfl qg0 rfl (Nat.le_of_ble_eq_true rfl) (Nat.le_of_ble_eq_true rfl) (by omega) (by decide) (by decide +kernel) (t_node (by omega)) ?_
  refine z_iconst (v := 1) y_L_node dL_node_15 (by decide) ?_
  exact z_reti y_L_node dL_node_16 (Or.inl rfl)
theorem l_child {xs : Nat → Int32} {L d : Nat} {cnt us th ct md nd td at' dp wr rw : Int32} {kf kg fW fT fP fF fL fN gD gN gT : Nat → Int32} {t : mm_H} {k w : Int32} (hd : 9 ≤ d) : Rn xs L d 121 [.ref 0, .int k, .int w, .ref 28] (qh cnt kf us 0 th ct md nd td at' dp wr rw kg fW fT fP fF fL fN gD gN gT t) (.inl (some (.int 1)), qh cnt kf us 0 th ct md nd td at' dp wr rw kg fW fT fP fF fL fN gD gN gT t, 1, 6) := by
  unfold Rn
  refine z_aload_n y_L_child dL_child_0 rfl rfl rfl ?_
  refine z_iconst (v := 0) y_L_child dL_child_1 (by decide) ?_
  refine z_aload_n y_L_child dL_child_2 rfl rfl rfl ?_
  refine z_iload_n y_L_child dL_child_3 rfl rfl ?_
  refine z_iload_n y_L_child dL_child_4 rfl rfl ?_
  refine z_cvC (pc' := 15) (k := 4) (as := [.int k, .int w]) (rfl : mm_all[121]? = some _) dL_child_5 c_RL_15 (by decide) rfl rfl qg0 rfl (Nat.le_of_ble_eq_true rfl) (Nat.le_of_ble_eq_true rfl) (by omega) (by decide) (by decide +kernel) (t_child (by omega)) ?_
  refine z_iconst (v := 1) y_L_child dL_child_15 (by decide) ?_
  exact z_reti y_L_child dL_child_16 (Or.inl rfl)
