/-! The primitives of the parser and of the tree. -/
def b_X3_spanPutAt (K : Nat → Nat) (N : Nat) (x1 : Nat) (s : Ss) : Rs Ss := ck (x1 < 2147483648) (ifl x1 N (ck (x1 < N) (okR (s_r3 s x1) s)) (okR 0 s))
theorem w_X3_spanPutAt {xs : Nat → Int32} {L : Nat} {h0 : mm_H} {a p N cnt : Nat} {ks : Nat → Nat} (G : Cg h0 a p N cnt ks) {x1 : Nat} {s : Ss} {d : Nat} (hd : 10 ≤ d) (hN : b_X3_spanPutAt (kA cnt ks) N x1 s ≠ none) : Rn xs L d 21 [.ref 3, .int (nI x1)] (TC h0 a p N cnt ks s) (ou eN (TC h0 a p N cnt ks) (b_X3_spanPutAt (kA cnt ks) N x1 s)) := by
  unfold Rn
  unfold b_X3_spanPutAt at hN ⊢
  refine e_iload_n m_X3_spanPutAt dX3_spanPutAt_0 rfl rfl ?_
  refine e_ck hN (fun q1 hN => ?_)
  refine e_ifF (t := 22) m_X3_spanPutAt dX3_spanPutAt_1 (by decide) (n_nlt q1) ?_
  refine e_iload_n m_X3_spanPutAt dX3_spanPutAt_4 rfl rfl ?_
  refine e_aload_n m_X3_spanPutAt dX3_spanPutAt_5 rfl rfl rfl ?_
  refine e_getf m_X3_spanPutAt dX3_spanPutAt_6 f_RX3_18 (gC_r G.1) rfl ?_
  refine e_alen m_X3_spanPutAt dX3_spanPutAt_9 (gC_3 G.1) (by decide) ?_
  refine e_ige (t := 22) (a := x1) (b := N) hN m_X3_spanPutAt dX3_spanPutAt_10 (by decide) (fun q2 hN => ?_) (fun q2 hN => ?_)
  · refine e_aload_n m_X3_spanPutAt dX3_spanPutAt_13 rfl rfl rfl ?_
    refine e_getf m_X3_spanPutAt dX3_spanPutAt_14 f_RX3_18 (gC_r G.1) rfl ?_
    refine e_iload_n m_X3_spanPutAt dX3_spanPutAt_17 rfl rfl ?_
    refine e_ck hN (fun q3 hN => ?_)
    refine e_aldN q3 G.2.1 (Or.inl ⟨rfl, rfl⟩) m_X3_spanPutAt dX3_spanPutAt_18 (gC_3 G.1) ?_
    refine e_goto (t := 23) m_X3_spanPutAt dX3_spanPutAt_19 (by decide) ?_
    exact e_reti m_X3_spanPutAt dX3_spanPutAt_23 (Or.inl rfl)
  · refine e_iconst (v := nI 0) m_X3_spanPutAt dX3_spanPutAt_22 (by decide) ?_
    exact e_reti m_X3_spanPutAt dX3_spanPutAt_23 (Or.inl rfl)

def lp_X3_put_28 (K : Nat → Nat) (N : Nat) : Nat → Nat → Nat → Nat → Nat → Nat → Nat → Ss → Rs Ss
  | 0, _, _, _, _, _, _, _ => none
  | f + 1, y1, y2, y3, y4, y5, y6, s => ifl y6 y3 (ck (y5 ≤ y4) (bn (b_X3_spanPutAt K N (y4 - y5) s) (fun v12 s12 => lp_X3_put_28 K N f y1 y2 y3 y4 (y5 + v12) (y6 + 1) s12))) (ck (y4 < N) (ck (y4 < N) (ck (y4 < N) (ck (y4 < N) (okR 0 (u_us (u_r4 (u_r3 (u_r2 (u_r1 s (upN (s_r1 s) y4 y1)) (upN (s_r2 (u_r1 s (upN (s_r1 s) y4 y1))) y4 y2)) (upN (s_r3 (u_r2 (u_r1 s (upN (s_r1 s) y4 y1)) (upN (s_r2 (u_r1 s (upN (s_r1 s) y4 y1))) y4 y2))) y4 y5)) (upN (s_r4 (u_r3 (u_r2 (u_r1 s (upN (s_r1 s) y4 y1)) (upN (s_r2 (u_r1 s (upN (s_r1 s) y4 y1))) y4 y2)) (upN (s_r3 (u_r2 (u_r1 s (upN (s_r1 s) y4 y1)) (upN (s_r2 (u_r1 s (upN (s_r1 s) y4 y1))) y4 y2))) y4 y5))) y4 y3)) ((s_us (u_r4 (u_r3 (u_r2 (u_r1 s (upN (s_r1 s) y4 y1)) (upN (s_r2 (u_r1 s (upN (s_r1 s) y4 y1))) y4 y2)) (upN (s_r3 (u_r2 (u_r1 s (upN (s_r1 s) y4 y1)) (upN (s_r2 (u_r1 s (upN (s_r1 s) y4 y1))) y4 y2))) y4 y5)) (upN (s_r4 (u_r3 (u_r2 (u_r1 s (upN (s_r1 s) y4 y1)) (upN (s_r2 (u_r1 s (upN (s_r1 s) y4 y1))) y4 y2)) (upN (s_r3 (u_r2 (u_r1 s (upN (s_r1 s) y4 y1)) (upN (s_r2 (u_r1 s (upN (s_r1 s) y4 y1))) y4 y2))) y4 y5))) y4 y3))) + 1)))))))
theorem l_X3_put_28 {xs : Nat → Int32} {L : Nat} {h0 : mm_H} {a p N cnt : Nat} {ks : Nat → Nat} (G : Cg h0 a p N cnt ks) : ∀ (f : Nat) (y1 y2 y3 y4 y5 y6 : Nat) (s : Ss) (d : Nat) (ls : mm_L) (hd : 11 ≤ d) (hl0 : mm_lk ls 0 = some (.ref 3)) (hl1 : mm_lk ls 1 = some (.int (nI y1))) (hl2 : mm_lk ls 2 = some (.int (nI y2))) (hl3 : mm_lk ls 3 = some (.int (nI y3))) (hl4 : mm_lk ls 4 = some (.int (nI y4))) (hl5 : mm_lk ls 5 = some (.int (nI y5))) (hl6 : mm_lk ls 6 = some (.int (nI y6))), lp_X3_put_28 (kA cnt ks) N f y1 y2 y3 y4 y5 y6 s ≠ none → Ev xs L d 20 28 ls [] (TC h0 a p N cnt ks s) 0 0 (ou eU (TC h0 a p N cnt ks) (lp_X3_put_28 (kA cnt ks) N f y1 y2 y3 y4 y5 y6 s)) := by
  intro f
  induction f with
  | zero => intros; rename_i hN; exact absurd rfl hN
  | succ f ih =>
    intro y1 y2 y3 y4 y5 y6 s d ls hd hl0 hl1 hl2 hl3 hl4 hl5 hl6 hN
    rw [lp_X3_put_28] at hN ⊢
    refine e_iload m_X3_put dX3_put_28 hl6 ?_
    refine e_iload_n m_X3_put dX3_put_30 rfl hl3 ?_
    refine e_ige (t := 54) (a := y6) (b := y3) hN m_X3_put dX3_put_31 (by decide) (fun q10 hN => ?_) (fun q10 hN => ?_)
    · refine e_iload m_X3_put dX3_put_34 hl5 ?_
      refine e_aload_n m_X3_put dX3_put_36 rfl hl0 rfl ?_
      refine e_iload m_X3_put dX3_put_37 hl4 ?_
      refine e_iload m_X3_put dX3_put_39 hl5 ?_
      refine e_ck hN (fun q11 hN => ?_)
      refine e_isubN q11 m_X3_put dX3_put_41 ?_
      refine e_cvN (as := [.int (nI (y4 - y5))]) hN m_X3_put dX3_put_42 c_RX3_47 (by decide) rfl rfl (gC_r G.1) rfl (Nat.le_of_ble_eq_true rfl) (Nat.le_of_ble_eq_true rfl) (by omega) (w_X3_spanPutAt G (by omega)) (fun v12 s12 hN => ?_)
      refine e_iaddN m_X3_put dX3_put_45 ?_
      refine e_istore m_X3_put dX3_put_46 (by decide) rfl ?_
      refine e_iincN (n := 1) m_X3_put dX3_put_48 (by decide) (lk_mis (by decide) rfl hl6) rfl ?_
      refine e_goto (t := 28) m_X3_put dX3_put_51 (by decide) ?_
      exact ih y1 y2 y3 y4 (y5 + v12) (y6 + 1) _ _ _ (by omega) (lk_mis (by decide) rfl (lk_mis (by decide) rfl hl0)) (lk_mis (by decide) rfl (lk_mis (by decide) rfl hl1)) (lk_mis (by decide) rfl (lk_mis (by decide) rfl hl2)) (lk_mis (by decide) rfl (lk_mis (by decide) rfl hl3)) (lk_mis (by decide) rfl (lk_mis (by decide) rfl hl4)) (lk_mis (by decide) rfl lk_hit) lk_hit hN
    · refine e_aload_n m_X3_put dX3_put_54 rfl hl0 rfl ?_
      refine e_getf m_X3_put dX3_put_55 f_RX3_11 (gC_r G.1) rfl ?_
      refine e_iload m_X3_put dX3_put_58 hl4 ?_
      refine e_iload_n m_X3_put dX3_put_60 rfl hl1 ?_
      refine e_ck hN (fun q13 hN => ?_)
      refine e_astN (v := y1) (h' := TC h0 a p N cnt ks (u_r1 s (upN (s_r1 s) y4 y1))) q13 G.2.1 m_X3_put dX3_put_61 (gC_1 G.1) (sC_1 G.1) ?_
      refine e_aload_n m_X3_put dX3_put_62 rfl hl0 rfl ?_
      refine e_getf m_X3_put dX3_put_63 f_RX3_15 (gC_r G.1) rfl ?_
      refine e_iload m_X3_put dX3_put_66 hl4 ?_
      refine e_iload_n m_X3_put dX3_put_68 rfl hl2 ?_
      refine e_ck hN (fun q14 hN => ?_)
      refine e_astN (v := y2) (h' := TC h0 a p N cnt ks (u_r2 (u_r1 s (upN (s_r1 s) y4 y1)) (upN (s_r2 (u_r1 s (upN (s_r1 s) y4 y1))) y4 y2))) q14 G.2.1 m_X3_put dX3_put_69 (gC_2 G.1) (sC_2 G.1) ?_
      refine e_aload_n m_X3_put dX3_put_70 rfl hl0 rfl ?_
      refine e_getf m_X3_put dX3_put_71 f_RX3_18 (gC_r G.1) rfl ?_
      refine e_iload m_X3_put dX3_put_74 hl4 ?_
      refine e_iload m_X3_put dX3_put_76 hl5 ?_
      refine e_ck hN (fun q15 hN => ?_)
      refine e_astN (v := y5) (h' := TC h0 a p N cnt ks (u_r3 (u_r2 (u_r1 s (upN (s_r1 s) y4 y1)) (upN (s_r2 (u_r1 s (upN (s_r1 s) y4 y1))) y4 y2)) (upN (s_r3 (u_r2 (u_r1 s (upN (s_r1 s) y4 y1)) (upN (s_r2 (u_r1 s (upN (s_r1 s) y4 y1))) y4 y2))) y4 y5))) q15 G.2.1 m_X3_put dX3_put_78 (gC_3 G.1) (sC_3 G.1) ?_
      refine e_aload_n m_X3_put dX3_put_79 rfl hl0 rfl ?_
      refine e_getf m_X3_put dX3_put_80 f_RX3_21 (gC_r G.1) rfl ?_
      refine e_iload m_X3_put dX3_put_83 hl4 ?_
      refine e_iload_n m_X3_put dX3_put_85 rfl hl3 ?_
      refine e_ck hN (fun q16 hN => ?_)
      refine e_astN (v := y3) (h' := TC h0 a p N cnt ks (u_r4 (u_r3 (u_r2 (u_r1 s (upN (s_r1 s) y4 y1)) (upN (s_r2 (u_r1 s (upN (s_r1 s) y4 y1))) y4 y2)) (upN (s_r3 (u_r2 (u_r1 s (upN (s_r1 s) y4 y1)) (upN (s_r2 (u_r1 s (upN (s_r1 s) y4 y1))) y4 y2))) y4 y5)) (upN (s_r4 (u_r3 (u_r2 (u_r1 s (upN (s_r1 s) y4 y1)) (upN (s_r2 (u_r1 s (upN (s_r1 s) y4 y1))) y4 y2)) (upN (s_r3 (u_r2 (u_r1 s (upN (s_r1 s) y4 y1)) (upN (s_r2 (u_r1 s (upN (s_r1 s) y4 y1))) y4 y2))) y4 y5))) y4 y3))) q16 G.2.1 m_X3_put dX3_put_86 (gC_4 G.1) (sC_4 G.1) ?_
      refine e_aload_n m_X3_put dX3_put_87 rfl hl0 rfl ?_
      refine e_dup m_X3_put dX3_put_88 rfl ?_
      refine e_getf m_X3_put dX3_put_89 f_RX3_30 (gC_r G.1) rfl ?_
      refine e_iconst (v := nI 1) m_X3_put dX3_put_92 (by decide) ?_
      refine e_iaddN m_X3_put dX3_put_93 ?_
      refine e_putf (v := .int (nI ((s_us (u_r4 (u_r3 (u_r2 (u_r1 s (upN (s_r1 s) y4 y1)) (upN (s_r2 (u_r1 s (upN (s_r1 s) y4 y1))) y4 y2)) (upN (s_r3 (u_r2 (u_r1 s (upN (s_r1 s) y4 y1)) (upN (s_r2 (u_r1 s (upN (s_r1 s) y4 y1))) y4 y2))) y4 y5)) (upN (s_r4 (u_r3 (u_r2 (u_r1 s (upN (s_r1 s) y4 y1)) (upN (s_r2 (u_r1 s (upN (s_r1 s) y4 y1))) y4 y2)) (upN (s_r3 (u_r2 (u_r1 s (upN (s_r1 s) y4 y1)) (upN (s_r2 (u_r1 s (upN (s_r1 s) y4 y1))) y4 y2))) y4 y5))) y4 y3))) + 1))) (h' := TC h0 a p N cnt ks (u_us (u_r4 (u_r3 (u_r2 (u_r1 s (upN (s_r1 s) y4 y1)) (upN (s_r2 (u_r1 s (upN (s_r1 s) y4 y1))) y4 y2)) (upN (s_r3 (u_r2 (u_r1 s (upN (s_r1 s) y4 y1)) (upN (s_r2 (u_r1 s (upN (s_r1 s) y4 y1))) y4 y2))) y4 y5)) (upN (s_r4 (u_r3 (u_r2 (u_r1 s (upN (s_r1 s) y4 y1)) (upN (s_r2 (u_r1 s (upN (s_r1 s) y4 y1))) y4 y2)) (upN (s_r3 (u_r2 (u_r1 s (upN (s_r1 s) y4 y1)) (upN (s_r2 (u_r1 s (upN (s_r1 s) y4 y1))) y4 y2))) y4 y5))) y4 y3)) ((s_us (u_r4 (u_r3 (u_r2 (u_r1 s (upN (s_r1 s) y4 y1)) (upN (s_r2 (u_r1 s (upN (s_r1 s) y4 y1))) y4 y2)) (upN (s_r3 (u_r2 (u_r1 s (upN (s_r1 s) y4 y1)) (upN (s_r2 (u_r1 s (upN (s_r1 s) y4 y1))) y4 y2))) y4 y5)) (upN (s_r4 (u_r3 (u_r2 (u_r1 s (upN (s_r1 s) y4 y1)) (upN (s_r2 (u_r1 s (upN (s_r1 s) y4 y1))) y4 y2)) (upN (s_r3 (u_r2 (u_r1 s (upN (s_r1 s) y4 y1)) (upN (s_r2 (u_r1 s (upN (s_r1 s) y4 y1))) y4 y2))) y4 y5))) y4 y3))) + 1))) m_X3_put dX3_put_94 f_RX3_30 (gC_r G.1) (Nat.le_of_ble_eq_true rfl) (fit_i rfl) rfl (sC_r G.1) ?_
      exact e_ret0 m_X3_put dX3_put_97
def b_X3_put (K : Nat → Nat) (N : Nat) (x1 : Nat) (x2 : Nat) (x3 : Nat) (s : Ss) : Rs Ss := ck ((s_us s) < 2147483648) (ifl (s_us s) N (lp_X3_put_28 K N LF x1 x2 x3 (s_us s) 1 0 s) (okR 0 s))
theorem w_X3_put {xs : Nat → Int32} {L : Nat} {h0 : mm_H} {a p N cnt : Nat} {ks : Nat → Nat} (G : Cg h0 a p N cnt ks) {x1 : Nat} {x2 : Nat} {x3 : Nat} {s : Ss} {d : Nat} (hd : 11 ≤ d) (hN : b_X3_put (kA cnt ks) N x1 x2 x3 s ≠ none) : Rn xs L d 20 [.ref 3, .int (nI x1), .int (nI x2), .int (nI x3)] (TC h0 a p N cnt ks s) (ou eU (TC h0 a p N cnt ks) (b_X3_put (kA cnt ks) N x1 x2 x3 s)) := by
  unfold Rn
  unfold b_X3_put at hN ⊢
  refine e_aload_n m_X3_put dX3_put_0 rfl rfl rfl ?_
  refine e_getf m_X3_put dX3_put_1 f_RX3_30 (gC_r G.1) rfl ?_
  refine e_istore m_X3_put dX3_put_4 (by decide) rfl ?_
  refine e_iload m_X3_put dX3_put_6 rfl ?_
  refine e_ck hN (fun q1 hN => ?_)
  refine e_ifF (t := 21) m_X3_put dX3_put_8 (by decide) (n_nlt q1) ?_
  refine e_iload m_X3_put dX3_put_11 rfl ?_
  refine e_aload_n m_X3_put dX3_put_13 rfl rfl rfl ?_
  refine e_getf m_X3_put dX3_put_14 f_RX3_11 (gC_r G.1) rfl ?_
  refine e_alen m_X3_put dX3_put_17 (gC_1 G.1) (by decide) ?_
  refine e_ilt (t := 22) (a := (s_us s)) (b := N) hN m_X3_put dX3_put_18 (by decide) (fun q2 hN => ?_) (fun q2 hN => ?_)
  · refine e_iconst (v := nI 1) m_X3_put dX3_put_22 (by decide) ?_
    refine e_istore m_X3_put dX3_put_23 (by decide) rfl ?_
    refine e_iconst (v := nI 0) m_X3_put dX3_put_25 (by decide) ?_
    refine e_istore m_X3_put dX3_put_26 (by decide) rfl ?_
    exact l_X3_put_28 G LF x1 x2 x3 (s_us s) 1 0 _ _ _ (by omega) rfl rfl rfl rfl rfl rfl rfl hN
  · exact e_ret0 m_X3_put dX3_put_21

def b_X1_accept (K : Nat → Nat) (N : Nat) (x1 : Nat) (s : Ss) : Rs Ss := bn (q_sees K x1 s) (fun v1 s1 => ifz v1 (ck (v1 < 2) (okR v1 s1)) (bn (q_take s1) (fun v4 s4 => ck (v1 < 2) (okR v1 s4))))
theorem w_X1_accept {xs : Nat → Int32} {L : Nat} {h0 : mm_H} {a p N cnt : Nat} {ks : Nat → Nat} (G : Cg h0 a p N cnt ks) {x1 : Nat} {s : Ss} {d : Nat} (hd : 11 ≤ d) (hN : b_X1_accept (kA cnt ks) N x1 s ≠ none) : Rn xs L d 39 [.ref p, .int (nI x1)] (TC h0 a p N cnt ks s) (ou eN (TC h0 a p N cnt ks) (b_X1_accept (kA cnt ks) N x1 s)) := by
  unfold Rn
  unfold b_X1_accept at hN ⊢
  refine e_aload_n m_X1_accept dX1_accept_0 rfl rfl rfl ?_
  refine e_iload_n m_X1_accept dX1_accept_1 rfl rfl ?_
  refine e_cvN (as := [.int (nI x1)]) hN m_X1_accept dX1_accept_2 c_RX1_46 (by decide) rfl rfl (gC_p G.1) rfl (Nat.le_of_ble_eq_true rfl) (Nat.le_of_ble_eq_true rfl) (by omega) (t_sees G (by omega)) (fun v1 s1 hN => ?_)
  refine e_istore_n m_X1_accept dX1_accept_5 rfl (by decide) rfl ?_
  refine e_iload_n m_X1_accept dX1_accept_6 rfl rfl ?_
  refine e_ifeq (t := 15) hN m_X1_accept dX1_accept_7 (by decide) (fun q2 hN => ?_) (fun q2 hN => ?_)
  · refine e_iload_n m_X1_accept dX1_accept_15 rfl rfl ?_
    refine e_ck hN (fun q3 hN => ?_)
    exact e_reti m_X1_accept dX1_accept_16 (Or.inr ⟨rfl, b01 q3⟩)
  · refine e_aload_n m_X1_accept dX1_accept_10 rfl rfl rfl ?_
    refine e_cvN (as := []) hN m_X1_accept dX1_accept_11 c_RX1_50 (by decide) rfl rfl (gC_p G.1) rfl (Nat.le_of_ble_eq_true rfl) (Nat.le_of_ble_eq_true rfl) (by omega) (t_take G (by omega)) (fun v4 s4 hN => ?_)
    refine e_pop m_X1_accept dX1_accept_14 rfl ?_
    refine e_iload_n m_X1_accept dX1_accept_15 rfl rfl ?_
    refine e_ck hN (fun q5 hN => ?_)
    exact e_reti m_X1_accept dX1_accept_16 (Or.inr ⟨rfl, b01 q5⟩)

def b_X1_expect (K : Nat → Nat) (N : Nat) (x1 : Nat) (s : Ss) : Rs Ss := bn (q_sees K x1 s) (fun v1 s1 => ifz v1 (erR s1) (bn (q_take s1) (fun v3 s3 => okR v3 s3)))
theorem w_X1_expect {xs : Nat → Int32} {L : Nat} {h0 : mm_H} {a p N cnt : Nat} {ks : Nat → Nat} (G : Cg h0 a p N cnt ks) {x1 : Nat} {s : Ss} {d : Nat} (hd : 11 ≤ d) (hN : b_X1_expect (kA cnt ks) N x1 s ≠ none) : Rn xs L d 15 [.ref p, .int (nI x1)] (TC h0 a p N cnt ks s) (ou eN (TC h0 a p N cnt ks) (b_X1_expect (kA cnt ks) N x1 s)) := by
  unfold Rn
  unfold b_X1_expect at hN ⊢
  refine e_aload_n m_X1_expect dX1_expect_0 rfl rfl rfl ?_
  refine e_iload_n m_X1_expect dX1_expect_1 rfl rfl ?_
  refine e_cvN (as := [.int (nI x1)]) hN m_X1_expect dX1_expect_2 c_RX1_46 (by decide) rfl rfl (gC_p G.1) rfl (Nat.le_of_ble_eq_true rfl) (Nat.le_of_ble_eq_true rfl) (by omega) (t_sees G (by omega)) (fun v1 s1 hN => ?_)
  refine e_ifne (t := 12) hN m_X1_expect dX1_expect_5 (by decide) (fun q2 hN => ?_) (fun q2 hN => ?_)
  · refine e_aload_n m_X1_expect dX1_expect_8 rfl rfl rfl ?_
    exact e_cvX (as := []) m_X1_expect dX1_expect_9 c_RX1_54 (by decide) rfl rfl (gC_p G.1) rfl (Nat.le_of_ble_eq_true rfl) (Nat.le_of_ble_eq_true rfl) (by omega) (r_refuse (by omega))
  · refine e_aload_n m_X1_expect dX1_expect_12 rfl rfl rfl ?_
    refine e_cvN (as := []) hN m_X1_expect dX1_expect_13 c_RX1_50 (by decide) rfl rfl (gC_p G.1) rfl (Nat.le_of_ble_eq_true rfl) (Nat.le_of_ble_eq_true rfl) (by omega) (t_take G (by omega)) (fun v3 s3 hN => ?_)
    exact e_reti m_X1_expect dX1_expect_16 (Or.inl rfl)

def b_X1_openPart (K : Nat → Nat) (N : Nat) (s : Ss) : Rs Ss := ifl (s_op s) 30 (okR 0 (u_op s ((s_op s) + 1))) (erR s)
theorem w_X1_openPart {xs : Nat → Int32} {L : Nat} {h0 : mm_H} {a p N cnt : Nat} {ks : Nat → Nat} (G : Cg h0 a p N cnt ks) {s : Ss} {d : Nat} (hd : 11 ≤ d) (hN : b_X1_openPart (kA cnt ks) N s ≠ none) : Rn xs L d 25 [.ref p] (TC h0 a p N cnt ks s) (ou eU (TC h0 a p N cnt ks) (b_X1_openPart (kA cnt ks) N s)) := by
  unfold Rn
  unfold b_X1_openPart at hN ⊢
  refine e_aload_n m_X1_openPart dX1_openPart_0 rfl rfl rfl ?_
  refine e_getf m_X1_openPart dX1_openPart_1 f_RX1_57 (gC_p G.1) rfl ?_
  refine e_bipush (v := nI 30) m_X1_openPart dX1_openPart_4 (by decide) ?_
  refine e_ilt (t := 13) (a := (s_op s)) (b := 30) hN m_X1_openPart dX1_openPart_6 (by decide) (fun q1 hN => ?_) (fun q1 hN => ?_)
  · refine e_aload_n m_X1_openPart dX1_openPart_13 rfl rfl rfl ?_
    refine e_dup m_X1_openPart dX1_openPart_14 rfl ?_
    refine e_getf m_X1_openPart dX1_openPart_15 f_RX1_57 (gC_p G.1) rfl ?_
    refine e_iconst (v := nI 1) m_X1_openPart dX1_openPart_18 (by decide) ?_
    refine e_iaddN m_X1_openPart dX1_openPart_19 ?_
    refine e_putf (v := .int (nI ((s_op s) + 1))) (h' := TC h0 a p N cnt ks (u_op s ((s_op s) + 1))) m_X1_openPart dX1_openPart_20 f_RX1_57 (gC_p G.1) (Nat.le_of_ble_eq_true rfl) (fit_i rfl) rfl (sC_p G.1) ?_
    exact e_ret0 m_X1_openPart dX1_openPart_23
  · refine e_aload_n m_X1_openPart dX1_openPart_9 rfl rfl rfl ?_
    exact e_cvX (as := []) m_X1_openPart dX1_openPart_10 c_RX1_54 (by decide) rfl rfl (gC_p G.1) rfl (Nat.le_of_ble_eq_true rfl) (Nat.le_of_ble_eq_true rfl) (by omega) (r_refuse (by omega))

def b_X1_closePart (K : Nat → Nat) (N : Nat) (s : Ss) : Rs Ss := ck ((s_op s) ≠ 0) (okR 0 (u_op s ((s_op s) - 1)))
theorem w_X1_closePart {xs : Nat → Int32} {L : Nat} {h0 : mm_H} {a p N cnt : Nat} {ks : Nat → Nat} (G : Cg h0 a p N cnt ks) {s : Ss} {d : Nat} (hd : 11 ≤ d) (hN : b_X1_closePart (kA cnt ks) N s ≠ none) : Rn xs L d 41 [.ref p] (TC h0 a p N cnt ks s) (ou eU (TC h0 a p N cnt ks) (b_X1_closePart (kA cnt ks) N s)) := by
  unfold Rn
  unfold b_X1_closePart at hN ⊢
  refine e_aload_n m_X1_closePart dX1_closePart_0 rfl rfl rfl ?_
  refine e_dup m_X1_closePart dX1_closePart_1 rfl ?_
  refine e_getf m_X1_closePart dX1_closePart_2 f_RX1_57 (gC_p G.1) rfl ?_
  refine e_iconst (v := nI 1) m_X1_closePart dX1_closePart_5 (by decide) ?_
  refine e_isubO m_X1_closePart dX1_closePart_6 ?_
  refine e_ck hN (fun q1 hN => ?_)
  rw [oI_p q1]
  refine e_putf (v := .int (nI ((s_op s) - 1))) (h' := TC h0 a p N cnt ks (u_op s ((s_op s) - 1))) m_X1_closePart dX1_closePart_7 f_RX1_57 (gC_p G.1) (Nat.le_of_ble_eq_true rfl) (fit_i rfl) rfl (sC_p G.1) ?_
  exact e_ret0 m_X1_closePart dX1_closePart_10

def b_X1_await (K : Nat → Nat) (N : Nat) (x1 : Nat) (s : Ss) : Rs Ss := ck ((s_wc s) < 2147483648) (ifl (s_wc s) 155 (ck ((s_wc s) < 155) (okR 0 (u_wc (u_wf s (upN (s_wf s) (s_wc s) x1)) ((s_wc (u_wf s (upN (s_wf s) (s_wc s) x1))) + 1)))) (okR 0 s))
theorem w_X1_await {xs : Nat → Int32} {L : Nat} {h0 : mm_H} {a p N cnt : Nat} {ks : Nat → Nat} (G : Cg h0 a p N cnt ks) {x1 : Nat} {s : Ss} {d : Nat} (hd : 11 ≤ d) (hN : b_X1_await (kA cnt ks) N x1 s ≠ none) : Rn xs L d 98 [.ref p, .int (nI x1)] (TC h0 a p N cnt ks s) (ou eU (TC h0 a p N cnt ks) (b_X1_await (kA cnt ks) N x1 s)) := by
  unfold Rn
  unfold b_X1_await at hN ⊢
  refine e_aload_n m_X1_await dX1_await_0 rfl rfl rfl ?_
  refine e_getf m_X1_await dX1_await_1 f_RX1_289 (gC_p G.1) rfl ?_
  refine e_ck hN (fun q1 hN => ?_)
  refine e_ifF (t := 39) m_X1_await dX1_await_4 (by decide) (n_nlt q1) ?_
  refine e_aload_n m_X1_await dX1_await_7 rfl rfl rfl ?_
  refine e_getf m_X1_await dX1_await_8 f_RX1_289 (gC_p G.1) rfl ?_
  refine e_aload_n m_X1_await dX1_await_11 rfl rfl rfl ?_
  refine e_getf m_X1_await dX1_await_12 f_RX1_21 (gC_p G.1) rfl ?_
  refine e_alen m_X1_await dX1_await_15 (gC_w G.1) (by decide) ?_
  refine e_ige (t := 39) (a := (s_wc s)) (b := 155) hN m_X1_await dX1_await_16 (by decide) (fun q2 hN => ?_) (fun q2 hN => ?_)
  · refine e_aload_n m_X1_await dX1_await_19 rfl rfl rfl ?_
    refine e_getf m_X1_await dX1_await_20 f_RX1_21 (gC_p G.1) rfl ?_
    refine e_aload_n m_X1_await dX1_await_23 rfl rfl rfl ?_
    refine e_getf m_X1_await dX1_await_24 f_RX1_289 (gC_p G.1) rfl ?_
    refine e_iload_n m_X1_await dX1_await_27 rfl rfl ?_
    refine e_ck hN (fun q3 hN => ?_)
    refine e_astN (v := x1) (h' := TC h0 a p N cnt ks (u_wf s (upN (s_wf s) (s_wc s) x1))) q3 (by decide) m_X1_await dX1_await_28 (gC_w G.1) (sC_w G.1) ?_
    refine e_aload_n m_X1_await dX1_await_29 rfl rfl rfl ?_
    refine e_dup m_X1_await dX1_await_30 rfl ?_
    refine e_getf m_X1_await dX1_await_31 f_RX1_289 (gC_p G.1) rfl ?_
    refine e_iconst (v := nI 1) m_X1_await dX1_await_34 (by decide) ?_
    refine e_iaddN m_X1_await dX1_await_35 ?_
    refine e_putf (v := .int (nI ((s_wc (u_wf s (upN (s_wf s) (s_wc s) x1))) + 1))) (h' := TC h0 a p N cnt ks (u_wc (u_wf s (upN (s_wf s) (s_wc s) x1)) ((s_wc (u_wf s (upN (s_wf s) (s_wc s) x1))) + 1))) m_X1_await dX1_await_36 f_RX1_289 (gC_p G.1) (Nat.le_of_ble_eq_true rfl) (fit_i rfl) rfl (sC_p G.1) ?_
    exact e_ret0 m_X1_await dX1_await_39
  · exact e_ret0 m_X1_await dX1_await_39

def b_X1_isNameFrom (K : Nat → Nat) (N : Nat) (x1 : Nat) (s : Ss) : Rs Ss := ife (s_at s) (x1 + 1) (bn (q_kindAt K x1 s) (fun v2 s2 => ife v2 1 (okR 1 s2) (okR 0 s2))) (okR 0 s)
theorem w_X1_isNameFrom {xs : Nat → Int32} {L : Nat} {h0 : mm_H} {a p N cnt : Nat} {ks : Nat → Nat} (G : Cg h0 a p N cnt ks) {x1 : Nat} {s : Ss} {d : Nat} (hd : 11 ≤ d) (hN : b_X1_isNameFrom (kA cnt ks) N x1 s ≠ none) : Rn xs L d 64 [.ref p, .int (nI x1)] (TC h0 a p N cnt ks s) (ou eN (TC h0 a p N cnt ks) (b_X1_isNameFrom (kA cnt ks) N x1 s)) := by
  unfold Rn
  unfold b_X1_isNameFrom at hN ⊢
  refine e_aload_n m_X1_isNameFrom dX1_isNameFrom_0 rfl rfl rfl ?_
  refine e_getf m_X1_isNameFrom dX1_isNameFrom_1 f_RX1_43 (gC_p G.1) rfl ?_
  refine e_iload_n m_X1_isNameFrom dX1_isNameFrom_4 rfl rfl ?_
  refine e_iconst (v := nI 1) m_X1_isNameFrom dX1_isNameFrom_5 (by decide) ?_
  refine e_iaddN m_X1_isNameFrom dX1_isNameFrom_6 ?_
  refine e_ine (t := 26) (a := (s_at s)) (b := (x1 + 1)) hN m_X1_isNameFrom dX1_isNameFrom_7 (by decide) (fun q1 hN => ?_) (fun q1 hN => ?_)
  · refine e_aload_n m_X1_isNameFrom dX1_isNameFrom_10 rfl rfl rfl ?_
    refine e_getf m_X1_isNameFrom dX1_isNameFrom_11 f_RX1_11 (gC_p G.1) rfl ?_
    refine e_iload_n m_X1_isNameFrom dX1_isNameFrom_14 rfl rfl ?_
    refine e_cvN (as := [.int (nI x1)]) hN m_X1_isNameFrom dX1_isNameFrom_15 c_RX1_29 (by decide) rfl rfl (gC_t G.1) rfl (Nat.le_of_ble_eq_true rfl) (Nat.le_of_ble_eq_true rfl) (by omega) (t_kindAt G (by omega)) (fun v2 s2 hN => ?_)
    refine e_iconst (v := nI 1) m_X1_isNameFrom dX1_isNameFrom_18 (by decide) ?_
    refine e_ine (t := 26) (a := v2) (b := 1) hN m_X1_isNameFrom dX1_isNameFrom_19 (by decide) (fun q3 hN => ?_) (fun q3 hN => ?_)
    · refine e_iconst (v := nI 1) m_X1_isNameFrom dX1_isNameFrom_22 (by decide) ?_
      refine e_goto (t := 27) m_X1_isNameFrom dX1_isNameFrom_23 (by decide) ?_
      exact e_reti m_X1_isNameFrom dX1_isNameFrom_27 (Or.inr ⟨rfl, by decide⟩)
    · refine e_iconst (v := nI 0) m_X1_isNameFrom dX1_isNameFrom_26 (by decide) ?_
      exact e_reti m_X1_isNameFrom dX1_isNameFrom_27 (Or.inr ⟨rfl, by decide⟩)
  · refine e_iconst (v := nI 0) m_X1_isNameFrom dX1_isNameFrom_26 (by decide) ?_
    exact e_reti m_X1_isNameFrom dX1_isNameFrom_27 (Or.inr ⟨rfl, by decide⟩)

def b_X1_seesUnarySign (K : Nat → Nat) (N : Nat) (s : Ss) : Rs Ss := bn (q_sees K 64 s) (fun v1 s1 => ifz v1 (ck ((K (s_at s1)) < 2147483648) (ifz (f_X0_isUnarySign (K (s_at s1))) (okR 0 s1) (okR 1 s1))) (bn (q_nextKind K s1) (fun v5 s5 => ife v5 12 (ck ((K (s_at s5)) < 2147483648) (ifz (f_X0_isUnarySign (K (s_at s5))) (okR 0 s5) (okR 0 s5))) (ck ((K (s_at s5)) < 2147483648) (ifz (f_X0_isUnarySign (K (s_at s5))) (okR 0 s5) (okR 1 s5))))))
theorem w_X1_seesUnarySign {xs : Nat → Int32} {L : Nat} {h0 : mm_H} {a p N cnt : Nat} {ks : Nat → Nat} (G : Cg h0 a p N cnt ks) {s : Ss} {d : Nat} (hd : 11 ≤ d) (hN : b_X1_seesUnarySign (kA cnt ks) N s ≠ none) : Rn xs L d 31 [.ref p] (TC h0 a p N cnt ks s) (ou eN (TC h0 a p N cnt ks) (b_X1_seesUnarySign (kA cnt ks) N s)) := by
  unfold Rn
  unfold b_X1_seesUnarySign at hN ⊢
  refine e_aload_n m_X1_seesUnarySign dX1_seesUnarySign_0 rfl rfl rfl ?_
  refine e_bipush (v := nI 64) m_X1_seesUnarySign dX1_seesUnarySign_1 (by decide) ?_
  refine e_cvN (as := [.int (nI 64)]) hN m_X1_seesUnarySign dX1_seesUnarySign_3 c_RX1_46 (by decide) rfl rfl (gC_p G.1) rfl (Nat.le_of_ble_eq_true rfl) (Nat.le_of_ble_eq_true rfl) (by omega) (t_sees G (by omega)) (fun v1 s1 hN => ?_)
  refine e_ifeq (t := 22) hN m_X1_seesUnarySign dX1_seesUnarySign_6 (by decide) (fun q2 hN => ?_) (fun q2 hN => ?_)
  · refine e_iconst (v := nI 0) m_X1_seesUnarySign dX1_seesUnarySign_22 (by decide) ?_
    refine e_istore_n m_X1_seesUnarySign dX1_seesUnarySign_23 rfl (by decide) rfl ?_
    refine e_aload_n m_X1_seesUnarySign dX1_seesUnarySign_24 rfl rfl rfl ?_
    refine e_getf m_X1_seesUnarySign dX1_seesUnarySign_25 f_RX1_33 (gC_p G.1) rfl ?_
    refine e_ck hN (fun q3 hN => ?_)
    refine e_cs (as := [_]) m_X1_seesUnarySign dX1_seesUnarySign_28 c_RX1_307 (by decide) rfl rfl (Nat.le_of_ble_eq_true rfl) (Nat.le_of_ble_eq_true rfl) (by omega) (z_X0_isUnarySign q3 (by omega)) ?_
    refine e_ifeq (t := 42) hN m_X1_seesUnarySign dX1_seesUnarySign_31 (by decide) (fun q4 hN => ?_) (fun q4 hN => ?_)
    · refine e_iconst (v := nI 0) m_X1_seesUnarySign dX1_seesUnarySign_42 (by decide) ?_
      exact e_reti m_X1_seesUnarySign dX1_seesUnarySign_43 (Or.inr ⟨rfl, by decide⟩)
    · refine e_iload_n m_X1_seesUnarySign dX1_seesUnarySign_34 rfl rfl ?_
      refine e_ifF (t := 42) m_X1_seesUnarySign dX1_seesUnarySign_35 (by decide) (by decide) ?_
      refine e_iconst (v := nI 1) m_X1_seesUnarySign dX1_seesUnarySign_38 (by decide) ?_
      refine e_goto (t := 43) m_X1_seesUnarySign dX1_seesUnarySign_39 (by decide) ?_
      exact e_reti m_X1_seesUnarySign dX1_seesUnarySign_43 (Or.inr ⟨rfl, by decide⟩)
  · refine e_aload_n m_X1_seesUnarySign dX1_seesUnarySign_9 rfl rfl rfl ?_
    refine e_cvN (as := []) hN m_X1_seesUnarySign dX1_seesUnarySign_10 c_RX1_147 (by decide) rfl rfl (gC_p G.1) rfl (Nat.le_of_ble_eq_true rfl) (Nat.le_of_ble_eq_true rfl) (by omega) (t_nextKind G (by omega)) (fun v5 s5 hN => ?_)
    refine e_bipush (v := nI 12) m_X1_seesUnarySign dX1_seesUnarySign_13 (by decide) ?_
    refine e_ine (t := 22) (a := v5) (b := 12) hN m_X1_seesUnarySign dX1_seesUnarySign_15 (by decide) (fun q6 hN => ?_) (fun q6 hN => ?_)
    · refine e_iconst (v := nI 1) m_X1_seesUnarySign dX1_seesUnarySign_18 (by decide) ?_
      refine e_goto (t := 23) m_X1_seesUnarySign dX1_seesUnarySign_19 (by decide) ?_
      refine e_istore_n m_X1_seesUnarySign dX1_seesUnarySign_23 rfl (by decide) rfl ?_
      refine e_aload_n m_X1_seesUnarySign dX1_seesUnarySign_24 rfl rfl rfl ?_
      refine e_getf m_X1_seesUnarySign dX1_seesUnarySign_25 f_RX1_33 (gC_p G.1) rfl ?_
      refine e_ck hN (fun q7 hN => ?_)
      refine e_cs (as := [_]) m_X1_seesUnarySign dX1_seesUnarySign_28 c_RX1_307 (by decide) rfl rfl (Nat.le_of_ble_eq_true rfl) (Nat.le_of_ble_eq_true rfl) (by omega) (z_X0_isUnarySign q7 (by omega)) ?_
      refine e_ifeq (t := 42) hN m_X1_seesUnarySign dX1_seesUnarySign_31 (by decide) (fun q8 hN => ?_) (fun q8 hN => ?_)
      · refine e_iconst (v := nI 0) m_X1_seesUnarySign dX1_seesUnarySign_42 (by decide) ?_
        exact e_reti m_X1_seesUnarySign dX1_seesUnarySign_43 (Or.inr ⟨rfl, by decide⟩)
      · refine e_iload_n m_X1_seesUnarySign dX1_seesUnarySign_34 rfl rfl ?_
        refine e_ifT (t := 42) m_X1_seesUnarySign dX1_seesUnarySign_35 (by decide) (by decide) ?_
        refine e_iconst (v := nI 0) m_X1_seesUnarySign dX1_seesUnarySign_42 (by decide) ?_
        exact e_reti m_X1_seesUnarySign dX1_seesUnarySign_43 (Or.inr ⟨rfl, by decide⟩)
    · refine e_iconst (v := nI 0) m_X1_seesUnarySign dX1_seesUnarySign_22 (by decide) ?_
      refine e_istore_n m_X1_seesUnarySign dX1_seesUnarySign_23 rfl (by decide) rfl ?_
      refine e_aload_n m_X1_seesUnarySign dX1_seesUnarySign_24 rfl rfl rfl ?_
      refine e_getf m_X1_seesUnarySign dX1_seesUnarySign_25 f_RX1_33 (gC_p G.1) rfl ?_
      refine e_ck hN (fun q9 hN => ?_)
      refine e_cs (as := [_]) m_X1_seesUnarySign dX1_seesUnarySign_28 c_RX1_307 (by decide) rfl rfl (Nat.le_of_ble_eq_true rfl) (Nat.le_of_ble_eq_true rfl) (by omega) (z_X0_isUnarySign q9 (by omega)) ?_
      refine e_ifeq (t := 42) hN m_X1_seesUnarySign dX1_seesUnarySign_31 (by decide) (fun q10 hN => ?_) (fun q10 hN => ?_)
      · refine e_iconst (v := nI 0) m_X1_seesUnarySign dX1_seesUnarySign_42 (by decide) ?_
        exact e_reti m_X1_seesUnarySign dX1_seesUnarySign_43 (Or.inr ⟨rfl, by decide⟩)
      · refine e_iload_n m_X1_seesUnarySign dX1_seesUnarySign_34 rfl rfl ?_
        refine e_ifF (t := 42) m_X1_seesUnarySign dX1_seesUnarySign_35 (by decide) (by decide) ?_
        refine e_iconst (v := nI 1) m_X1_seesUnarySign dX1_seesUnarySign_38 (by decide) ?_
        refine e_goto (t := 43) m_X1_seesUnarySign dX1_seesUnarySign_39 (by decide) ?_
        exact e_reti m_X1_seesUnarySign dX1_seesUnarySign_43 (Or.inr ⟨rfl, by decide⟩)

def b_X1_enter (K : Nat → Nat) (N : Nat) (x1 : Nat) (s : Ss) : Rs Ss := bn (q_sees K x1 s) (fun v1 s1 => ifz v1 (erR s1) (bn (b_X1_openPart K N  s1) (fun v3 s3 => bn (q_take s3) (fun v4 s4 => okR v4 s4))))
theorem w_X1_enter {xs : Nat → Int32} {L : Nat} {h0 : mm_H} {a p N cnt : Nat} {ks : Nat → Nat} (G : Cg h0 a p N cnt ks) {x1 : Nat} {s : Ss} {d : Nat} (hd : 12 ≤ d) (hN : b_X1_enter (kA cnt ks) N x1 s ≠ none) : Rn xs L d 24 [.ref p, .int (nI x1)] (TC h0 a p N cnt ks s) (ou eN (TC h0 a p N cnt ks) (b_X1_enter (kA cnt ks) N x1 s)) := by
  unfold Rn
  unfold b_X1_enter at hN ⊢
  refine e_aload_n m_X1_enter dX1_enter_0 rfl rfl rfl ?_
  refine e_iload_n m_X1_enter dX1_enter_1 rfl rfl ?_
  refine e_cvN (as := [.int (nI x1)]) hN m_X1_enter dX1_enter_2 c_RX1_46 (by decide) rfl rfl (gC_p G.1) rfl (Nat.le_of_ble_eq_true rfl) (Nat.le_of_ble_eq_true rfl) (by omega) (t_sees G (by omega)) (fun v1 s1 hN => ?_)
  refine e_ifne (t := 12) hN m_X1_enter dX1_enter_5 (by decide) (fun q2 hN => ?_) (fun q2 hN => ?_)
  · refine e_aload_n m_X1_enter dX1_enter_8 rfl rfl rfl ?_
    exact e_cvX (as := []) m_X1_enter dX1_enter_9 c_RX1_54 (by decide) rfl rfl (gC_p G.1) rfl (Nat.le_of_ble_eq_true rfl) (Nat.le_of_ble_eq_true rfl) (by omega) (r_refuse (by omega))
  · refine e_aload_n m_X1_enter dX1_enter_12 rfl rfl rfl ?_
    refine e_cvU (as := []) hN m_X1_enter dX1_enter_13 c_RX1_60 (by decide) rfl rfl (gC_p G.1) rfl (Nat.le_of_ble_eq_true rfl) (Nat.le_of_ble_eq_true rfl) (by omega) (w_X1_openPart G (by omega)) (fun v3 s3 hN => ?_)
    refine e_aload_n m_X1_enter dX1_enter_16 rfl rfl rfl ?_
    refine e_cvN (as := []) hN m_X1_enter dX1_enter_17 c_RX1_50 (by decide) rfl rfl (gC_p G.1) rfl (Nat.le_of_ble_eq_true rfl) (Nat.le_of_ble_eq_true rfl) (by omega) (t_take G (by omega)) (fun v4 s4 hN => ?_)
    exact e_reti m_X1_enter dX1_enter_20 (Or.inl rfl)

def b_X1_leave (K : Nat → Nat) (N : Nat) (x1 : Nat) (s : Ss) : Rs Ss := bn (b_X1_expect K N x1 s) (fun v1 s1 => bn (b_X1_closePart K N  s1) (fun v2 s2 => okR 0 s2))
theorem w_X1_leave {xs : Nat → Int32} {L : Nat} {h0 : mm_H} {a p N cnt : Nat} {ks : Nat → Nat} (G : Cg h0 a p N cnt ks) {x1 : Nat} {s : Ss} {d : Nat} (hd : 12 ≤ d) (hN : b_X1_leave (kA cnt ks) N x1 s ≠ none) : Rn xs L d 40 [.ref p, .int (nI x1)] (TC h0 a p N cnt ks s) (ou eU (TC h0 a p N cnt ks) (b_X1_leave (kA cnt ks) N x1 s)) := by
  unfold Rn
  unfold b_X1_leave at hN ⊢
  refine e_aload_n m_X1_leave dX1_leave_0 rfl rfl rfl ?_
  refine e_iload_n m_X1_leave dX1_leave_1 rfl rfl ?_
  refine e_cvN (as := [.int (nI x1)]) hN m_X1_leave dX1_leave_2 c_RX1_63 (by decide) rfl rfl (gC_p G.1) rfl (Nat.le_of_ble_eq_true rfl) (Nat.le_of_ble_eq_true rfl) (by omega) (w_X1_expect G (by omega)) (fun v1 s1 hN => ?_)
  refine e_pop m_X1_leave dX1_leave_5 rfl ?_
  refine e_aload_n m_X1_leave dX1_leave_6 rfl rfl rfl ?_
  refine e_cvU (as := []) hN m_X1_leave dX1_leave_7 c_RX1_66 (by decide) rfl rfl (gC_p G.1) rfl (Nat.le_of_ble_eq_true rfl) (Nat.le_of_ble_eq_true rfl) (by omega) (w_X1_closePart G (by omega)) (fun v2 s2 hN => ?_)
  exact e_ret0 m_X1_leave dX1_leave_10

def b_X1_name (K : Nat → Nat) (N : Nat) (s : Ss) : Rs Ss := bn (q_sees K 1 s) (fun v1 s1 => ifz v1 (erR s1) (bn (q_take s1) (fun v3 s3 => bn (b_X3_put K N 5 v3 0 s3) (fun v4 s4 => okR 0 s4))))
theorem w_X1_name {xs : Nat → Int32} {L : Nat} {h0 : mm_H} {a p N cnt : Nat} {ks : Nat → Nat} (G : Cg h0 a p N cnt ks) {s : Ss} {d : Nat} (hd : 12 ≤ d) (hN : b_X1_name (kA cnt ks) N s ≠ none) : Rn xs L d 19 [.ref p] (TC h0 a p N cnt ks s) (ou eU (TC h0 a p N cnt ks) (b_X1_name (kA cnt ks) N s)) := by
  unfold Rn
  unfold b_X1_name at hN ⊢
  refine e_aload_n m_X1_name dX1_name_0 rfl rfl rfl ?_
  refine e_iconst (v := nI 1) m_X1_name dX1_name_1 (by decide) ?_
  refine e_cvN (as := [.int (nI 1)]) hN m_X1_name dX1_name_2 c_RX1_46 (by decide) rfl rfl (gC_p G.1) rfl (Nat.le_of_ble_eq_true rfl) (Nat.le_of_ble_eq_true rfl) (by omega) (t_sees G (by omega)) (fun v1 s1 hN => ?_)
  refine e_ifne (t := 12) hN m_X1_name dX1_name_5 (by decide) (fun q2 hN => ?_) (fun q2 hN => ?_)
  · refine e_aload_n m_X1_name dX1_name_8 rfl rfl rfl ?_
    exact e_cvX (as := []) m_X1_name dX1_name_9 c_RX1_54 (by decide) rfl rfl (gC_p G.1) rfl (Nat.le_of_ble_eq_true rfl) (Nat.le_of_ble_eq_true rfl) (by omega) (r_refuse (by omega))
  · refine e_aload_n m_X1_name dX1_name_12 rfl rfl rfl ?_
    refine e_getf m_X1_name dX1_name_13 f_RX1_17 (gC_p G.1) rfl ?_
    refine e_iconst (v := nI 5) m_X1_name dX1_name_16 (by decide) ?_
    refine e_aload_n m_X1_name dX1_name_17 rfl rfl rfl ?_
    refine e_cvN (as := []) hN m_X1_name dX1_name_18 c_RX1_50 (by decide) rfl rfl (gC_p G.1) rfl (Nat.le_of_ble_eq_true rfl) (Nat.le_of_ble_eq_true rfl) (by omega) (t_take G (by omega)) (fun v3 s3 hN => ?_)
    refine e_iconst (v := nI 0) m_X1_name dX1_name_21 (by decide) ?_
    refine e_cvU (as := [.int (nI 5), .int (nI v3), .int (nI 0)]) hN m_X1_name dX1_name_22 c_RX1_69 (by decide) rfl rfl (gC_r G.1) rfl (Nat.le_of_ble_eq_true rfl) (Nat.le_of_ble_eq_true rfl) (by omega) (w_X3_put G (by omega)) (fun v4 s4 hN => ?_)
    exact e_ret0 m_X1_name dX1_name_25

def b_X1_putLeaf (K : Nat → Nat) (N : Nat) (x1 : Nat) (s : Ss) : Rs Ss := bn (q_take s) (fun v1 s1 => bn (b_X3_put K N x1 v1 0 s1) (fun v2 s2 => okR 0 s2))
theorem w_X1_putLeaf {xs : Nat → Int32} {L : Nat} {h0 : mm_H} {a p N cnt : Nat} {ks : Nat → Nat} (G : Cg h0 a p N cnt ks) {x1 : Nat} {s : Ss} {d : Nat} (hd : 12 ≤ d) (hN : b_X1_putLeaf (kA cnt ks) N x1 s ≠ none) : Rn xs L d 36 [.ref p, .int (nI x1)] (TC h0 a p N cnt ks s) (ou eU (TC h0 a p N cnt ks) (b_X1_putLeaf (kA cnt ks) N x1 s)) := by
  unfold Rn
  unfold b_X1_putLeaf at hN ⊢
  refine e_aload_n m_X1_putLeaf dX1_putLeaf_0 rfl rfl rfl ?_
  refine e_getf m_X1_putLeaf dX1_putLeaf_1 f_RX1_17 (gC_p G.1) rfl ?_
  refine e_iload_n m_X1_putLeaf dX1_putLeaf_4 rfl rfl ?_
  refine e_aload_n m_X1_putLeaf dX1_putLeaf_5 rfl rfl rfl ?_
  refine e_cvN (as := []) hN m_X1_putLeaf dX1_putLeaf_6 c_RX1_50 (by decide) rfl rfl (gC_p G.1) rfl (Nat.le_of_ble_eq_true rfl) (Nat.le_of_ble_eq_true rfl) (by omega) (t_take G (by omega)) (fun v1 s1 hN => ?_)
  refine e_iconst (v := nI 0) m_X1_putLeaf dX1_putLeaf_9 (by decide) ?_
  refine e_cvU (as := [.int (nI x1), .int (nI v1), .int (nI 0)]) hN m_X1_putLeaf dX1_putLeaf_10 c_RX1_69 (by decide) rfl rfl (gC_r G.1) rfl (Nat.le_of_ble_eq_true rfl) (Nat.le_of_ble_eq_true rfl) (by omega) (w_X3_put G (by omega)) (fun v2 s2 hN => ?_)
  exact e_ret0 m_X1_putLeaf dX1_putLeaf_13

def b_X1_putGuard (K : Nat → Nat) (N : Nat) (x1 : Nat) (s : Ss) : Rs Ss := ck ((s_gw s) ≠ 0) (bn (b_X3_put K N 69 ((s_gw s) - 1) x1 s) (fun v2 s2 => okR 0 (u_gw s2 0)))
theorem w_X1_putGuard {xs : Nat → Int32} {L : Nat} {h0 : mm_H} {a p N cnt : Nat} {ks : Nat → Nat} (G : Cg h0 a p N cnt ks) {x1 : Nat} {s : Ss} {d : Nat} (hd : 12 ≤ d) (hN : b_X1_putGuard (kA cnt ks) N x1 s ≠ none) : Rn xs L d 63 [.ref p, .int (nI x1)] (TC h0 a p N cnt ks s) (ou eU (TC h0 a p N cnt ks) (b_X1_putGuard (kA cnt ks) N x1 s)) := by
  unfold Rn
  unfold b_X1_putGuard at hN ⊢
  refine e_aload_n m_X1_putGuard dX1_putGuard_0 rfl rfl rfl ?_
  refine e_getf m_X1_putGuard dX1_putGuard_1 f_RX1_17 (gC_p G.1) rfl ?_
  refine e_bipush (v := nI 69) m_X1_putGuard dX1_putGuard_4 (by decide) ?_
  refine e_aload_n m_X1_putGuard dX1_putGuard_6 rfl rfl rfl ?_
  refine e_getf m_X1_putGuard dX1_putGuard_7 f_RX1_25 (gC_p G.1) rfl ?_
  refine e_iload_n m_X1_putGuard dX1_putGuard_10 rfl rfl ?_
  refine e_ck hN (fun q1 hN => ?_)
  rw [oI_p q1]
  refine e_cvU (as := [.int (nI 69), .int (nI ((s_gw s) - 1)), .int (nI x1)]) hN m_X1_putGuard dX1_putGuard_11 c_RX1_69 (by decide) rfl rfl (gC_r G.1) rfl (Nat.le_of_ble_eq_true rfl) (Nat.le_of_ble_eq_true rfl) (by omega) (w_X3_put G (by omega)) (fun v2 s2 hN => ?_)
  refine e_aload_n m_X1_putGuard dX1_putGuard_14 rfl rfl rfl ?_
  refine e_iconst (v := oI 0) m_X1_putGuard dX1_putGuard_15 (by decide) ?_
  refine e_putf (v := .int (oI 0)) (h' := TC h0 a p N cnt ks (u_gw s2 0)) m_X1_putGuard dX1_putGuard_16 f_RX1_25 (gC_p G.1) (Nat.le_of_ble_eq_true rfl) (fit_i rfl) rfl (sC_p G.1) ?_
  exact e_ret0 m_X1_putGuard dX1_putGuard_19

def lp_X1_putWaiting_7 (K : Nat → Nat) (N : Nat) : Nat → Nat → Nat → Nat → Ss → Rs Ss
  | 0, _, _, _, _ => none
  | f + 1, y1, y2, y3, s => ifl y3 (y1 + 1) (okR 0 (u_wc s y3)) (ifz y3 (okR 0 (u_wc s y3)) (ifl y3 156 (ck (y3 ≠ 0) (ck ((y3 - 1) < 155) (bn (q_kindAt K (s_wf s (y3 - 1)) s) (fun v18 s18 => ck (v18 < 2147483648) (ifl (f_X0_binding v18) y2 (okR 0 (u_wc s18 y3)) (ck (y3 ≠ 0) (ck ((y3 - 1) < 155) (bn (b_X3_put K N 80 (s_wf s18 (y3 - 1)) 2 s18) (fun v23 s23 => ck (y3 ≠ 0) (lp_X1_putWaiting_7 K N f y1 y2 (y3 - 1) s23)))))))))) (okR 0 (u_wc s y3))))
theorem l_X1_putWaiting_7 {xs : Nat → Int32} {L : Nat} {h0 : mm_H} {a p N cnt : Nat} {ks : Nat → Nat} (G : Cg h0 a p N cnt ks) : ∀ (f : Nat) (y1 y2 y3 : Nat) (s : Ss) (d : Nat) (ls : mm_L) (hd : 12 ≤ d) (hl0 : mm_lk ls 0 = some (.ref p)) (hl1 : mm_lk ls 1 = some (.int (nI y1))) (hl2 : mm_lk ls 2 = some (.int (nI y2))) (hl3 : mm_lk ls 3 = some (.int (oI y3))), lp_X1_putWaiting_7 (kA cnt ks) N f y1 y2 y3 s ≠ none → Ev xs L d 97 7 ls [] (TC h0 a p N cnt ks s) 0 0 (ou eU (TC h0 a p N cnt ks) (lp_X1_putWaiting_7 (kA cnt ks) N f y1 y2 y3 s)) := by
  intro f
  induction f with
  | zero => intros; rename_i hN; exact absurd rfl hN
  | succ f ih =>
    intro y1 y2 y3 s d ls hd hl0 hl1 hl2 hl3 hN
    rw [lp_X1_putWaiting_7] at hN ⊢
    refine e_iload_n m_X1_putWaiting dX1_putWaiting_7 rfl hl3 ?_
    refine e_iload_n m_X1_putWaiting dX1_putWaiting_8 rfl hl1 ?_
    refine e_oilt (t := 67) (a := y3) (b := (y1 + 1)) hN m_X1_putWaiting dX1_putWaiting_9 (by decide) (fun q13 hN => ?_) (fun q13 hN => ?_)
    · refine e_aload_n m_X1_putWaiting dX1_putWaiting_67 rfl hl0 rfl ?_
      refine e_iload_n m_X1_putWaiting dX1_putWaiting_68 rfl hl3 ?_
      refine e_iconst (v := nI 1) m_X1_putWaiting dX1_putWaiting_69 (by decide) ?_
      refine e_iaddO m_X1_putWaiting dX1_putWaiting_70 ?_
      refine e_putf (v := .int (nI y3)) (h' := TC h0 a p N cnt ks (u_wc s y3)) m_X1_putWaiting dX1_putWaiting_71 f_RX1_289 (gC_p G.1) (Nat.le_of_ble_eq_true rfl) (fit_i rfl) rfl (sC_p G.1) ?_
      exact e_ret0 m_X1_putWaiting dX1_putWaiting_74
    · refine e_iload_n m_X1_putWaiting dX1_putWaiting_12 rfl hl3 ?_
      refine e_oiflt (t := 67) hN m_X1_putWaiting dX1_putWaiting_13 (by decide) (fun q14 hN => ?_) (fun q14 hN => ?_)
      · refine e_aload_n m_X1_putWaiting dX1_putWaiting_67 rfl hl0 rfl ?_
        refine e_iload_n m_X1_putWaiting dX1_putWaiting_68 rfl hl3 ?_
        refine e_iconst (v := nI 1) m_X1_putWaiting dX1_putWaiting_69 (by decide) ?_
        refine e_iaddO m_X1_putWaiting dX1_putWaiting_70 ?_
        refine e_putf (v := .int (nI y3)) (h' := TC h0 a p N cnt ks (u_wc s y3)) m_X1_putWaiting dX1_putWaiting_71 f_RX1_289 (gC_p G.1) (Nat.le_of_ble_eq_true rfl) (fit_i rfl) rfl (sC_p G.1) ?_
        exact e_ret0 m_X1_putWaiting dX1_putWaiting_74
      · refine e_iload_n m_X1_putWaiting dX1_putWaiting_16 rfl hl3 ?_
        refine e_aload_n m_X1_putWaiting dX1_putWaiting_17 rfl hl0 rfl ?_
        refine e_getf m_X1_putWaiting dX1_putWaiting_18 f_RX1_21 (gC_p G.1) rfl ?_
        refine e_alen m_X1_putWaiting dX1_putWaiting_21 (gC_w G.1) (by decide) ?_
        refine e_oige (t := 67) (a := y3) (b := 156) hN m_X1_putWaiting dX1_putWaiting_22 (by decide) (fun q15 hN => ?_) (fun q15 hN => ?_)
        · refine e_aload_n m_X1_putWaiting dX1_putWaiting_25 rfl hl0 rfl ?_
          refine e_getf m_X1_putWaiting dX1_putWaiting_26 f_RX1_11 (gC_p G.1) rfl ?_
          refine e_aload_n m_X1_putWaiting dX1_putWaiting_29 rfl hl0 rfl ?_
          refine e_getf m_X1_putWaiting dX1_putWaiting_30 f_RX1_21 (gC_p G.1) rfl ?_
          refine e_iload_n m_X1_putWaiting dX1_putWaiting_33 rfl hl3 ?_
          refine e_ck hN (fun q16 hN => ?_)
          rw [oI_p q16]
          refine e_ck hN (fun q17 hN => ?_)
          refine e_aldN q17 (by decide) (Or.inl ⟨rfl, rfl⟩) m_X1_putWaiting dX1_putWaiting_34 (gC_w G.1) ?_
          refine e_cvN (as := [.int (nI (s_wf s (y3 - 1)))]) hN m_X1_putWaiting dX1_putWaiting_35 c_RX1_29 (by decide) rfl rfl (gC_t G.1) rfl (Nat.le_of_ble_eq_true rfl) (Nat.le_of_ble_eq_true rfl) (by omega) (t_kindAt G (by omega)) (fun v18 s18 hN => ?_)
          refine e_ck hN (fun q19 hN => ?_)
          refine e_cs (as := [_]) m_X1_putWaiting dX1_putWaiting_38 c_RX1_295 (by decide) rfl rfl (Nat.le_of_ble_eq_true rfl) (Nat.le_of_ble_eq_true rfl) (by omega) (z_X0_binding q19 (by omega)) ?_
          refine e_iload_n m_X1_putWaiting dX1_putWaiting_41 rfl hl2 ?_
          refine e_ilt (t := 67) (a := (f_X0_binding v18)) (b := y2) hN m_X1_putWaiting dX1_putWaiting_42 (by decide) (fun q20 hN => ?_) (fun q20 hN => ?_)
          · refine e_aload_n m_X1_putWaiting dX1_putWaiting_67 rfl hl0 rfl ?_
            refine e_iload_n m_X1_putWaiting dX1_putWaiting_68 rfl hl3 ?_
            refine e_iconst (v := nI 1) m_X1_putWaiting dX1_putWaiting_69 (by decide) ?_
            refine e_iaddO m_X1_putWaiting dX1_putWaiting_70 ?_
            refine e_putf (v := .int (nI y3)) (h' := TC h0 a p N cnt ks (u_wc s18 y3)) m_X1_putWaiting dX1_putWaiting_71 f_RX1_289 (gC_p G.1) (Nat.le_of_ble_eq_true rfl) (fit_i rfl) rfl (sC_p G.1) ?_
            exact e_ret0 m_X1_putWaiting dX1_putWaiting_74
          · refine e_aload_n m_X1_putWaiting dX1_putWaiting_45 rfl hl0 rfl ?_
            refine e_getf m_X1_putWaiting dX1_putWaiting_46 f_RX1_17 (gC_p G.1) rfl ?_
            refine e_bipush (v := nI 80) m_X1_putWaiting dX1_putWaiting_49 (by decide) ?_
            refine e_aload_n m_X1_putWaiting dX1_putWaiting_51 rfl hl0 rfl ?_
            refine e_getf m_X1_putWaiting dX1_putWaiting_52 f_RX1_21 (gC_p G.1) rfl ?_
            refine e_iload_n m_X1_putWaiting dX1_putWaiting_55 rfl hl3 ?_
            refine e_ck hN (fun q21 hN => ?_)
            rw [oI_p q21]
            refine e_ck hN (fun q22 hN => ?_)
            refine e_aldN q22 (by decide) (Or.inl ⟨rfl, rfl⟩) m_X1_putWaiting dX1_putWaiting_56 (gC_w G.1) ?_
            refine e_iconst (v := nI 2) m_X1_putWaiting dX1_putWaiting_57 (by decide) ?_
            refine e_cvU (as := [.int (nI 80), .int (nI (s_wf s18 (y3 - 1))), .int (nI 2)]) hN m_X1_putWaiting dX1_putWaiting_58 c_RX1_69 (by decide) rfl rfl (gC_r G.1) rfl (Nat.le_of_ble_eq_true rfl) (Nat.le_of_ble_eq_true rfl) (by omega) (w_X3_put G (by omega)) (fun v23 s23 hN => ?_)
            refine e_ck hN (fun q24 hN => ?_)
            refine e_iincO q24 m_X1_putWaiting dX1_putWaiting_61 (by decide) hl3 rfl ?_
            refine e_goto (t := 7) m_X1_putWaiting dX1_putWaiting_64 (by decide) ?_
            exact ih y1 y2 (y3 - 1) _ _ _ (by omega) (lk_mis (by decide) rfl hl0) (lk_mis (by decide) rfl hl1) (lk_mis (by decide) rfl hl2) lk_hit hN
        · refine e_aload_n m_X1_putWaiting dX1_putWaiting_67 rfl hl0 rfl ?_
          refine e_iload_n m_X1_putWaiting dX1_putWaiting_68 rfl hl3 ?_
          refine e_iconst (v := nI 1) m_X1_putWaiting dX1_putWaiting_69 (by decide) ?_
          refine e_iaddO m_X1_putWaiting dX1_putWaiting_70 ?_
          refine e_putf (v := .int (nI y3)) (h' := TC h0 a p N cnt ks (u_wc s y3)) m_X1_putWaiting dX1_putWaiting_71 f_RX1_289 (gC_p G.1) (Nat.le_of_ble_eq_true rfl) (fit_i rfl) rfl (sC_p G.1) ?_
          exact e_ret0 m_X1_putWaiting dX1_putWaiting_74
def b_X1_putWaiting (K : Nat → Nat) (N : Nat) (x1 : Nat) (x2 : Nat) (s : Ss) : Rs Ss := lp_X1_putWaiting_7 K N LF x1 x2 (s_wc s) s
theorem w_X1_putWaiting {xs : Nat → Int32} {L : Nat} {h0 : mm_H} {a p N cnt : Nat} {ks : Nat → Nat} (G : Cg h0 a p N cnt ks) {x1 : Nat} {x2 : Nat} {s : Ss} {d : Nat} (hd : 12 ≤ d) (hN : b_X1_putWaiting (kA cnt ks) N x1 x2 s ≠ none) : Rn xs L d 97 [.ref p, .int (nI x1), .int (nI x2)] (TC h0 a p N cnt ks s) (ou eU (TC h0 a p N cnt ks) (b_X1_putWaiting (kA cnt ks) N x1 x2 s)) := by
  unfold Rn
  unfold b_X1_putWaiting at hN ⊢
  refine e_aload_n m_X1_putWaiting dX1_putWaiting_0 rfl rfl rfl ?_
  refine e_getf m_X1_putWaiting dX1_putWaiting_1 f_RX1_289 (gC_p G.1) rfl ?_
  refine e_iconst (v := nI 1) m_X1_putWaiting dX1_putWaiting_4 (by decide) ?_
  refine e_isubO m_X1_putWaiting dX1_putWaiting_5 ?_
  refine e_istore_n m_X1_putWaiting dX1_putWaiting_6 rfl (by decide) rfl ?_
  exact l_X1_putWaiting_7 G LF x1 x2 (s_wc s) _ _ _ (by omega) rfl rfl rfl rfl hN

