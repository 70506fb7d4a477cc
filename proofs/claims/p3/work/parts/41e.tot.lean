/-! The methods of the parser, one by one. -/
theorem T_lp_X1_types_11 {cnt N : Nat} {K : Nat → Nat} (G : Kg cnt N K) {n : Nat} {rc : Nat → Nat → Nat → Ss → Rs Ss} (R : Sp cnt N K n rc) : ∀ (f y1 y2 : Nat) (s : Ss), Iv cnt N s → 16387 ≤ f + y2 → y2 ≤ 16386 → y1 < 16387 → y2 < 16387 → 0 + 16 * (30 - s_op s) < n → Ok (Po cnt N K s (s_op s) 16387 false) (Iv cnt N) (lp_X1_types_11 K N rc f y1 y2 s) := by
  obtain ⟨hc, hN, hk, hz9⟩ := id G
  intro f
  induction f with
  | zero => intro y1 y2 s i_s c1 c2 hy1 hy2 hm; omega
  | succ f ih =>
    intro y1 y2 s i_s c1 c2 hy1 hy2 hm
    obtain ⟨a0, p0, h0, g0, w0, -⟩ := id i_s
    rw [lp_X1_types_11]
    refine Ok_ifl (show y2 < 2147483648 from by omega) (by decide) (fun q1 => ?_) (fun q1 => ?_)
    · refine Ok_accept G i_s (by decide) (by decide) (fun t2 i_t2 (e2 : s_at t2 = s_at s + 1) (o2 : s_op t2 = s_op s) => ?_) (fun (q3 : K (s_at s) ≠ 84) => ?_)
      · obtain ⟨a2, p2, h2, g2, w2, -⟩ := id i_t2
        refine Ok_ifz1 ?_
        refine Ok_rc (R 26 (by decide) _ _ _ i_t2 (pkf pk_26) (pnf (by decide)) (by decide) (by decide) (rkl rk_26 (show 0 + 16 * (30 - (s_op t2)) < n from by omega))) bd_26 (fun v4 t4 i_t4 (e4 : s_at t2 ≤ s_at t4) (o4 : s_op t4 = s_op t2) b4 => ?_)
        obtain ⟨a4, p4, h4, g4, w4, -⟩ := id i_t4
        refine Ok_imp (ih y1 (y2 + 1) _ i_t4 (show 16387 ≤ f + (y2 + 1) from by omega) (show y2 + 1 ≤ 16386 from by omega) (show y1 < 16387 from by omega) (show y2 + 1 < 16387 from by omega) (show 0 + 16 * (30 - (s_op t4)) < n from by omega)) (fun v5 t5 z5 => ?_)
        obtain ⟨i_t5, e5, o5, b5, x5⟩ := z5
        have e5 : s_at t4 ≤ s_at t5 := e5
        have o5 : s_op t5 = (s_op t4) := o5
        exact ⟨i_t5, by omega, by omega, by omega, (fun q => by cases q)⟩
      · refine Ok_ifz0 ?_
        refine Ok_put G i_s (show y2 < 20000 from by omega) (fun t6 i_t6 (e6 : s_at t6 = s_at s) (o6 : s_op t6 = s_op s) => ?_)
        obtain ⟨a6, p6, h6, g6, w6, -⟩ := id i_t6
        have k6 : K (s_at t6) = K (s_at s) := congrArg K e6
        exact Ok_ret ⟨i_t6, show s_at s ≤ s_at t6 from by omega, show s_op t6 = s_op s from by omega, show 0 < 16387 from by omega, (fun q => by cases q)⟩
    · refine Ok_put G i_s (show y2 < 20000 from by omega) (fun t7 i_t7 (e7 : s_at t7 = s_at s) (o7 : s_op t7 = s_op s) => ?_)
      obtain ⟨a7, p7, h7, g7, w7, -⟩ := id i_t7
      have k7 : K (s_at t7) = K (s_at s) := congrArg K e7
      exact Ok_ret ⟨i_t7, show s_at s ≤ s_at t7 from by omega, show s_op t7 = s_op s from by omega, show 0 < 16387 from by omega, (fun q => by cases q)⟩
theorem T_X1_types {cnt N : Nat} {K : Nat → Nat} (G : Kg cnt N K) {n : Nat} {rc : Nat → Nat → Nat → Ss → Rs Ss} (R : Sp cnt N K n rc) {s : Ss} (i_s : Iv cnt N s) (hm : 1 + 16 * (30 - s_op s) < n + 1) : Ok (Po cnt N K s (s_op s) 16387 false) (Iv cnt N) (b_X1_types K N rc s) := by
  obtain ⟨hc, hN, hk, hz9⟩ := id G
  obtain ⟨a0, p0, h0, g0, w0, -⟩ := id i_s
  unfold b_X1_types
  refine Ok_rc (R 26 (by decide) _ _ _ i_s (pkf pk_26) (pnf (by decide)) (by decide) (by decide) (rkl rk_26 (show 0 + 16 * (30 - (s_op s)) < n from by omega))) bd_26 (fun v1 t1 i_t1 (e1 : s_at s ≤ s_at t1) (o1 : s_op t1 = s_op s) b1 => ?_)
  obtain ⟨a1, p1, h1, g1, w1, -⟩ := id i_t1
  refine Ok_imp (T_lp_X1_types_11 G R LF (s_at s) 1 _ i_t1 (show 16387 ≤ LF + 1 from by unfold LF; omega) (show 1 ≤ 16386 from by omega) (show s_at s < 16387 from by omega) (by decide) (show 0 + 16 * (30 - (s_op t1)) < n from by omega)) (fun v2 t2 z2 => ?_)
  obtain ⟨i_t2, e2, o2, b2, x2⟩ := z2
  have e2 : s_at t1 ≤ s_at t2 := e2
  have o2 : s_op t2 = (s_op t1) := o2
  exact ⟨i_t2, by omega, by omega, by omega, (fun q => by cases q)⟩
theorem T_X1_wholeSimple {cnt N : Nat} {K : Nat → Nat} (G : Kg cnt N K) {n : Nat} {rc : Nat → Nat → Nat → Ss → Rs Ss} (R : Sp cnt N K n rc) {x1 : Nat} {s : Ss} (i_s : Iv cnt N s) (hx1 : x1 < 16387) (hm : 8 + 16 * (30 - s_op s) < n + 1) : Ok (Po cnt N K s (s_op s) 16387 false) (Iv cnt N) (b_X1_wholeSimple K N rc x1 s) := by
  obtain ⟨hc, hN, hk, hz9⟩ := id G
  obtain ⟨a0, p0, h0, g0, w0, -⟩ := id i_s
  unfold b_X1_wholeSimple
  refine Ok_rcF (R 62 (by decide) _ _ _ i_s (pkf pk_62) (pnf (by decide)) (show x1 < 16387 from by omega) (by decide) (rkl rk_62 (show 7 + 16 * (30 - (s_op s)) < n from by omega))) bd_62 br_62 (fun v1 t1 i_t1 (e1 : s_at s ≤ s_at t1) (o1 : s_op t1 = s_op s) b1 x1 => ?_)
  obtain ⟨a1, p1, h1, g1, w1, -⟩ := id i_t1
  refine Ok_ifz (show v1 < 2147483648 from by omega) (fun q2 => ?_) (fun q2 => ?_)
  · refine Ok_put G i_t1 (by decide) (fun t3 i_t3 (e3 : s_at t3 = s_at t1) (o3 : s_op t3 = s_op t1) => ?_)
    obtain ⟨a3, p3, h3, g3, w3, -⟩ := id i_t3
    have k3 : K (s_at t3) = K (s_at t1) := congrArg K e3
    exact Ok_ret ⟨i_t3, show s_at s ≤ s_at t3 from by omega, show s_op t3 = s_op s from by omega, show 0 < 16387 from by omega, (fun q => by cases q)⟩
  · exact Ok_ret ⟨i_t1, show s_at s ≤ s_at t1 from by omega, show s_op t1 = s_op s from by omega, show 0 < 16387 from by omega, (fun q => by cases q)⟩
theorem T_X1_clauseBody {cnt N : Nat} {K : Nat → Nat} (G : Kg cnt N K) {n : Nat} {rc : Nat → Nat → Nat → Ss → Rs Ss} (R : Sp cnt N K n rc) {s : Ss} (i_s : Iv cnt N s) (hm : 14 + 16 * (30 - s_op s) < n + 1) : Ok (Po cnt N K s (s_op s) 16387 false) (Iv cnt N) (b_X1_clauseBody K N rc s) := by
  obtain ⟨hc, hN, hk, hz9⟩ := id G
  obtain ⟨a0, p0, h0, g0, w0, -⟩ := id i_s
  unfold b_X1_clauseBody
  refine Ok_expect G i_s (by decide) (by decide) (fun t1 i_t1 (e1 : s_at t1 = s_at s + 1) (o1 : s_op t1 = s_op s) => ?_)
  obtain ⟨a1, p1, h1, g1, w1, -⟩ := id i_t1
  refine Ok_rc (R 48 (by decide) _ _ _ i_t1 (pkf pk_48) (pnf (by decide)) (by decide) (by decide) (rkl rk_48 (show 13 + 16 * (30 - (s_op t1)) < n from by omega))) bd_48 (fun v2 t2 i_t2 (e2 : s_at t1 ≤ s_at t2) (o2 : s_op t2 = s_op t1) b2 => ?_)
  obtain ⟨a2, p2, h2, g2, w2, -⟩ := id i_t2
  refine Ok_put G i_t2 (show v2 < 20000 from by omega) (fun t3 i_t3 (e3 : s_at t3 = s_at t2) (o3 : s_op t3 = s_op t2) => ?_)
  obtain ⟨a3, p3, h3, g3, w3, -⟩ := id i_t3
  have k3 : K (s_at t3) = K (s_at t2) := congrArg K e3
  exact Ok_ret ⟨i_t3, show s_at s ≤ s_at t3 from by omega, show s_op t3 = s_op s from by omega, show 0 < 16387 from by omega, (fun q => by cases q)⟩
theorem T_X1_defaultClause {cnt N : Nat} {K : Nat → Nat} (G : Kg cnt N K) {n : Nat} {rc : Nat → Nat → Nat → Ss → Rs Ss} (R : Sp cnt N K n rc) {x1 : Nat} {s : Ss} (i_s : Iv cnt N s) (hz : K (s_at s) ≠ 0) (hx1 : x1 < 16387) (hm : 15 + 16 * (30 - s_op s) < n + 1) : Ok (Po cnt N K s (s_op s) 16387 false) (Iv cnt N) (b_X1_defaultClause K N rc x1 s) := by
  obtain ⟨hc, hN, hk, hz9⟩ := id G
  obtain ⟨a0, p0, h0, g0, w0, -⟩ := id i_s
  unfold b_X1_defaultClause
  refine Ok_take G i_s (show K (s_at s) ≠ 0 from by omega) (fun t1 i_t1 (e1 : s_at t1 = s_at s + 1) (o1 : s_op t1 = s_op s) => ?_)
  obtain ⟨a1, p1, h1, g1, w1, -⟩ := id i_t1
  refine Ok_rc (R 76 (by decide) _ _ _ i_t1 (pkf pk_76) (pnf (by decide)) (by decide) (by decide) (rkl rk_76 (show 14 + 16 * (30 - (s_op t1)) < n from by omega))) bd_76 (fun v2 t2 i_t2 (e2 : s_at t1 ≤ s_at t2) (o2 : s_op t2 = s_op t1) b2 => ?_)
  obtain ⟨a2, p2, h2, g2, w2, -⟩ := id i_t2
  refine Ok_ife (show x1 < 2147483648 from by omega) (by decide) (fun q3 => ?_) (fun q3 => ?_)
  · refine Ok_put G i_t2 (by decide) (fun t4 i_t4 (e4 : s_at t4 = s_at t2) (o4 : s_op t4 = s_op t2) => ?_)
    obtain ⟨a4, p4, h4, g4, w4, -⟩ := id i_t4
    have k4 : K (s_at t4) = K (s_at t2) := congrArg K e4
    exact Ok_ret ⟨i_t4, show s_at s ≤ s_at t4 from by omega, show s_op t4 = s_op s from by omega, show 0 < 16387 from by omega, (fun q => by cases q)⟩
  · refine Ok_put G i_t2 (by decide) (fun t5 i_t5 (e5 : s_at t5 = s_at t2) (o5 : s_op t5 = s_op t2) => ?_)
    obtain ⟨a5, p5, h5, g5, w5, -⟩ := id i_t5
    have k5 : K (s_at t5) = K (s_at t2) := congrArg K e5
    exact Ok_ret ⟨i_t5, show s_at s ≤ s_at t5 from by omega, show s_op t5 = s_op s from by omega, show 0 < 16387 from by omega, (fun q => by cases q)⟩
theorem T_X1_selectStmt {cnt N : Nat} {K : Nat → Nat} (G : Kg cnt N K) {n : Nat} {rc : Nat → Nat → Nat → Ss → Rs Ss} (R : Sp cnt N K n rc) {s : Ss} (i_s : Iv cnt N s) (hz : K (s_at s) ≠ 0) (hm : 1 + 16 * (30 - s_op s) < n + 1) : Ok (Po cnt N K s (s_op s) 16387 false) (Iv cnt N) (b_X1_selectStmt K N rc s) := by
  obtain ⟨hc, hN, hk, hz9⟩ := id G
  obtain ⟨a0, p0, h0, g0, w0, -⟩ := id i_s
  unfold b_X1_selectStmt
  refine Ok_take G i_s (show K (s_at s) ≠ 0 from by omega) (fun t1 i_t1 (e1 : s_at t1 = s_at s + 1) (o1 : s_op t1 = s_op s) => ?_)
  obtain ⟨a1, p1, h1, g1, w1, -⟩ := id i_t1
  refine Ok_rc (R 72 (by decide) _ _ _ i_t1 (pkf pk_72) (pnf (by decide)) (by decide) (by decide) (rkl rk_72 (show 0 + 16 * (30 - (s_op t1)) < n from by omega))) bd_72 (fun v2 t2 i_t2 (e2 : s_at t1 ≤ s_at t2) (o2 : s_op t2 = s_op t1) b2 => ?_)
  obtain ⟨a2, p2, h2, g2, w2, -⟩ := id i_t2
  refine Ok_put G i_t2 (show v2 < 20000 from by omega) (fun t3 i_t3 (e3 : s_at t3 = s_at t2) (o3 : s_op t3 = s_op t2) => ?_)
  obtain ⟨a3, p3, h3, g3, w3, -⟩ := id i_t3
  have k3 : K (s_at t3) = K (s_at t2) := congrArg K e3
  exact Ok_ret ⟨i_t3, show s_at s ≤ s_at t3 from by omega, show s_op t3 = s_op s from by omega, show 0 < 16387 from by omega, (fun q => by cases q)⟩
theorem T_X1_forStmt {cnt N : Nat} {K : Nat → Nat} (G : Kg cnt N K) {n : Nat} {rc : Nat → Nat → Nat → Ss → Rs Ss} (R : Sp cnt N K n rc) {s : Ss} (i_s : Iv cnt N s) (hz : K (s_at s) ≠ 0) (hm : 11 + 16 * (30 - s_op s) < n + 1) : Ok (Po cnt N K s (s_op s) 16387 false) (Iv cnt N) (b_X1_forStmt K N rc s) := by
  obtain ⟨hc, hN, hk, hz9⟩ := id G
  obtain ⟨a0, p0, h0, g0, w0, -⟩ := id i_s
  unfold b_X1_forStmt
  refine Ok_take G i_s (show K (s_at s) ≠ 0 from by omega) (fun t1 i_t1 (e1 : s_at t1 = s_at s + 1) (o1 : s_op t1 = s_op s) => ?_)
  obtain ⟨a1, p1, h1, g1, w1, -⟩ := id i_t1
  refine Ok_rc (R 80 (by decide) _ _ _ (Iv_ih i_t1 (show 1 < 2 from by omega)) (pkf pk_80) (pnf (by decide)) (by decide) (by decide) (rkl rk_80 (show 10 + 16 * (30 - (s_op t1)) < n from by omega))) bd_80 (fun v2 t2 i_t2 (e2 : s_at t1 ≤ s_at t2) (o2 : s_op t2 = s_op t1) b2 => ?_)
  obtain ⟨a2, p2, h2, g2, w2, -⟩ := id i_t2
  refine Ok_ck (show (s_ih t1) < 2 from by omega) ?_
  refine Ok_rc (R 47 (by decide) _ _ _ (Iv_ih i_t2 (show s_ih t1 < 2 from by omega)) (pkf pk_47) (pnf (by decide)) (by decide) (by decide) (rkl rk_47 (show 0 + 16 * (30 - (s_op t2)) < n from by omega))) bd_47 (fun v3 t3 i_t3 (e3 : s_at t2 ≤ s_at t3) (o3 : s_op t3 = s_op t2) b3 => ?_)
  obtain ⟨a3, p3, h3, g3, w3, -⟩ := id i_t3
  refine Ok_put G i_t3 (show 1 + v2 < 20000 from by omega) (fun t4 i_t4 (e4 : s_at t4 = s_at t3) (o4 : s_op t4 = s_op t3) => ?_)
  obtain ⟨a4, p4, h4, g4, w4, -⟩ := id i_t4
  have k4 : K (s_at t4) = K (s_at t3) := congrArg K e4
  exact Ok_ret ⟨i_t4, show s_at s ≤ s_at t4 from by omega, show s_op t4 = s_op s from by omega, show 0 < 16387 from by omega, (fun q => by cases q)⟩
theorem T_X1_forHead {cnt N : Nat} {K : Nat → Nat} (G : Kg cnt N K) {n : Nat} {rc : Nat → Nat → Nat → Ss → Rs Ss} (R : Sp cnt N K n rc) {s : Ss} (i_s : Iv cnt N s) (hm : 10 + 16 * (30 - s_op s) < n + 1) : Ok (Po cnt N K s (s_op s) 16387 false) (Iv cnt N) (b_X1_forHead K N rc s) := by
  obtain ⟨hc, hN, hk, hz9⟩ := id G
  obtain ⟨a0, p0, h0, g0, w0, -⟩ := id i_s
  unfold b_X1_forHead
  refine Ok_sees G (by decide) (fun (q1 : K (s_at s) = 82) => ?_) (fun (q1 : K (s_at s) ≠ 82) => ?_)
  · refine Ok_ifz1 ?_
    exact Ok_ret ⟨i_s, show s_at s ≤ s_at s from by omega, show s_op s = s_op s from by omega, show 0 < 16387 from by omega, (fun q => by cases q)⟩
  · refine Ok_ifz0 ?_
    refine Ok_sees G (by decide) (fun (q2 : K (s_at s) = 28) => ?_) (fun (q2 : K (s_at s) ≠ 28) => ?_)
    · refine Ok_ifz1 ?_
      refine Ok_rc (R 81 (by decide) _ _ _ i_s (pkt (show K (s_at s) ≠ 0 from by omega)) (pnf (by decide)) (by decide) (by decide) (rkl rk_81 (show 5 + 16 * (30 - (s_op s)) < n from by omega))) bd_81 (fun v3 t3 i_t3 (e3 : s_at s ≤ s_at t3) (o3 : s_op t3 = s_op s) b3 => ?_)
      obtain ⟨a3, p3, h3, g3, w3, -⟩ := id i_t3
      exact Ok_ret ⟨i_t3, show s_at s ≤ s_at t3 from by omega, show s_op t3 = s_op s from by omega, show 1 < 16387 from by omega, (fun q => by cases q)⟩
    · refine Ok_ifz0 ?_
      refine Ok_rcF (R 61 (by decide) _ _ _ i_s (pkf pk_61) (pnf (by decide)) (by decide) (by decide) (rkl rk_61 (show 8 + 16 * (30 - (s_op s)) < n from by omega))) bd_61 br_61 (fun v4 t4 i_t4 (e4 : s_at s ≤ s_at t4) (o4 : s_op t4 = s_op s) b4 x4 => ?_)
      obtain ⟨a4, p4, h4, g4, w4, -⟩ := id i_t4
      refine Ok_ife (show v4 < 2147483648 from by omega) (by decide) (fun q5 => ?_) (fun q5 => ?_)
      · refine Ok_rc (R 82 (by decide) _ _ _ i_t4 (pkf pk_82) (pnf (by decide)) (by decide) (by decide) (rkl rk_82 (show 9 + 16 * (30 - (s_op t4)) < n from by omega))) bd_82 (fun v6 t6 i_t6 (e6 : s_at t4 ≤ s_at t6) (o6 : s_op t6 = s_op t4) b6 => ?_)
        obtain ⟨a6, p6, h6, g6, w6, -⟩ := id i_t6
        exact Ok_ret ⟨i_t6, show s_at s ≤ s_at t6 from by omega, show s_op t6 = s_op s from by omega, show 3 < 16387 from by omega, (fun q => by cases q)⟩
      · refine Ok_ife (show v4 < 2147483648 from by omega) (by decide) (fun q7 => ?_) (fun q7 => ?_)
        · refine Ok_rc (R 81 (by decide) _ _ _ i_t4 (pkt (show K (s_at t4) ≠ 0 from by omega)) (pnf (by decide)) (by decide) (by decide) (rkl rk_81 (show 5 + 16 * (30 - (s_op t4)) < n from by omega))) bd_81 (fun v8 t8 i_t8 (e8 : s_at t4 ≤ s_at t8) (o8 : s_op t8 = s_op t4) b8 => ?_)
          obtain ⟨a8, p8, h8, g8, w8, -⟩ := id i_t8
          exact Ok_ret ⟨i_t8, show s_at s ≤ s_at t8 from by omega, show s_op t8 = s_op s from by omega, show 1 < 16387 from by omega, (fun q => by cases q)⟩
        · exact Ok_ret ⟨i_t4, show s_at s ≤ s_at t4 from by omega, show s_op t4 = s_op s from by omega, show 1 < 16387 from by omega, (fun q => by cases q)⟩
theorem T_X1_range {cnt N : Nat} {K : Nat → Nat} (G : Kg cnt N K) {n : Nat} {rc : Nat → Nat → Nat → Ss → Rs Ss} (R : Sp cnt N K n rc) {x1 : Nat} {s : Ss} (i_s : Iv cnt N s) (hz : K (s_at s) ≠ 0) (hx1 : x1 < 16387) (hm : 5 + 16 * (30 - s_op s) < n + 1) : Ok (Po cnt N K s (s_op s) 16387 false) (Iv cnt N) (b_X1_range K N rc x1 s) := by
  obtain ⟨hc, hN, hk, hz9⟩ := id G
  obtain ⟨a0, p0, h0, g0, w0, -⟩ := id i_s
  unfold b_X1_range
  refine Ok_take G i_s (show K (s_at s) ≠ 0 from by omega) (fun t1 i_t1 (e1 : s_at t1 = s_at s + 1) (o1 : s_op t1 = s_op s) => ?_)
  obtain ⟨a1, p1, h1, g1, w1, -⟩ := id i_t1
  refine Ok_rc (R 29 (by decide) _ _ _ i_t1 (pkf pk_29) (pnf (by decide)) (by decide) (by decide) (rkl rk_29 (show 4 + 16 * (30 - (s_op t1)) < n from by omega))) bd_29 (fun v2 t2 i_t2 (e2 : s_at t1 ≤ s_at t2) (o2 : s_op t2 = s_op t1) b2 => ?_)
  obtain ⟨a2, p2, h2, g2, w2, -⟩ := id i_t2
  refine Ok_put G i_t2 (show x1 + 1 < 20000 from by omega) (fun t3 i_t3 (e3 : s_at t3 = s_at t2) (o3 : s_op t3 = s_op t2) => ?_)
  obtain ⟨a3, p3, h3, g3, w3, -⟩ := id i_t3
  have k3 : K (s_at t3) = K (s_at t2) := congrArg K e3
  exact Ok_ret ⟨i_t3, show s_at s ≤ s_at t3 from by omega, show s_op t3 = s_op s from by omega, show 0 < 16387 from by omega, (fun q => by cases q)⟩
theorem T_X1_restOfForHead {cnt N : Nat} {K : Nat → Nat} (G : Kg cnt N K) {n : Nat} {rc : Nat → Nat → Nat → Ss → Rs Ss} (R : Sp cnt N K n rc) {s : Ss} (i_s : Iv cnt N s) (hm : 9 + 16 * (30 - s_op s) < n + 1) : Ok (Po cnt N K s (s_op s) 16387 false) (Iv cnt N) (b_X1_restOfForHead K N rc s) := by
  obtain ⟨hc, hN, hk, hz9⟩ := id G
  obtain ⟨a0, p0, h0, g0, w0, -⟩ := id i_s
  unfold b_X1_restOfForHead
  refine Ok_sees G (by decide) (fun (q1 : K (s_at s) = 85) => ?_) (fun (q1 : K (s_at s) ≠ 85) => ?_)
  · refine Ok_ifz1 ?_
    refine Ok_expect G i_s (by decide) (by decide) (fun t2 i_t2 (e2 : s_at t2 = s_at s + 1) (o2 : s_op t2 = s_op s) => ?_)
    obtain ⟨a2, p2, h2, g2, w2, -⟩ := id i_t2
    refine Ok_put G i_t2 (by decide) (fun t3 i_t3 (e3 : s_at t3 = s_at t2) (o3 : s_op t3 = s_op t2) => ?_)
    obtain ⟨a3, p3, h3, g3, w3, -⟩ := id i_t3
    have k3 : K (s_at t3) = K (s_at t2) := congrArg K e3
    refine Ok_sees G (by decide) (fun (q4 : K (s_at t3) = 82) => ?_) (fun (q4 : K (s_at t3) ≠ 82) => ?_)
    · refine Ok_ifz1 ?_
      refine Ok_put G i_t3 (by decide) (fun t5 i_t5 (e5 : s_at t5 = s_at t3) (o5 : s_op t5 = s_op t3) => ?_)
      obtain ⟨a5, p5, h5, g5, w5, -⟩ := id i_t5
      have k5 : K (s_at t5) = K (s_at t3) := congrArg K e5
      exact Ok_ret ⟨i_t5, show s_at s ≤ s_at t5 from by omega, show s_op t5 = s_op s from by omega, show 0 < 16387 from by omega, (fun q => by cases q)⟩
    · refine Ok_ifz0 ?_
      refine Ok_rc (R 75 (by decide) _ _ _ i_t3 (pkf pk_75) (pnf (by decide)) (by decide) (by decide) (rkl rk_75 (show 8 + 16 * (30 - (s_op t3)) < n from by omega))) bd_75 (fun v6 t6 i_t6 (e6 : s_at t3 ≤ s_at t6) (o6 : s_op t6 = s_op t3) b6 => ?_)
      obtain ⟨a6, p6, h6, g6, w6, -⟩ := id i_t6
      refine Ok_put G i_t6 (by decide) (fun t7 i_t7 (e7 : s_at t7 = s_at t6) (o7 : s_op t7 = s_op t6) => ?_)
      obtain ⟨a7, p7, h7, g7, w7, -⟩ := id i_t7
      have k7 : K (s_at t7) = K (s_at t6) := congrArg K e7
      exact Ok_ret ⟨i_t7, show s_at s ≤ s_at t7 from by omega, show s_op t7 = s_op s from by omega, show 0 < 16387 from by omega, (fun q => by cases q)⟩
  · refine Ok_ifz0 ?_
    refine Ok_rc (R 29 (by decide) _ _ _ i_s (pkf pk_29) (pnf (by decide)) (by decide) (by decide) (rkl rk_29 (show 4 + 16 * (30 - (s_op s)) < n from by omega))) bd_29 (fun v8 t8 i_t8 (e8 : s_at s ≤ s_at t8) (o8 : s_op t8 = s_op s) b8 => ?_)
    obtain ⟨a8, p8, h8, g8, w8, -⟩ := id i_t8
    refine Ok_expect G i_t8 (by decide) (by decide) (fun t9 i_t9 (e9 : s_at t9 = s_at t8 + 1) (o9 : s_op t9 = s_op t8) => ?_)
    obtain ⟨a9, p9, h9, g9, w9, -⟩ := id i_t9
    refine Ok_put G i_t9 (by decide) (fun t10 i_t10 (e10 : s_at t10 = s_at t9) (o10 : s_op t10 = s_op t9) => ?_)
    obtain ⟨a10, p10, h10, g10, w10, -⟩ := id i_t10
    have k10 : K (s_at t10) = K (s_at t9) := congrArg K e10
    refine Ok_sees G (by decide) (fun (q11 : K (s_at t10) = 82) => ?_) (fun (q11 : K (s_at t10) ≠ 82) => ?_)
    · refine Ok_ifz1 ?_
      refine Ok_put G i_t10 (by decide) (fun t12 i_t12 (e12 : s_at t12 = s_at t10) (o12 : s_op t12 = s_op t10) => ?_)
      obtain ⟨a12, p12, h12, g12, w12, -⟩ := id i_t12
      have k12 : K (s_at t12) = K (s_at t10) := congrArg K e12
      exact Ok_ret ⟨i_t12, show s_at s ≤ s_at t12 from by omega, show s_op t12 = s_op s from by omega, show 0 < 16387 from by omega, (fun q => by cases q)⟩
    · refine Ok_ifz0 ?_
      refine Ok_rc (R 75 (by decide) _ _ _ i_t10 (pkf pk_75) (pnf (by decide)) (by decide) (by decide) (rkl rk_75 (show 8 + 16 * (30 - (s_op t10)) < n from by omega))) bd_75 (fun v13 t13 i_t13 (e13 : s_at t10 ≤ s_at t13) (o13 : s_op t13 = s_op t10) b13 => ?_)
      obtain ⟨a13, p13, h13, g13, w13, -⟩ := id i_t13
      refine Ok_put G i_t13 (by decide) (fun t14 i_t14 (e14 : s_at t14 = s_at t13) (o14 : s_op t14 = s_op t13) => ?_)
      obtain ⟨a14, p14, h14, g14, w14, -⟩ := id i_t14
      have k14 : K (s_at t14) = K (s_at t13) := congrArg K e14
      exact Ok_ret ⟨i_t14, show s_at s ≤ s_at t14 from by omega, show s_op t14 = s_op s from by omega, show 0 < 16387 from by omega, (fun q => by cases q)⟩
theorem T_X1_wordStmt {cnt N : Nat} {K : Nat → Nat} (G : Kg cnt N K) {n : Nat} {rc : Nat → Nat → Nat → Ss → Rs Ss} (R : Sp cnt N K n rc) {s : Ss} (i_s : Iv cnt N s) (hm : 8 + 16 * (30 - s_op s) < n + 1) : Ok (Po cnt N K s (s_op s) 2 false) (Iv cnt N) (b_X1_wordStmt K N rc s) := by
  obtain ⟨hc, hN, hk, hz9⟩ := id G
  obtain ⟨a0, p0, h0, g0, w0, -⟩ := id i_s
  unfold b_X1_wordStmt
  refine Ok_ck (G.b _) ?_
  refine Ok_ife (G.b _) (by decide) (fun q1 => ?_) (fun q1 => ?_)
  · refine Ok_rc (R 87 (by decide) _ _ _ i_s (pkt (show K (s_at s) ≠ 0 from by omega)) (pnf (by decide)) (by decide) (by decide) (rkl rk_87 (show 0 + 16 * (30 - (s_op s)) < n from by omega))) bd_87 (fun v2 t2 i_t2 (e2 : s_at s ≤ s_at t2) (o2 : s_op t2 = s_op s) b2 => ?_)
    obtain ⟨a2, p2, h2, g2, w2, -⟩ := id i_t2
    exact Ok_ret ⟨i_t2, show s_at s ≤ s_at t2 from by omega, show s_op t2 = s_op s from by omega, show 1 < 2 from by omega, (fun q => by cases q)⟩
  · refine Ok_ife (G.b _) (by decide) (fun q3 => ?_) (fun q3 => ?_)
    · exact Ok_ret ⟨i_s, show s_at s ≤ s_at s from by omega, show s_op s = s_op s from by omega, show 0 < 2 from by omega, (fun q => by cases q)⟩
    · refine Ok_ife (G.b _) (by decide) (fun q4 => ?_) (fun q4 => ?_)
      · exact Ok_ret ⟨i_s, show s_at s ≤ s_at s from by omega, show s_op s = s_op s from by omega, show 0 < 2 from by omega, (fun q => by cases q)⟩
      · refine Ok_ife (G.b _) (by decide) (fun q5 => ?_) (fun q5 => ?_)
        · exact Ok_ret ⟨i_s, show s_at s ≤ s_at s from by omega, show s_op s = s_op s from by omega, show 0 < 2 from by omega, (fun q => by cases q)⟩
        · refine Ok_ife (G.b _) (by decide) (fun q6 => ?_) (fun q6 => ?_)
          · refine Ok_rc (R 87 (by decide) _ _ _ i_s (pkt (show K (s_at s) ≠ 0 from by omega)) (pnf (by decide)) (by decide) (by decide) (rkl rk_87 (show 0 + 16 * (30 - (s_op s)) < n from by omega))) bd_87 (fun v7 t7 i_t7 (e7 : s_at s ≤ s_at t7) (o7 : s_op t7 = s_op s) b7 => ?_)
            obtain ⟨a7, p7, h7, g7, w7, -⟩ := id i_t7
            exact Ok_ret ⟨i_t7, show s_at s ≤ s_at t7 from by omega, show s_op t7 = s_op s from by omega, show 1 < 2 from by omega, (fun q => by cases q)⟩
          · refine Ok_ife (G.b _) (by decide) (fun q8 => ?_) (fun q8 => ?_)
            · exact Ok_ret ⟨i_s, show s_at s ≤ s_at s from by omega, show s_op s = s_op s from by omega, show 0 < 2 from by omega, (fun q => by cases q)⟩
            · refine Ok_ife (G.b _) (by decide) (fun q9 => ?_) (fun q9 => ?_)
              · refine Ok_rc (R 84 (by decide) _ _ _ i_s (pkt (show K (s_at s) ≠ 0 from by omega)) (pnf (by decide)) (by decide) (by decide) (rkl rk_84 (show 5 + 16 * (30 - (s_op s)) < n from by omega))) bd_84 (fun v10 t10 i_t10 (e10 : s_at s ≤ s_at t10) (o10 : s_op t10 = s_op s) b10 => ?_)
                obtain ⟨a10, p10, h10, g10, w10, -⟩ := id i_t10
                exact Ok_ret ⟨i_t10, show s_at s ≤ s_at t10 from by omega, show s_op t10 = s_op s from by omega, show 1 < 2 from by omega, (fun q => by cases q)⟩
              · refine Ok_ife (G.b _) (by decide) (fun q11 => ?_) (fun q11 => ?_)
                · exact Ok_ret ⟨i_s, show s_at s ≤ s_at s from by omega, show s_op s = s_op s from by omega, show 0 < 2 from by omega, (fun q => by cases q)⟩
                · refine Ok_ife (G.b _) (by decide) (fun q12 => ?_) (fun q12 => ?_)
                  · refine Ok_putLeaf G i_s (show K (s_at s) ≠ 0 from by omega) (fun t13 i_t13 (e13 : s_at t13 = s_at s + 1) (o13 : s_op t13 = s_op s) => ?_)
                    obtain ⟨a13, p13, h13, g13, w13, -⟩ := id i_t13
                    exact Ok_ret ⟨i_t13, show s_at s ≤ s_at t13 from by omega, show s_op t13 = s_op s from by omega, show 1 < 2 from by omega, (fun q => by cases q)⟩
                  · refine Ok_ife (G.b _) (by decide) (fun q14 => ?_) (fun q14 => ?_)
                    · exact Ok_ret ⟨i_s, show s_at s ≤ s_at s from by omega, show s_op s = s_op s from by omega, show 0 < 2 from by omega, (fun q => by cases q)⟩
                    · refine Ok_ife (G.b _) (by decide) (fun q15 => ?_) (fun q15 => ?_)
                      · exact Ok_ret ⟨i_s, show s_at s ≤ s_at s from by omega, show s_op s = s_op s from by omega, show 0 < 2 from by omega, (fun q => by cases q)⟩
                      · refine Ok_ife (G.b _) (by decide) (fun q16 => ?_) (fun q16 => ?_)
                        · refine Ok_rc (R 84 (by decide) _ _ _ i_s (pkt (show K (s_at s) ≠ 0 from by omega)) (pnf (by decide)) (by decide) (by decide) (rkl rk_84 (show 5 + 16 * (30 - (s_op s)) < n from by omega))) bd_84 (fun v17 t17 i_t17 (e17 : s_at s ≤ s_at t17) (o17 : s_op t17 = s_op s) b17 => ?_)
                          obtain ⟨a17, p17, h17, g17, w17, -⟩ := id i_t17
                          exact Ok_ret ⟨i_t17, show s_at s ≤ s_at t17 from by omega, show s_op t17 = s_op s from by omega, show 1 < 2 from by omega, (fun q => by cases q)⟩
                        · refine Ok_ife (G.b _) (by decide) (fun q18 => ?_) (fun q18 => ?_)
                          · exact Ok_ret ⟨i_s, show s_at s ≤ s_at s from by omega, show s_op s = s_op s from by omega, show 0 < 2 from by omega, (fun q => by cases q)⟩
                          · refine Ok_ife (G.b _) (by decide) (fun q19 => ?_) (fun q19 => ?_)
                            · exact Ok_ret ⟨i_s, show s_at s ≤ s_at s from by omega, show s_op s = s_op s from by omega, show 0 < 2 from by omega, (fun q => by cases q)⟩
                            · refine Ok_ife (G.b _) (by decide) (fun q20 => ?_) (fun q20 => ?_)
                              · exact Ok_ret ⟨i_s, show s_at s ≤ s_at s from by omega, show s_op s = s_op s from by omega, show 0 < 2 from by omega, (fun q => by cases q)⟩
                              · refine Ok_ife (G.b _) (by decide) (fun q21 => ?_) (fun q21 => ?_)
                                · exact Ok_ret ⟨i_s, show s_at s ≤ s_at s from by omega, show s_op s = s_op s from by omega, show 0 < 2 from by omega, (fun q => by cases q)⟩
                                · refine Ok_ife (G.b _) (by decide) (fun q22 => ?_) (fun q22 => ?_)
                                  · exact Ok_ret ⟨i_s, show s_at s ≤ s_at s from by omega, show s_op s = s_op s from by omega, show 0 < 2 from by omega, (fun q => by cases q)⟩
                                  · refine Ok_ife (G.b _) (by decide) (fun q23 => ?_) (fun q23 => ?_)
                                    · exact Ok_ret ⟨i_s, show s_at s ≤ s_at s from by omega, show s_op s = s_op s from by omega, show 0 < 2 from by omega, (fun q => by cases q)⟩
                                    · refine Ok_ife (G.b _) (by decide) (fun q24 => ?_) (fun q24 => ?_)
                                      · exact Ok_ret ⟨i_s, show s_at s ≤ s_at s from by omega, show s_op s = s_op s from by omega, show 0 < 2 from by omega, (fun q => by cases q)⟩
                                      · refine Ok_ife (G.b _) (by decide) (fun q25 => ?_) (fun q25 => ?_)
                                        · refine Ok_rc (R 85 (by decide) _ _ _ i_s (pkt (show K (s_at s) ≠ 0 from by omega)) (pnf (by decide)) (by decide) (by decide) (rkl rk_85 (show 7 + 16 * (30 - (s_op s)) < n from by omega))) bd_85 (fun v26 t26 i_t26 (e26 : s_at s ≤ s_at t26) (o26 : s_op t26 = s_op s) b26 => ?_)
                                          obtain ⟨a26, p26, h26, g26, w26, -⟩ := id i_t26
                                          exact Ok_ret ⟨i_t26, show s_at s ≤ s_at t26 from by omega, show s_op t26 = s_op s from by omega, show 1 < 2 from by omega, (fun q => by cases q)⟩
                                        · exact Ok_ret ⟨i_s, show s_at s ≤ s_at s from by omega, show s_op s = s_op s from by omega, show 0 < 2 from by omega, (fun q => by cases q)⟩
theorem T_X1_startStmt {cnt N : Nat} {K : Nat → Nat} (G : Kg cnt N K) {n : Nat} {rc : Nat → Nat → Nat → Ss → Rs Ss} (R : Sp cnt N K n rc) {x1 : Nat} {s : Ss} (i_s : Iv cnt N s) (hz : K (s_at s) ≠ 0) (hx1 : x1 < 16387) (hm : 5 + 16 * (30 - s_op s) < n + 1) : Ok (Po cnt N K s (s_op s) 16387 false) (Iv cnt N) (b_X1_startStmt K N rc x1 s) := by
  obtain ⟨hc, hN, hk, hz9⟩ := id G
  obtain ⟨a0, p0, h0, g0, w0, -⟩ := id i_s
  unfold b_X1_startStmt
  refine Ok_take G i_s (show K (s_at s) ≠ 0 from by omega) (fun t1 i_t1 (e1 : s_at t1 = s_at s + 1) (o1 : s_op t1 = s_op s) => ?_)
  obtain ⟨a1, p1, h1, g1, w1, -⟩ := id i_t1
  refine Ok_rc (R 29 (by decide) _ _ _ i_t1 (pkf pk_29) (pnf (by decide)) (by decide) (by decide) (rkl rk_29 (show 4 + 16 * (30 - (s_op t1)) < n from by omega))) bd_29 (fun v2 t2 i_t2 (e2 : s_at t1 ≤ s_at t2) (o2 : s_op t2 = s_op t1) b2 => ?_)
  obtain ⟨a2, p2, h2, g2, w2, -⟩ := id i_t2
  refine Ok_put G i_t2 (by decide) (fun t3 i_t3 (e3 : s_at t3 = s_at t2) (o3 : s_op t3 = s_op t2) => ?_)
  obtain ⟨a3, p3, h3, g3, w3, -⟩ := id i_t3
  have k3 : K (s_at t3) = K (s_at t2) := congrArg K e3
  exact Ok_ret ⟨i_t3, show s_at s ≤ s_at t3 from by omega, show s_op t3 = s_op s from by omega, show 0 < 16387 from by omega, (fun q => by cases q)⟩
theorem T_X1_returnStmt {cnt N : Nat} {K : Nat → Nat} (G : Kg cnt N K) {n : Nat} {rc : Nat → Nat → Nat → Ss → Rs Ss} (R : Sp cnt N K n rc) {s : Ss} (i_s : Iv cnt N s) (hz : K (s_at s) ≠ 0) (hm : 7 + 16 * (30 - s_op s) < n + 1) : Ok (Po cnt N K s (s_op s) 16387 false) (Iv cnt N) (b_X1_returnStmt K N rc s) := by
  obtain ⟨hc, hN, hk, hz9⟩ := id G
  obtain ⟨a0, p0, h0, g0, w0, -⟩ := id i_s
  unfold b_X1_returnStmt
  refine Ok_take G i_s (show K (s_at s) ≠ 0 from by omega) (fun t1 i_t1 (e1 : s_at t1 = s_at s + 1) (o1 : s_op t1 = s_op s) => ?_)
  obtain ⟨a1, p1, h1, g1, w1, -⟩ := id i_t1
  refine Ok_ck (G.b _) ?_
  refine Ok_ifz (Nat.lt_trans (fb_beginsExpr _) (by decide)) (fun q2 => ?_) (fun q2 => ?_)
  · refine Ok_put G i_t1 (by decide) (fun t3 i_t3 (e3 : s_at t3 = s_at t1) (o3 : s_op t3 = s_op t1) => ?_)
    obtain ⟨a3, p3, h3, g3, w3, -⟩ := id i_t3
    have k3 : K (s_at t3) = K (s_at t1) := congrArg K e3
    exact Ok_ret ⟨i_t3, show s_at s ≤ s_at t3 from by omega, show s_op t3 = s_op s from by omega, show 0 < 16387 from by omega, (fun q => by cases q)⟩
  · have q2n := fn_beginsExpr q2
    refine Ok_rc (R 55 (by decide) _ _ _ i_t1 (pkf pk_55) (pnf (by decide)) (by decide) (by decide) (rkl rk_55 (show 6 + 16 * (30 - (s_op t1)) < n from by omega))) bd_55 (fun v4 t4 i_t4 (e4 : s_at t1 ≤ s_at t4) (o4 : s_op t4 = s_op t1) b4 => ?_)
    obtain ⟨a4, p4, h4, g4, w4, -⟩ := id i_t4
    refine Ok_put G i_t4 (by decide) (fun t5 i_t5 (e5 : s_at t5 = s_at t4) (o5 : s_op t5 = s_op t4) => ?_)
    obtain ⟨a5, p5, h5, g5, w5, -⟩ := id i_t5
    have k5 : K (s_at t5) = K (s_at t4) := congrArg K e5
    exact Ok_ret ⟨i_t5, show s_at s ≤ s_at t5 from by omega, show s_op t5 = s_op s from by omega, show 0 < 16387 from by omega, (fun q => by cases q)⟩
theorem T_X1_jumpStmt {cnt N : Nat} {K : Nat → Nat} (G : Kg cnt N K) {n : Nat} {rc : Nat → Nat → Nat → Ss → Rs Ss} (R : Sp cnt N K n rc) {x1 : Nat} {s : Ss} (i_s : Iv cnt N s) (hz : K (s_at s) ≠ 0) (hx1 : x1 < 16387) (hm : 0 + 16 * (30 - s_op s) < n + 1) : Ok (Po cnt N K s (s_op s) 16387 false) (Iv cnt N) (b_X1_jumpStmt K N rc x1 s) := by
  obtain ⟨hc, hN, hk, hz9⟩ := id G
  obtain ⟨a0, p0, h0, g0, w0, -⟩ := id i_s
  unfold b_X1_jumpStmt
  refine Ok_take G i_s (show K (s_at s) ≠ 0 from by omega) (fun t1 i_t1 (e1 : s_at t1 = s_at s + 1) (o1 : s_op t1 = s_op s) => ?_)
  obtain ⟨a1, p1, h1, g1, w1, -⟩ := id i_t1
  refine Ok_sees G (by decide) (fun (q2 : K (s_at t1) = 1) => ?_) (fun (q2 : K (s_at t1) ≠ 1) => ?_)
  · refine Ok_ifz1 ?_
    refine Ok_name G i_t1 (fun t3 i_t3 (e3 : s_at t3 = s_at t1 + 1) (o3 : s_op t3 = s_op t1) => ?_)
    obtain ⟨a3, p3, h3, g3, w3, -⟩ := id i_t3
    refine Ok_put G i_t3 (by decide) (fun t4 i_t4 (e4 : s_at t4 = s_at t3) (o4 : s_op t4 = s_op t3) => ?_)
    obtain ⟨a4, p4, h4, g4, w4, -⟩ := id i_t4
    have k4 : K (s_at t4) = K (s_at t3) := congrArg K e4
    exact Ok_ret ⟨i_t4, show s_at s ≤ s_at t4 from by omega, show s_op t4 = s_op s from by omega, show 0 < 16387 from by omega, (fun q => by cases q)⟩
  · refine Ok_ifz0 ?_
    refine Ok_put G i_t1 (by decide) (fun t5 i_t5 (e5 : s_at t5 = s_at t1) (o5 : s_op t5 = s_op t1) => ?_)
    obtain ⟨a5, p5, h5, g5, w5, -⟩ := id i_t5
    have k5 : K (s_at t5) = K (s_at t1) := congrArg K e5
    exact Ok_ret ⟨i_t5, show s_at s ≤ s_at t5 from by omega, show s_op t5 = s_op s from by omega, show 0 < 16387 from by omega, (fun q => by cases q)⟩
theorem T_X1_simpleStmt {cnt N : Nat} {K : Nat → Nat} (G : Kg cnt N K) {n : Nat} {rc : Nat → Nat → Nat → Ss → Rs Ss} (R : Sp cnt N K n rc) {s : Ss} (i_s : Iv cnt N s) (hm : 9 + 16 * (30 - s_op s) < n + 1) : Ok (Po cnt N K s (s_op s) 2 false) (Iv cnt N) (b_X1_simpleStmt K N rc s) := by
  obtain ⟨hc, hN, hk, hz9⟩ := id G
  obtain ⟨a0, p0, h0, g0, w0, -⟩ := id i_s
  unfold b_X1_simpleStmt
  refine Ok_ck (G.b _) ?_
  refine Ok_ifz (Nat.lt_trans (fb_beginsExpr _) (by decide)) (fun q1 => ?_) (fun q1 => ?_)
  · exact Ok_ret ⟨i_s, show s_at s ≤ s_at s from by omega, show s_op s = s_op s from by omega, show 0 < 2 from by omega, (fun q => by cases q)⟩
  · have q1n := fn_beginsExpr q1
    refine Ok_sees G (by decide) (fun (q2 : K (s_at s) = 1) => ?_) (fun (q2 : K (s_at s) ≠ 1) => ?_)
    · refine Ok_ifz1 ?_
      refine Ok_next G i_s ?_
      refine Ok_ife (G.b _) (by decide) (fun q3 => ?_) (fun q3 => ?_)
      · refine Ok_rc (R 89 (by decide) _ _ _ i_s (pkf pk_89) (pnf (by decide)) (by decide) (by decide) (rkl rk_89 (show 0 + 16 * (30 - (s_op s)) < n from by omega))) bd_89 (fun v4 t4 i_t4 (e4 : s_at s ≤ s_at t4) (o4 : s_op t4 = s_op s) b4 => ?_)
        obtain ⟨a4, p4, h4, g4, w4, -⟩ := id i_t4
        exact Ok_ret ⟨i_t4, show s_at s ≤ s_at t4 from by omega, show s_op t4 = s_op s from by omega, show 1 < 2 from by omega, (fun q => by cases q)⟩
      · refine Ok_rc (R 75 (by decide) _ _ _ i_s (pkf pk_75) (pnf (by decide)) (by decide) (by decide) (rkl rk_75 (show 8 + 16 * (30 - (s_op s)) < n from by omega))) bd_75 (fun v5 t5 i_t5 (e5 : s_at s ≤ s_at t5) (o5 : s_op t5 = s_op s) b5 => ?_)
        obtain ⟨a5, p5, h5, g5, w5, -⟩ := id i_t5
        exact Ok_ret ⟨i_t5, show s_at s ≤ s_at t5 from by omega, show s_op t5 = s_op s from by omega, show 1 < 2 from by omega, (fun q => by cases q)⟩
    · refine Ok_ifz0 ?_
      refine Ok_rc (R 75 (by decide) _ _ _ i_s (pkf pk_75) (pnf (by decide)) (by decide) (by decide) (rkl rk_75 (show 8 + 16 * (30 - (s_op s)) < n from by omega))) bd_75 (fun v6 t6 i_t6 (e6 : s_at s ≤ s_at t6) (o6 : s_op t6 = s_op s) b6 => ?_)
      obtain ⟨a6, p6, h6, g6, w6, -⟩ := id i_t6
      exact Ok_ret ⟨i_t6, show s_at s ≤ s_at t6 from by omega, show s_op t6 = s_op s from by omega, show 1 < 2 from by omega, (fun q => by cases q)⟩
theorem T_X1_labeledStmt {cnt N : Nat} {K : Nat → Nat} (G : Kg cnt N K) {n : Nat} {rc : Nat → Nat → Nat → Ss → Rs Ss} (R : Sp cnt N K n rc) {s : Ss} (i_s : Iv cnt N s) (hm : 0 + 16 * (30 - s_op s) < n + 1) : Ok (Po cnt N K s (s_op s) 16387 false) (Iv cnt N) (b_X1_labeledStmt K N rc s) := by
  obtain ⟨hc, hN, hk, hz9⟩ := id G
  obtain ⟨a0, p0, h0, g0, w0, -⟩ := id i_s
  unfold b_X1_labeledStmt
  refine Ok_name G i_s (fun t1 i_t1 (e1 : s_at t1 = s_at s + 1) (o1 : s_op t1 = s_op s) => ?_)
  obtain ⟨a1, p1, h1, g1, w1, -⟩ := id i_t1
  refine Ok_enter G i_t1 (by decide) (by decide) (fun t2 i_t2 (e2 : s_at t2 = s_at t1 + 1) (o2 : s_op t2 = s_op t1 + 1) => ?_)
  obtain ⟨a2, p2, h2, g2, w2, -⟩ := id i_t2
  refine Ok_rc (R 49 (by decide) _ _ _ i_t2 (pkf pk_49) (pnf (by decide)) (by decide) (by decide) (rkl rk_49 (show 12 + 16 * (30 - (s_op t2)) < n from by omega))) bd_49 (fun v3 t3 i_t3 (e3 : s_at t2 ≤ s_at t3) (o3 : s_op t3 = s_op t2) b3 => ?_)
  obtain ⟨a3, p3, h3, g3, w3, -⟩ := id i_t3
  refine Ok_ifz (show v3 < 2147483648 from by omega) (fun q4 => ?_) (fun q4 => ?_)
  · refine Ok_close i_t3 (show s_op t3 ≠ 0 from by omega) (fun t5 i_t5 (e5 : s_at t5 = s_at t3) (o5 : s_op t5 = s_op t3 - 1) => ?_)
    obtain ⟨a5, p5, h5, g5, w5, -⟩ := id i_t5
    have k5 : K (s_at t5) = K (s_at t3) := congrArg K e5
    refine Ok_put G i_t5 (by decide) (fun t6 i_t6 (e6 : s_at t6 = s_at t5) (o6 : s_op t6 = s_op t5) => ?_)
    obtain ⟨a6, p6, h6, g6, w6, -⟩ := id i_t6
    have k6 : K (s_at t6) = K (s_at t5) := congrArg K e6
    exact Ok_ret ⟨i_t6, show s_at s ≤ s_at t6 from by omega, show s_op t6 = s_op s from by omega, show 0 < 16387 from by omega, (fun q => by cases q)⟩
  · refine Ok_close i_t3 (show s_op t3 ≠ 0 from by omega) (fun t7 i_t7 (e7 : s_at t7 = s_at t3) (o7 : s_op t7 = s_op t3 - 1) => ?_)
    obtain ⟨a7, p7, h7, g7, w7, -⟩ := id i_t7
    have k7 : K (s_at t7) = K (s_at t3) := congrArg K e7
    refine Ok_put G i_t7 (by decide) (fun t8 i_t8 (e8 : s_at t8 = s_at t7) (o8 : s_op t8 = s_op t7) => ?_)
    obtain ⟨a8, p8, h8, g8, w8, -⟩ := id i_t8
    have k8 : K (s_at t8) = K (s_at t7) := congrArg K e8
    exact Ok_ret ⟨i_t8, show s_at s ≤ s_at t8 from by omega, show s_op t8 = s_op s from by omega, show 0 < 16387 from by omega, (fun q => by cases q)⟩
theorem T_X1_countedArrayType {cnt N : Nat} {K : Nat → Nat} (G : Kg cnt N K) {n : Nat} {rc : Nat → Nat → Nat → Ss → Rs Ss} (R : Sp cnt N K n rc) {s : Ss} (i_s : Iv cnt N s) (hz : K (s_at s) ≠ 0) (hz2 : K (s_at s + 1) ≠ 0) (hm : 0 + 16 * (30 - s_op s) < n + 1) : Ok (Po cnt N K s (s_op s) 16387 false) (Iv cnt N) (b_X1_countedArrayType K N rc s) := by
  obtain ⟨hc, hN, hk, hz9⟩ := id G
  obtain ⟨a0, p0, h0, g0, w0, -⟩ := id i_s
  unfold b_X1_countedArrayType
  refine Ok_opn i_s (fun t1 i_t1 (e1 : s_at t1 = s_at s) (o1 : s_op t1 = s_op s + 1) => ?_)
  obtain ⟨a1, p1, h1, g1, w1, -⟩ := id i_t1
  have k1 : K (s_at t1) = K (s_at s) := congrArg K e1
  have l1 : K (s_at t1 + 1) = K (s_at s + 1) := congrArg (fun j => K (j + 1)) e1
  refine Ok_take G i_t1 (show K (s_at t1) ≠ 0 from by omega) (fun t2 i_t2 (e2 : s_at t2 = s_at t1 + 1) (o2 : s_op t2 = s_op t1) => ?_)
  obtain ⟨a2, p2, h2, g2, w2, -⟩ := id i_t2
  have k2 : K (s_at t2) = K (s_at t1 + 1) := congrArg K e2
  refine Ok_putLeaf G i_t2 (show K (s_at t2) ≠ 0 from by omega) (fun t3 i_t3 (e3 : s_at t3 = s_at t2 + 1) (o3 : s_op t3 = s_op t2) => ?_)
  obtain ⟨a3, p3, h3, g3, w3, -⟩ := id i_t3
  have k3 : K (s_at t3) = K (s_at t2 + 1) := congrArg K e3
  refine Ok_expect G i_t3 (by decide) (by decide) (fun t4 i_t4 (e4 : s_at t4 = s_at t3 + 1) (o4 : s_op t4 = s_op t3) => ?_)
  obtain ⟨a4, p4, h4, g4, w4, -⟩ := id i_t4
  have k4 : K (s_at t4) = K (s_at t3 + 1) := congrArg K e4
  refine Ok_rc (R 26 (by decide) _ _ _ i_t4 (pkf pk_26) (pnf (by decide)) (by decide) (by decide) (rkl rk_26 (show 0 + 16 * (30 - (s_op t4)) < n from by omega))) bd_26 (fun v5 t5 i_t5 (e5 : s_at t4 ≤ s_at t5) (o5 : s_op t5 = s_op t4) b5 => ?_)
  obtain ⟨a5, p5, h5, g5, w5, -⟩ := id i_t5
  refine Ok_close i_t5 (show s_op t5 ≠ 0 from by omega) (fun t6 i_t6 (e6 : s_at t6 = s_at t5) (o6 : s_op t6 = s_op t5 - 1) => ?_)
  obtain ⟨a6, p6, h6, g6, w6, -⟩ := id i_t6
  have k6 : K (s_at t6) = K (s_at t5) := congrArg K e6
  have l6 : K (s_at t6 + 1) = K (s_at t5 + 1) := congrArg (fun j => K (j + 1)) e6
  refine Ok_put G i_t6 (by decide) (fun t7 i_t7 (e7 : s_at t7 = s_at t6) (o7 : s_op t7 = s_op t6) => ?_)
  obtain ⟨a7, p7, h7, g7, w7, -⟩ := id i_t7
  have k7 : K (s_at t7) = K (s_at t6) := congrArg K e7
  have l7 : K (s_at t7 + 1) = K (s_at t6 + 1) := congrArg (fun j => K (j + 1)) e7
  exact Ok_ret ⟨i_t7, show s_at s ≤ s_at t7 from by omega, show s_op t7 = s_op s from by omega, show 0 < 16387 from by omega, (fun q => by cases q)⟩
theorem T_X1_behindOperand {cnt N : Nat} {K : Nat → Nat} (G : Kg cnt N K) {n : Nat} {rc : Nat → Nat → Nat → Ss → Rs Ss} (R : Sp cnt N K n rc) {x1 : Nat} {s : Ss} (i_s : Iv cnt N s) (hx1 : x1 < 16387) (hm : 1 + 16 * (30 - s_op s) < n + 1) : Ok (Po cnt N K s (s_op s) 2 false) (Iv cnt N) (b_X1_behindOperand K N rc x1 s) := by
  obtain ⟨hc, hN, hk, hz9⟩ := id G
  obtain ⟨a0, p0, h0, g0, w0, -⟩ := id i_s
  unfold b_X1_behindOperand
  refine Ok_ck (G.b _) ?_
  refine Ok_ife (G.b _) (by decide) (fun q1 => ?_) (fun q1 => ?_)
  · refine Ok_rc (R 95 (by decide) _ _ _ i_s (pkf pk_95) (pnf (by decide)) (by decide) (by decide) (rkl rk_95 (show 0 + 16 * (30 - (s_op s)) < n from by omega))) bd_95 (fun v2 t2 i_t2 (e2 : s_at s ≤ s_at t2) (o2 : s_op t2 = s_op s) b2 => ?_)
    obtain ⟨a2, p2, h2, g2, w2, -⟩ := id i_t2
    exact Ok_ret ⟨i_t2, show s_at s ≤ s_at t2 from by omega, show s_op t2 = s_op s from by omega, show 1 < 2 from by omega, (fun q => by cases q)⟩
  · refine Ok_ife (G.b _) (by decide) (fun q3 => ?_) (fun q3 => ?_)
    · refine Ok_rc (R 93 (by decide) _ _ _ i_s (pkf pk_93) (pnf (by decide)) (by decide) (by decide) (rkl rk_93 (show 0 + 16 * (30 - (s_op s)) < n from by omega))) bd_93 (fun v4 t4 i_t4 (e4 : s_at s ≤ s_at t4) (o4 : s_op t4 = s_op s) b4 => ?_)
      obtain ⟨a4, p4, h4, g4, w4, -⟩ := id i_t4
      exact Ok_ret ⟨i_t4, show s_at s ≤ s_at t4 from by omega, show s_op t4 = s_op s from by omega, show 1 < 2 from by omega, (fun q => by cases q)⟩
    · refine Ok_ife (G.b _) (by decide) (fun q5 => ?_) (fun q5 => ?_)
      · refine Ok_rc (R 92 (by decide) _ _ _ i_s (pkt (show K (s_at s) ≠ 0 from by omega)) (pnf (by decide)) (show x1 < 16387 from by omega) (by decide) (rkl rk_92 (show 0 + 16 * (30 - (s_op s)) < n from by omega))) bd_92 (fun v6 t6 i_t6 (e6 : s_at s ≤ s_at t6) (o6 : s_op t6 = s_op s) b6 => ?_)
        obtain ⟨a6, p6, h6, g6, w6, -⟩ := id i_t6
        refine Ok_ck (show v6 < 2 from by omega) ?_
        exact Ok_ret ⟨i_t6, show s_at s ≤ s_at t6 from by omega, show s_op t6 = s_op s from by omega, show v6 < 2 from by omega, (fun q => by cases q)⟩
      · exact Ok_ret ⟨i_s, show s_at s ≤ s_at s from by omega, show s_op s = s_op s from by omega, show 0 < 2 from by omega, (fun q => by cases q)⟩
theorem T_X1_dot {cnt N : Nat} {K : Nat → Nat} (G : Kg cnt N K) {n : Nat} {rc : Nat → Nat → Nat → Ss → Rs Ss} (R : Sp cnt N K n rc) {x1 : Nat} {s : Ss} (i_s : Iv cnt N s) (hz : K (s_at s) ≠ 0) (hx1 : x1 < 16387) (hm : 0 + 16 * (30 - s_op s) < n + 1) : Ok (Po cnt N K s (s_op s) 2 false) (Iv cnt N) (b_X1_dot K N rc x1 s) := by
  obtain ⟨hc, hN, hk, hz9⟩ := id G
  obtain ⟨a0, p0, h0, g0, w0, -⟩ := id i_s
  unfold b_X1_dot
  refine Ok_take G i_s (show K (s_at s) ≠ 0 from by omega) (fun t1 i_t1 (e1 : s_at t1 = s_at s + 1) (o1 : s_op t1 = s_op s) => ?_)
  obtain ⟨a1, p1, h1, g1, w1, -⟩ := id i_t1
  refine Ok_sees G (by decide) (fun (q2 : K (s_at t1) = 78) => ?_) (fun (q2 : K (s_at t1) ≠ 78) => ?_)
  · refine Ok_ifz1 ?_
    refine Ok_enter G i_t1 (by decide) (by decide) (fun t3 i_t3 (e3 : s_at t3 = s_at t1 + 1) (o3 : s_op t3 = s_op t1 + 1) => ?_)
    obtain ⟨a3, p3, h3, g3, w3, -⟩ := id i_t3
    refine Ok_ifz (show x1 < 2147483648 from by omega) (fun q4 => ?_) (fun q4 => ?_)
    · refine Ok_rc (R 26 (by decide) _ _ _ i_t3 (pkf pk_26) (pnf (by decide)) (by decide) (by decide) (rkl rk_26 (show 0 + 16 * (30 - (s_op t3)) < n from by omega))) bd_26 (fun v5 t5 i_t5 (e5 : s_at t3 ≤ s_at t5) (o5 : s_op t5 = s_op t3) b5 => ?_)
      obtain ⟨a5, p5, h5, g5, w5, -⟩ := id i_t5
      refine Ok_put G i_t5 (by decide) (fun t6 i_t6 (e6 : s_at t6 = s_at t5) (o6 : s_op t6 = s_op t5) => ?_)
      obtain ⟨a6, p6, h6, g6, w6, -⟩ := id i_t6
      have k6 : K (s_at t6) = K (s_at t5) := congrArg K e6
      refine Ok_leave G i_t6 (by decide) (by decide) (show s_op t6 ≠ 0 from by omega) (fun t7 i_t7 (e7 : s_at t7 = s_at t6 + 1) (o7 : s_op t7 = s_op t6 - 1) => ?_)
      obtain ⟨a7, p7, h7, g7, w7, -⟩ := id i_t7
      exact Ok_ret ⟨i_t7, show s_at s ≤ s_at t7 from by omega, show s_op t7 = s_op s from by omega, show 1 < 2 from by omega, (fun q => by cases q)⟩
    · refine Ok_sees G (by decide) (fun (q8 : K (s_at t3) = 33) => ?_) (fun (q8 : K (s_at t3) ≠ 33) => ?_)
      · refine Ok_ifz1 ?_
        refine Ok_take G i_t3 (show K (s_at t3) ≠ 0 from by omega) (fun t9 i_t9 (e9 : s_at t9 = s_at t3 + 1) (o9 : s_op t9 = s_op t3) => ?_)
        obtain ⟨a9, p9, h9, g9, w9, -⟩ := id i_t9
        refine Ok_leave G (Iv_gw i_t9 (show (s_at t3) + 1 ≤ cnt from by omega)) (by decide) (by decide) (show s_op t9 ≠ 0 from by omega) (fun t10 i_t10 (e10 : s_at t10 = s_at t9 + 1) (o10 : s_op t10 = s_op t9 - 1) => ?_)
        obtain ⟨a10, p10, h10, g10, w10, -⟩ := id i_t10
        exact Ok_ret ⟨i_t10, show s_at s ≤ s_at t10 from by omega, show s_op t10 = s_op s from by omega, show 0 < 2 from by omega, (fun q => by cases q)⟩
      · refine Ok_ifz0 ?_
        refine Ok_rc (R 26 (by decide) _ _ _ i_t3 (pkf pk_26) (pnf (by decide)) (by decide) (by decide) (rkl rk_26 (show 0 + 16 * (30 - (s_op t3)) < n from by omega))) bd_26 (fun v11 t11 i_t11 (e11 : s_at t3 ≤ s_at t11) (o11 : s_op t11 = s_op t3) b11 => ?_)
        obtain ⟨a11, p11, h11, g11, w11, -⟩ := id i_t11
        refine Ok_put G i_t11 (by decide) (fun t12 i_t12 (e12 : s_at t12 = s_at t11) (o12 : s_op t12 = s_op t11) => ?_)
        obtain ⟨a12, p12, h12, g12, w12, -⟩ := id i_t12
        have k12 : K (s_at t12) = K (s_at t11) := congrArg K e12
        refine Ok_leave G i_t12 (by decide) (by decide) (show s_op t12 ≠ 0 from by omega) (fun t13 i_t13 (e13 : s_at t13 = s_at t12 + 1) (o13 : s_op t13 = s_op t12 - 1) => ?_)
        obtain ⟨a13, p13, h13, g13, w13, -⟩ := id i_t13
        exact Ok_ret ⟨i_t13, show s_at s ≤ s_at t13 from by omega, show s_op t13 = s_op s from by omega, show 1 < 2 from by omega, (fun q => by cases q)⟩
  · refine Ok_ifz0 ?_
    refine Ok_name G i_t1 (fun t14 i_t14 (e14 : s_at t14 = s_at t1 + 1) (o14 : s_op t14 = s_op t1) => ?_)
    obtain ⟨a14, p14, h14, g14, w14, -⟩ := id i_t14
    refine Ok_put G i_t14 (by decide) (fun t15 i_t15 (e15 : s_at t15 = s_at t14) (o15 : s_op t15 = s_op t14) => ?_)
    obtain ⟨a15, p15, h15, g15, w15, -⟩ := id i_t15
    have k15 : K (s_at t15) = K (s_at t14) := congrArg K e15
    exact Ok_ret ⟨i_t15, show s_at s ≤ s_at t15 from by omega, show s_op t15 = s_op s from by omega, show 1 < 2 from by omega, (fun q => by cases q)⟩
theorem T_X1_index {cnt N : Nat} {K : Nat → Nat} (G : Kg cnt N K) {n : Nat} {rc : Nat → Nat → Nat → Ss → Rs Ss} (R : Sp cnt N K n rc) {s : Ss} (i_s : Iv cnt N s) (hm : 0 + 16 * (30 - s_op s) < n + 1) : Ok (Po cnt N K s (s_op s) 16387 false) (Iv cnt N) (b_X1_index K N rc s) := by
  obtain ⟨hc, hN, hk, hz9⟩ := id G
  obtain ⟨a0, p0, h0, g0, w0, -⟩ := id i_s
  unfold b_X1_index
  refine Ok_enter G i_s (by decide) (by decide) (fun t1 i_t1 (e1 : s_at t1 = s_at s + 1) (o1 : s_op t1 = s_op s + 1) => ?_)
  obtain ⟨a1, p1, h1, g1, w1, -⟩ := id i_t1
  refine Ok_sees G (by decide) (fun (q2 : K (s_at t1) = 87) => ?_) (fun (q2 : K (s_at t1) ≠ 87) => ?_)
  · refine Ok_ifz1 ?_
    refine Ok_put G (Iv_ih i_t1 (show 0 < 2 from by omega)) (by decide) (fun t3 i_t3 (e3 : s_at t3 = s_at t1) (o3 : s_op t3 = s_op t1) => ?_)
    obtain ⟨a3, p3, h3, g3, w3, -⟩ := id i_t3
    have k3 : K (s_at t3) = K (s_at t1) := congrArg K e3
    refine Ok_accept G i_t3 (by decide) (by decide) (fun t4 i_t4 (e4 : s_at t4 = s_at t3 + 1) (o4 : s_op t4 = s_op t3) => ?_) (fun (q5 : K (s_at t3) ≠ 87) => ?_)
    · obtain ⟨a4, p4, h4, g4, w4, -⟩ := id i_t4
      refine Ok_ifz1 ?_
      refine Ok_rc (R 94 (by decide) _ _ _ i_t4 (pkf pk_94) (pnf (by decide)) (by decide) (by decide) (rkl rk_94 (show 5 + 16 * (30 - (s_op t4)) < n from by omega))) bd_94 (fun v6 t6 i_t6 (e6 : s_at t4 ≤ s_at t6) (o6 : s_op t6 = s_op t4) b6 => ?_)
      obtain ⟨a6, p6, h6, g6, w6, -⟩ := id i_t6
      refine Ok_leave G i_t6 (by decide) (by decide) (show s_op t6 ≠ 0 from by omega) (fun t7 i_t7 (e7 : s_at t7 = s_at t6 + 1) (o7 : s_op t7 = s_op t6 - 1) => ?_)
      obtain ⟨a7, p7, h7, g7, w7, -⟩ := id i_t7
      refine Ok_ck (show (s_ih s) < 2 from by omega) ?_
      refine Ok_put G (Iv_ih i_t7 (show s_ih s < 2 from by omega)) (show 2 + v6 < 20000 from by omega) (fun t8 i_t8 (e8 : s_at t8 = s_at t7) (o8 : s_op t8 = s_op t7) => ?_)
      obtain ⟨a8, p8, h8, g8, w8, -⟩ := id i_t8
      have k8 : K (s_at t8) = K (s_at t7) := congrArg K e8
      exact Ok_ret ⟨i_t8, show s_at s ≤ s_at t8 from by omega, show s_op t8 = s_op s from by omega, show 0 < 16387 from by omega, (fun q => by cases q)⟩
    · refine Ok_ifz0 ?_
      refine Ok_leave G i_t3 (by decide) (by decide) (show s_op t3 ≠ 0 from by omega) (fun t9 i_t9 (e9 : s_at t9 = s_at t3 + 1) (o9 : s_op t9 = s_op t3 - 1) => ?_)
      obtain ⟨a9, p9, h9, g9, w9, -⟩ := id i_t9
      refine Ok_ck (show (s_ih s) < 2 from by omega) ?_
      refine Ok_put G (Iv_ih i_t9 (show s_ih s < 2 from by omega)) (by decide) (fun t10 i_t10 (e10 : s_at t10 = s_at t9) (o10 : s_op t10 = s_op t9) => ?_)
      obtain ⟨a10, p10, h10, g10, w10, -⟩ := id i_t10
      have k10 : K (s_at t10) = K (s_at t9) := congrArg K e10
      exact Ok_ret ⟨i_t10, show s_at s ≤ s_at t10 from by omega, show s_op t10 = s_op s from by omega, show 0 < 16387 from by omega, (fun q => by cases q)⟩
  · refine Ok_ifz0 ?_
    refine Ok_rc (R 29 (by decide) _ _ _ (Iv_ih i_t1 (show 0 < 2 from by omega)) (pkf pk_29) (pnf (by decide)) (by decide) (by decide) (rkl rk_29 (show 4 + 16 * (30 - (s_op t1)) < n from by omega))) bd_29 (fun v11 t11 i_t11 (e11 : s_at t1 ≤ s_at t11) (o11 : s_op t11 = s_op t1) b11 => ?_)
    obtain ⟨a11, p11, h11, g11, w11, -⟩ := id i_t11
    refine Ok_accept G i_t11 (by decide) (by decide) (fun t12 i_t12 (e12 : s_at t12 = s_at t11 + 1) (o12 : s_op t12 = s_op t11) => ?_) (fun (q13 : K (s_at t11) ≠ 87) => ?_)
    · obtain ⟨a12, p12, h12, g12, w12, -⟩ := id i_t12
      refine Ok_ifz1 ?_
      refine Ok_rc (R 94 (by decide) _ _ _ i_t12 (pkf pk_94) (pnf (by decide)) (by decide) (by decide) (rkl rk_94 (show 5 + 16 * (30 - (s_op t12)) < n from by omega))) bd_94 (fun v14 t14 i_t14 (e14 : s_at t12 ≤ s_at t14) (o14 : s_op t14 = s_op t12) b14 => ?_)
      obtain ⟨a14, p14, h14, g14, w14, -⟩ := id i_t14
      refine Ok_leave G i_t14 (by decide) (by decide) (show s_op t14 ≠ 0 from by omega) (fun t15 i_t15 (e15 : s_at t15 = s_at t14 + 1) (o15 : s_op t15 = s_op t14 - 1) => ?_)
      obtain ⟨a15, p15, h15, g15, w15, -⟩ := id i_t15
      refine Ok_ck (show (s_ih s) < 2 from by omega) ?_
      refine Ok_put G (Iv_ih i_t15 (show s_ih s < 2 from by omega)) (show 2 + v14 < 20000 from by omega) (fun t16 i_t16 (e16 : s_at t16 = s_at t15) (o16 : s_op t16 = s_op t15) => ?_)
      obtain ⟨a16, p16, h16, g16, w16, -⟩ := id i_t16
      have k16 : K (s_at t16) = K (s_at t15) := congrArg K e16
      exact Ok_ret ⟨i_t16, show s_at s ≤ s_at t16 from by omega, show s_op t16 = s_op s from by omega, show 0 < 16387 from by omega, (fun q => by cases q)⟩
    · refine Ok_ifz0 ?_
      refine Ok_leave G i_t11 (by decide) (by decide) (show s_op t11 ≠ 0 from by omega) (fun t17 i_t17 (e17 : s_at t17 = s_at t11 + 1) (o17 : s_op t17 = s_op t11 - 1) => ?_)
      obtain ⟨a17, p17, h17, g17, w17, -⟩ := id i_t17
      refine Ok_ck (show (s_ih s) < 2 from by omega) ?_
      refine Ok_put G (Iv_ih i_t17 (show s_ih s < 2 from by omega)) (by decide) (fun t18 i_t18 (e18 : s_at t18 = s_at t17) (o18 : s_op t18 = s_op t17) => ?_)
      obtain ⟨a18, p18, h18, g18, w18, -⟩ := id i_t18
      have k18 : K (s_at t18) = K (s_at t17) := congrArg K e18
      exact Ok_ret ⟨i_t18, show s_at s ≤ s_at t18 from by omega, show s_op t18 = s_op s from by omega, show 0 < 16387 from by omega, (fun q => by cases q)⟩
theorem T_X1_upperBounds {cnt N : Nat} {K : Nat → Nat} (G : Kg cnt N K) {n : Nat} {rc : Nat → Nat → Nat → Ss → Rs Ss} (R : Sp cnt N K n rc) {s : Ss} (i_s : Iv cnt N s) (hm : 5 + 16 * (30 - s_op s) < n + 1) : Ok (Po cnt N K s (s_op s) 16387 false) (Iv cnt N) (b_X1_upperBounds K N rc s) := by
  obtain ⟨hc, hN, hk, hz9⟩ := id G
  obtain ⟨a0, p0, h0, g0, w0, -⟩ := id i_s
  unfold b_X1_upperBounds
  refine Ok_sees G (by decide) (fun (q1 : K (s_at s) = 81) => ?_) (fun (q1 : K (s_at s) ≠ 81) => ?_)
  · refine Ok_ifz1 ?_
    refine Ok_put G i_s (by decide) (fun t2 i_t2 (e2 : s_at t2 = s_at s) (o2 : s_op t2 = s_op s) => ?_)
    obtain ⟨a2, p2, h2, g2, w2, -⟩ := id i_t2
    have k2 : K (s_at t2) = K (s_at s) := congrArg K e2
    exact Ok_ret ⟨i_t2, show s_at s ≤ s_at t2 from by omega, show s_op t2 = s_op s from by omega, show 1 < 16387 from by omega, (fun q => by cases q)⟩
  · refine Ok_ifz0 ?_
    refine Ok_rc (R 29 (by decide) _ _ _ i_s (pkf pk_29) (pnf (by decide)) (by decide) (by decide) (rkl rk_29 (show 4 + 16 * (30 - (s_op s)) < n from by omega))) bd_29 (fun v3 t3 i_t3 (e3 : s_at s ≤ s_at t3) (o3 : s_op t3 = s_op s) b3 => ?_)
    obtain ⟨a3, p3, h3, g3, w3, -⟩ := id i_t3
    refine Ok_accept G i_t3 (by decide) (by decide) (fun t4 i_t4 (e4 : s_at t4 = s_at t3 + 1) (o4 : s_op t4 = s_op t3) => ?_) (fun (q5 : K (s_at t3) ≠ 87) => ?_)
    · obtain ⟨a4, p4, h4, g4, w4, -⟩ := id i_t4
      refine Ok_ifz1 ?_
      refine Ok_rc (R 29 (by decide) _ _ _ i_t4 (pkf pk_29) (pnf (by decide)) (by decide) (by decide) (rkl rk_29 (show 4 + 16 * (30 - (s_op t4)) < n from by omega))) bd_29 (fun v6 t6 i_t6 (e6 : s_at t4 ≤ s_at t6) (o6 : s_op t6 = s_op t4) b6 => ?_)
      obtain ⟨a6, p6, h6, g6, w6, -⟩ := id i_t6
      exact Ok_ret ⟨i_t6, show s_at s ≤ s_at t6 from by omega, show s_op t6 = s_op s from by omega, show 2 < 16387 from by omega, (fun q => by cases q)⟩
    · refine Ok_ifz0 ?_
      exact Ok_ret ⟨i_t3, show s_at s ≤ s_at t3 from by omega, show s_op t3 = s_op s from by omega, show 1 < 16387 from by omega, (fun q => by cases q)⟩
theorem T_lp_X1_call_22 {cnt N : Nat} {K : Nat → Nat} (G : Kg cnt N K) {n : Nat} {rc : Nat → Nat → Nat → Ss → Rs Ss} (R : Sp cnt N K n rc) : ∀ (f y1 y2 y3 y4 : Nat) (s : Ss), Iv cnt N s → 16387 ≤ f + y3 → y3 ≤ 16386 → y1 < 2 → 1 ≤ s_op s → y1 < 16387 → y2 < 16387 → y3 < 16387 → y4 < 16387 → 4 + 16 * (30 - s_op s) < n → Ok (Po cnt N K s (s_op s - 1) 16387 false) (Iv cnt N) (lp_X1_call_22 K N rc f y1 y2 y3 y4 s) := by
  obtain ⟨hc, hN, hk, hz9⟩ := id G
  intro f
  induction f with
  | zero => intro y1 y2 y3 y4 s i_s c1 c2 j0 j1 hy1 hy2 hy3 hy4 hm; omega
  | succ f ih =>
    intro y1 y2 y3 y4 s i_s c1 c2 j0 j1 hy1 hy2 hy3 hy4 hm
    obtain ⟨a0, p0, h0, g0, w0, -⟩ := id i_s
    rw [lp_X1_call_22]
    refine Ok_ifl (show y3 < 2147483648 from by omega) (by decide) (fun q1 => ?_) (fun q1 => ?_)
    · refine Ok_ifz (show y4 < 2147483648 from by omega) (fun q2 => ?_) (fun q2 => ?_)
      · refine Ok_leave G i_s (by decide) (by decide) (show s_op s ≠ 0 from by omega) (fun t3 i_t3 (e3 : s_at t3 = s_at s + 1) (o3 : s_op t3 = s_op s - 1) => ?_)
        obtain ⟨a3, p3, h3, g3, w3, -⟩ := id i_t3
        refine Ok_ck (show y1 < 2 from by omega) ?_
        refine Ok_put G (Iv_ih i_t3 (show y1 < 2 from by omega)) (show y3 < 20000 from by omega) (fun t4 i_t4 (e4 : s_at t4 = s_at t3) (o4 : s_op t4 = s_op t3) => ?_)
        obtain ⟨a4, p4, h4, g4, w4, -⟩ := id i_t4
        have k4 : K (s_at t4) = K (s_at t3) := congrArg K e4
        exact Ok_ret ⟨i_t4, show s_at s ≤ s_at t4 from by omega, show s_op t4 = s_op s - 1 from by omega, show 0 < 16387 from by omega, (fun q => by cases q)⟩
      · refine Ok_sees G (by decide) (fun (q5 : K (s_at s) = 79) => ?_) (fun (q5 : K (s_at s) ≠ 79) => ?_)
        · refine Ok_ifz1 ?_
          refine Ok_leave G i_s (by decide) (by decide) (show s_op s ≠ 0 from by omega) (fun t6 i_t6 (e6 : s_at t6 = s_at s + 1) (o6 : s_op t6 = s_op s - 1) => ?_)
          obtain ⟨a6, p6, h6, g6, w6, -⟩ := id i_t6
          refine Ok_ck (show y1 < 2 from by omega) ?_
          refine Ok_put G (Iv_ih i_t6 (show y1 < 2 from by omega)) (show y3 < 20000 from by omega) (fun t7 i_t7 (e7 : s_at t7 = s_at t6) (o7 : s_op t7 = s_op t6) => ?_)
          obtain ⟨a7, p7, h7, g7, w7, -⟩ := id i_t7
          have k7 : K (s_at t7) = K (s_at t6) := congrArg K e7
          exact Ok_ret ⟨i_t7, show s_at s ≤ s_at t7 from by omega, show s_op t7 = s_op s - 1 from by omega, show 0 < 16387 from by omega, (fun q => by cases q)⟩
        · refine Ok_ifz0 ?_
          refine Ok_rc (R 29 (by decide) _ _ _ i_s (pkf pk_29) (pnf (by decide)) (by decide) (by decide) (rkl rk_29 (show 4 + 16 * (30 - (s_op s)) < n from by omega))) bd_29 (fun v8 t8 i_t8 (e8 : s_at s ≤ s_at t8) (o8 : s_op t8 = s_op s) b8 => ?_)
          obtain ⟨a8, p8, h8, g8, w8, -⟩ := id i_t8
          refine Ok_sees G (by decide) (fun (q9 : K (s_at t8) = 77) => ?_) (fun (q9 : K (s_at t8) ≠ 77) => ?_)
          · refine Ok_ifz1 ?_
            refine Ok_putLeaf G i_t8 (show K (s_at t8) ≠ 0 from by omega) (fun t10 i_t10 (e10 : s_at t10 = s_at t8 + 1) (o10 : s_op t10 = s_op t8) => ?_)
            obtain ⟨a10, p10, h10, g10, w10, -⟩ := id i_t10
            refine Ok_accept G i_t10 (by decide) (by decide) (fun t11 i_t11 (e11 : s_at t11 = s_at t10 + 1) (o11 : s_op t11 = s_op t10) => ?_) (fun (q12 : K (s_at t10) ≠ 84) => ?_)
            · obtain ⟨a11, p11, h11, g11, w11, -⟩ := id i_t11
              refine Ok_ifz1 ?_
              refine Ok_ifz1 ?_
              refine Ok_imp (ih y1 y2 ((y3 + 1) + 1) 0 _ i_t11 (show 16387 ≤ f + ((y3 + 1) + 1) from by omega) (show (y3 + 1) + 1 ≤ 16386 from by omega) (show y1 < 2 from by omega) (show 1 ≤ (s_op t11) from by omega) (show y1 < 16387 from by omega) (show y2 < 16387 from by omega) (show (y3 + 1) + 1 < 16387 from by omega) (by decide) (show 4 + 16 * (30 - (s_op t11)) < n from by omega)) (fun v13 t13 z13 => ?_)
              obtain ⟨i_t13, e13, o13, b13, x13⟩ := z13
              have e13 : s_at t11 ≤ s_at t13 := e13
              have o13 : s_op t13 = (s_op t11) - 1 := o13
              exact ⟨i_t13, by omega, by omega, by omega, (fun q => by cases q)⟩
            · refine Ok_ifz0 ?_
              refine Ok_imp (ih y1 y2 ((y3 + 1) + 1) 0 _ i_t10 (show 16387 ≤ f + ((y3 + 1) + 1) from by omega) (show (y3 + 1) + 1 ≤ 16386 from by omega) (show y1 < 2 from by omega) (show 1 ≤ (s_op t10) from by omega) (show y1 < 16387 from by omega) (show y2 < 16387 from by omega) (show (y3 + 1) + 1 < 16387 from by omega) (by decide) (show 4 + 16 * (30 - (s_op t10)) < n from by omega)) (fun v14 t14 z14 => ?_)
              obtain ⟨i_t14, e14, o14, b14, x14⟩ := z14
              have e14 : s_at t10 ≤ s_at t14 := e14
              have o14 : s_op t14 = (s_op t10) - 1 := o14
              exact ⟨i_t14, by omega, by omega, by omega, (fun q => by cases q)⟩
          · refine Ok_ifz0 ?_
            refine Ok_accept G i_t8 (by decide) (by decide) (fun t15 i_t15 (e15 : s_at t15 = s_at t8 + 1) (o15 : s_op t15 = s_op t8) => ?_) (fun (q16 : K (s_at t8) ≠ 84) => ?_)
            · obtain ⟨a15, p15, h15, g15, w15, -⟩ := id i_t15
              refine Ok_ifz1 ?_
              refine Ok_ifz0 ?_
              refine Ok_imp (ih y1 y2 (y3 + 1) 1 _ i_t15 (show 16387 ≤ f + (y3 + 1) from by omega) (show y3 + 1 ≤ 16386 from by omega) (show y1 < 2 from by omega) (show 1 ≤ (s_op t15) from by omega) (show y1 < 16387 from by omega) (show y2 < 16387 from by omega) (show y3 + 1 < 16387 from by omega) (by decide) (show 4 + 16 * (30 - (s_op t15)) < n from by omega)) (fun v17 t17 z17 => ?_)
              obtain ⟨i_t17, e17, o17, b17, x17⟩ := z17
              have e17 : s_at t15 ≤ s_at t17 := e17
              have o17 : s_op t17 = (s_op t15) - 1 := o17
              exact ⟨i_t17, by omega, by omega, by omega, (fun q => by cases q)⟩
            · refine Ok_ifz0 ?_
              refine Ok_imp (ih y1 y2 (y3 + 1) 0 _ i_t8 (show 16387 ≤ f + (y3 + 1) from by omega) (show y3 + 1 ≤ 16386 from by omega) (show y1 < 2 from by omega) (show 1 ≤ (s_op t8) from by omega) (show y1 < 16387 from by omega) (show y2 < 16387 from by omega) (show y3 + 1 < 16387 from by omega) (by decide) (show 4 + 16 * (30 - (s_op t8)) < n from by omega)) (fun v18 t18 z18 => ?_)
              obtain ⟨i_t18, e18, o18, b18, x18⟩ := z18
              have e18 : s_at t8 ≤ s_at t18 := e18
              have o18 : s_op t18 = (s_op t8) - 1 := o18
              exact ⟨i_t18, by omega, by omega, by omega, (fun q => by cases q)⟩
    · refine Ok_leave G i_s (by decide) (by decide) (show s_op s ≠ 0 from by omega) (fun t19 i_t19 (e19 : s_at t19 = s_at s + 1) (o19 : s_op t19 = s_op s - 1) => ?_)
      obtain ⟨a19, p19, h19, g19, w19, -⟩ := id i_t19
      refine Ok_ck (show y1 < 2 from by omega) ?_
      refine Ok_put G (Iv_ih i_t19 (show y1 < 2 from by omega)) (show y3 < 20000 from by omega) (fun t20 i_t20 (e20 : s_at t20 = s_at t19) (o20 : s_op t20 = s_op t19) => ?_)
      obtain ⟨a20, p20, h20, g20, w20, -⟩ := id i_t20
      have k20 : K (s_at t20) = K (s_at t19) := congrArg K e20
      exact Ok_ret ⟨i_t20, show s_at s ≤ s_at t20 from by omega, show s_op t20 = s_op s - 1 from by omega, show 0 < 16387 from by omega, (fun q => by cases q)⟩
theorem T_X1_call {cnt N : Nat} {K : Nat → Nat} (G : Kg cnt N K) {n : Nat} {rc : Nat → Nat → Nat → Ss → Rs Ss} (R : Sp cnt N K n rc) {s : Ss} (i_s : Iv cnt N s) (hm : 0 + 16 * (30 - s_op s) < n + 1) : Ok (Po cnt N K s (s_op s) 16387 false) (Iv cnt N) (b_X1_call K N rc s) := by
  obtain ⟨hc, hN, hk, hz9⟩ := id G
  obtain ⟨a0, p0, h0, g0, w0, -⟩ := id i_s
  unfold b_X1_call
  refine Ok_enter G i_s (by decide) (by decide) (fun t1 i_t1 (e1 : s_at t1 = s_at s + 1) (o1 : s_op t1 = s_op s + 1) => ?_)
  obtain ⟨a1, p1, h1, g1, w1, -⟩ := id i_t1
  refine Ok_imp (T_lp_X1_call_22 G R LF (s_ih s) (s_at s) 1 1 _ (Iv_ih i_t1 (show 0 < 2 from by omega)) (show 16387 ≤ LF + 1 from by unfold LF; omega) (show 1 ≤ 16386 from by omega) (show (s_ih s) < 2 from by omega) (show 1 ≤ (s_op t1) from by omega) (show s_ih s < 16387 from by omega) (show s_at s < 16387 from by omega) (by decide) (by decide) (show 4 + 16 * (30 - (s_op t1)) < n from by omega)) (fun v2 t2 z2 => ?_)
  obtain ⟨i_t2, e2, o2, b2, x2⟩ := z2
  have e2 : s_at t1 ≤ s_at t2 := e2
  have o2 : s_op t2 = (s_op t1) - 1 := o2
  exact ⟨i_t2, by omega, by omega, by omega, (fun q => by cases q)⟩
