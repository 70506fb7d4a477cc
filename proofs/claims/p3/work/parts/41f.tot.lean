/-! The methods of the parser, one by one. -/
theorem T_X1_mapType {cnt N : Nat} {K : Nat → Nat} (G : Kg cnt N K) {n : Nat} {rc : Nat → Nat → Nat → Ss → Rs Ss} (R : Sp cnt N K n rc) {s : Ss} (i_s : Iv cnt N s) (hz : K (s_at s) ≠ 0) (hm : 1 + 16 * (30 - s_op s) < n + 1) : Ok (Po cnt N K s (s_op s) 16387 false) (Iv cnt N) (b_X1_mapType K N rc s) := by
  obtain ⟨hc, hN, hk, hz9⟩ := id G
  obtain ⟨a0, p0, h0, g0, w0, -⟩ := id i_s
  unfold b_X1_mapType
  refine Ok_take G i_s (show K (s_at s) ≠ 0 from by omega) (fun t1 i_t1 (e1 : s_at t1 = s_at s + 1) (o1 : s_op t1 = s_op s) => ?_)
  obtain ⟨a1, p1, h1, g1, w1, -⟩ := id i_t1
  refine Ok_enter G i_t1 (by decide) (by decide) (fun t2 i_t2 (e2 : s_at t2 = s_at t1 + 1) (o2 : s_op t2 = s_op t1 + 1) => ?_)
  obtain ⟨a2, p2, h2, g2, w2, -⟩ := id i_t2
  refine Ok_rc (R 26 (by decide) _ _ _ i_t2 (pkf pk_26) (pnf (by decide)) (by decide) (by decide) (rkl rk_26 (show 0 + 16 * (30 - (s_op t2)) < n from by omega))) bd_26 (fun v3 t3 i_t3 (e3 : s_at t2 ≤ s_at t3) (o3 : s_op t3 = s_op t2) b3 => ?_)
  obtain ⟨a3, p3, h3, g3, w3, -⟩ := id i_t3
  refine Ok_leave G i_t3 (by decide) (by decide) (show s_op t3 ≠ 0 from by omega) (fun t4 i_t4 (e4 : s_at t4 = s_at t3 + 1) (o4 : s_op t4 = s_op t3 - 1) => ?_)
  obtain ⟨a4, p4, h4, g4, w4, -⟩ := id i_t4
  refine Ok_rc (R 26 (by decide) _ _ _ i_t4 (pkf pk_26) (pnf (by decide)) (by decide) (by decide) (rkl rk_26 (show 0 + 16 * (30 - (s_op t4)) < n from by omega))) bd_26 (fun v5 t5 i_t5 (e5 : s_at t4 ≤ s_at t5) (o5 : s_op t5 = s_op t4) b5 => ?_)
  obtain ⟨a5, p5, h5, g5, w5, -⟩ := id i_t5
  refine Ok_put G i_t5 (by decide) (fun t6 i_t6 (e6 : s_at t6 = s_at t5) (o6 : s_op t6 = s_op t5) => ?_)
  obtain ⟨a6, p6, h6, g6, w6, -⟩ := id i_t6
  have k6 : K (s_at t6) = K (s_at t5) := congrArg K e6
  exact Ok_ret ⟨i_t6, show s_at s ≤ s_at t6 from by omega, show s_op t6 = s_op s from by omega, show 0 < 16387 from by omega, (fun q => by cases q)⟩
theorem T_X1_chanType {cnt N : Nat} {K : Nat → Nat} (G : Kg cnt N K) {n : Nat} {rc : Nat → Nat → Nat → Ss → Rs Ss} (R : Sp cnt N K n rc) {s : Ss} (i_s : Iv cnt N s) (hz : K (s_at s) ≠ 0) (hm : 1 + 16 * (30 - s_op s) < n + 1) : Ok (Po cnt N K s (s_op s) 16387 false) (Iv cnt N) (b_X1_chanType K N rc s) := by
  obtain ⟨hc, hN, hk, hz9⟩ := id G
  obtain ⟨a0, p0, h0, g0, w0, -⟩ := id i_s
  unfold b_X1_chanType
  refine Ok_take G i_s (show K (s_at s) ≠ 0 from by omega) (fun t1 i_t1 (e1 : s_at t1 = s_at s + 1) (o1 : s_op t1 = s_op s) => ?_)
  obtain ⟨a1, p1, h1, g1, w1, -⟩ := id i_t1
  refine Ok_accept G i_t1 (by decide) (by decide) (fun t2 i_t2 (e2 : s_at t2 = s_at t1 + 1) (o2 : s_op t2 = s_op t1) => ?_) (fun (q3 : K (s_at t1) ≠ 64) => ?_)
  · obtain ⟨a2, p2, h2, g2, w2, -⟩ := id i_t2
    refine Ok_ifz1 ?_
    refine Ok_rc (R 26 (by decide) _ _ _ i_t2 (pkf pk_26) (pnf (by decide)) (by decide) (by decide) (rkl rk_26 (show 0 + 16 * (30 - (s_op t2)) < n from by omega))) bd_26 (fun v4 t4 i_t4 (e4 : s_at t2 ≤ s_at t4) (o4 : s_op t4 = s_op t2) b4 => ?_)
    obtain ⟨a4, p4, h4, g4, w4, -⟩ := id i_t4
    refine Ok_put G i_t4 (by decide) (fun t5 i_t5 (e5 : s_at t5 = s_at t4) (o5 : s_op t5 = s_op t4) => ?_)
    obtain ⟨a5, p5, h5, g5, w5, -⟩ := id i_t5
    have k5 : K (s_at t5) = K (s_at t4) := congrArg K e5
    exact Ok_ret ⟨i_t5, show s_at s ≤ s_at t5 from by omega, show s_op t5 = s_op s from by omega, show 0 < 16387 from by omega, (fun q => by cases q)⟩
  · refine Ok_ifz0 ?_
    refine Ok_rc (R 26 (by decide) _ _ _ i_t1 (pkf pk_26) (pnf (by decide)) (by decide) (by decide) (rkl rk_26 (show 0 + 16 * (30 - (s_op t1)) < n from by omega))) bd_26 (fun v6 t6 i_t6 (e6 : s_at t1 ≤ s_at t6) (o6 : s_op t6 = s_op t1) b6 => ?_)
    obtain ⟨a6, p6, h6, g6, w6, -⟩ := id i_t6
    refine Ok_put G i_t6 (by decide) (fun t7 i_t7 (e7 : s_at t7 = s_at t6) (o7 : s_op t7 = s_op t6) => ?_)
    obtain ⟨a7, p7, h7, g7, w7, -⟩ := id i_t7
    have k7 : K (s_at t7) = K (s_at t6) := congrArg K e7
    exact Ok_ret ⟨i_t7, show s_at s ≤ s_at t7 from by omega, show s_op t7 = s_op s from by omega, show 0 < 16387 from by omega, (fun q => by cases q)⟩
theorem T_X1_receiveChanType {cnt N : Nat} {K : Nat → Nat} (G : Kg cnt N K) {n : Nat} {rc : Nat → Nat → Nat → Ss → Rs Ss} (R : Sp cnt N K n rc) {s : Ss} (i_s : Iv cnt N s) (hz : K (s_at s) ≠ 0) (hm : 1 + 16 * (30 - s_op s) < n + 1) : Ok (Po cnt N K s (s_op s) 16387 false) (Iv cnt N) (b_X1_receiveChanType K N rc s) := by
  obtain ⟨hc, hN, hk, hz9⟩ := id G
  obtain ⟨a0, p0, h0, g0, w0, -⟩ := id i_s
  unfold b_X1_receiveChanType
  refine Ok_take G i_s (show K (s_at s) ≠ 0 from by omega) (fun t1 i_t1 (e1 : s_at t1 = s_at s + 1) (o1 : s_op t1 = s_op s) => ?_)
  obtain ⟨a1, p1, h1, g1, w1, -⟩ := id i_t1
  refine Ok_expect G i_t1 (by decide) (by decide) (fun t2 i_t2 (e2 : s_at t2 = s_at t1 + 1) (o2 : s_op t2 = s_op t1) => ?_)
  obtain ⟨a2, p2, h2, g2, w2, -⟩ := id i_t2
  refine Ok_rc (R 26 (by decide) _ _ _ i_t2 (pkf pk_26) (pnf (by decide)) (by decide) (by decide) (rkl rk_26 (show 0 + 16 * (30 - (s_op t2)) < n from by omega))) bd_26 (fun v3 t3 i_t3 (e3 : s_at t2 ≤ s_at t3) (o3 : s_op t3 = s_op t2) b3 => ?_)
  obtain ⟨a3, p3, h3, g3, w3, -⟩ := id i_t3
  refine Ok_put G i_t3 (by decide) (fun t4 i_t4 (e4 : s_at t4 = s_at t3) (o4 : s_op t4 = s_op t3) => ?_)
  obtain ⟨a4, p4, h4, g4, w4, -⟩ := id i_t4
  have k4 : K (s_at t4) = K (s_at t3) := congrArg K e4
  exact Ok_ret ⟨i_t4, show s_at s ≤ s_at t4 from by omega, show s_op t4 = s_op s from by omega, show 0 < 16387 from by omega, (fun q => by cases q)⟩
theorem T_X1_pointerType {cnt N : Nat} {K : Nat → Nat} (G : Kg cnt N K) {n : Nat} {rc : Nat → Nat → Nat → Ss → Rs Ss} (R : Sp cnt N K n rc) {s : Ss} (i_s : Iv cnt N s) (hz : K (s_at s) ≠ 0) (hm : 1 + 16 * (30 - s_op s) < n + 1) : Ok (Po cnt N K s (s_op s) 16387 false) (Iv cnt N) (b_X1_pointerType K N rc s) := by
  obtain ⟨hc, hN, hk, hz9⟩ := id G
  obtain ⟨a0, p0, h0, g0, w0, -⟩ := id i_s
  unfold b_X1_pointerType
  refine Ok_take G i_s (show K (s_at s) ≠ 0 from by omega) (fun t1 i_t1 (e1 : s_at t1 = s_at s + 1) (o1 : s_op t1 = s_op s) => ?_)
  obtain ⟨a1, p1, h1, g1, w1, -⟩ := id i_t1
  refine Ok_rc (R 26 (by decide) _ _ _ i_t1 (pkf pk_26) (pnf (by decide)) (by decide) (by decide) (rkl rk_26 (show 0 + 16 * (30 - (s_op t1)) < n from by omega))) bd_26 (fun v2 t2 i_t2 (e2 : s_at t1 ≤ s_at t2) (o2 : s_op t2 = s_op t1) b2 => ?_)
  obtain ⟨a2, p2, h2, g2, w2, -⟩ := id i_t2
  refine Ok_put G i_t2 (by decide) (fun t3 i_t3 (e3 : s_at t3 = s_at t2) (o3 : s_op t3 = s_op t2) => ?_)
  obtain ⟨a3, p3, h3, g3, w3, -⟩ := id i_t3
  have k3 : K (s_at t3) = K (s_at t2) := congrArg K e3
  exact Ok_ret ⟨i_t3, show s_at s ≤ s_at t3 from by omega, show s_op t3 = s_op s from by omega, show 0 < 16387 from by omega, (fun q => by cases q)⟩
theorem T_lp_X1_structType_16 {cnt N : Nat} {K : Nat → Nat} (G : Kg cnt N K) {n : Nat} {rc : Nat → Nat → Nat → Ss → Rs Ss} (R : Sp cnt N K n rc) : ∀ (f y1 y2 y3 : Nat) (s : Ss), Iv cnt N s → 16387 ≤ f + y2 → y2 ≤ 16386 → 1 ≤ s_op s → y1 < 16387 → y2 < 16387 → y3 < 16387 → 0 + 16 * (30 - s_op s) < n → Ok (Po cnt N K s (s_op s - 1) 16387 false) (Iv cnt N) (lp_X1_structType_16 K N rc f y1 y2 y3 s) := by
  obtain ⟨hc, hN, hk, hz9⟩ := id G
  intro f
  induction f with
  | zero => intro y1 y2 y3 s i_s c1 c2 j0 hy1 hy2 hy3 hm; omega
  | succ f ih =>
    intro y1 y2 y3 s i_s c1 c2 j0 hy1 hy2 hy3 hm
    obtain ⟨a0, p0, h0, g0, w0, -⟩ := id i_s
    rw [lp_X1_structType_16]
    refine Ok_ifl (show y2 < 2147483648 from by omega) (by decide) (fun q1 => ?_) (fun q1 => ?_)
    · refine Ok_ifz (show y3 < 2147483648 from by omega) (fun q2 => ?_) (fun q2 => ?_)
      · refine Ok_leave G i_s (by decide) (by decide) (show s_op s ≠ 0 from by omega) (fun t3 i_t3 (e3 : s_at t3 = s_at s + 1) (o3 : s_op t3 = s_op s - 1) => ?_)
        obtain ⟨a3, p3, h3, g3, w3, -⟩ := id i_t3
        refine Ok_put G i_t3 (show y2 < 20000 from by omega) (fun t4 i_t4 (e4 : s_at t4 = s_at t3) (o4 : s_op t4 = s_op t3) => ?_)
        obtain ⟨a4, p4, h4, g4, w4, -⟩ := id i_t4
        have k4 : K (s_at t4) = K (s_at t3) := congrArg K e4
        exact Ok_ret ⟨i_t4, show s_at s ≤ s_at t4 from by omega, show s_op t4 = s_op s - 1 from by omega, show 0 < 16387 from by omega, (fun q => by cases q)⟩
      · refine Ok_sees G (by decide) (fun (q5 : K (s_at s) = 1) => ?_) (fun (q5 : K (s_at s) ≠ 1) => ?_)
        · refine Ok_ifz1 ?_
          refine Ok_rc (R 54 (by decide) _ _ _ i_s (pkf pk_54) (pnf (by decide)) (by decide) (by decide) (rkl rk_54 (show 0 + 16 * (30 - (s_op s)) < n from by omega))) bd_54 (fun v6 t6 i_t6 (e6 : s_at s ≤ s_at t6) (o6 : s_op t6 = s_op s) b6 => ?_)
          obtain ⟨a6, p6, h6, g6, w6, -⟩ := id i_t6
          refine Ok_rc (R 26 (by decide) _ _ _ i_t6 (pkf pk_26) (pnf (by decide)) (by decide) (by decide) (rkl rk_26 (show 0 + 16 * (30 - (s_op t6)) < n from by omega))) bd_26 (fun v7 t7 i_t7 (e7 : s_at t6 ≤ s_at t7) (o7 : s_op t7 = s_op t6) b7 => ?_)
          obtain ⟨a7, p7, h7, g7, w7, -⟩ := id i_t7
          refine Ok_put G i_t7 (by decide) (fun t8 i_t8 (e8 : s_at t8 = s_at t7) (o8 : s_op t8 = s_op t7) => ?_)
          obtain ⟨a8, p8, h8, g8, w8, -⟩ := id i_t8
          have k8 : K (s_at t8) = K (s_at t7) := congrArg K e8
          refine Ok_accept G i_t8 (by decide) (by decide) (fun t9 i_t9 (e9 : s_at t9 = s_at t8 + 1) (o9 : s_op t9 = s_op t8) => ?_) (fun (q10 : K (s_at t8) ≠ 85) => ?_)
          · obtain ⟨a9, p9, h9, g9, w9, -⟩ := id i_t9
            refine Ok_imp (ih y1 (y2 + 1) 1 _ i_t9 (show 16387 ≤ f + (y2 + 1) from by omega) (show y2 + 1 ≤ 16386 from by omega) (show 1 ≤ (s_op t9) from by omega) (show y1 < 16387 from by omega) (show y2 + 1 < 16387 from by omega) (by decide) (show 0 + 16 * (30 - (s_op t9)) < n from by omega)) (fun v11 t11 z11 => ?_)
            obtain ⟨i_t11, e11, o11, b11, x11⟩ := z11
            have e11 : s_at t9 ≤ s_at t11 := e11
            have o11 : s_op t11 = (s_op t9) - 1 := o11
            exact ⟨i_t11, by omega, by omega, by omega, (fun q => by cases q)⟩
          · refine Ok_imp (ih y1 (y2 + 1) 0 _ i_t8 (show 16387 ≤ f + (y2 + 1) from by omega) (show y2 + 1 ≤ 16386 from by omega) (show 1 ≤ (s_op t8) from by omega) (show y1 < 16387 from by omega) (show y2 + 1 < 16387 from by omega) (by decide) (show 0 + 16 * (30 - (s_op t8)) < n from by omega)) (fun v12 t12 z12 => ?_)
            obtain ⟨i_t12, e12, o12, b12, x12⟩ := z12
            have e12 : s_at t8 ≤ s_at t12 := e12
            have o12 : s_op t12 = (s_op t8) - 1 := o12
            exact ⟨i_t12, by omega, by omega, by omega, (fun q => by cases q)⟩
        · refine Ok_ifz0 ?_
          refine Ok_leave G i_s (by decide) (by decide) (show s_op s ≠ 0 from by omega) (fun t13 i_t13 (e13 : s_at t13 = s_at s + 1) (o13 : s_op t13 = s_op s - 1) => ?_)
          obtain ⟨a13, p13, h13, g13, w13, -⟩ := id i_t13
          refine Ok_put G i_t13 (show y2 < 20000 from by omega) (fun t14 i_t14 (e14 : s_at t14 = s_at t13) (o14 : s_op t14 = s_op t13) => ?_)
          obtain ⟨a14, p14, h14, g14, w14, -⟩ := id i_t14
          have k14 : K (s_at t14) = K (s_at t13) := congrArg K e14
          exact Ok_ret ⟨i_t14, show s_at s ≤ s_at t14 from by omega, show s_op t14 = s_op s - 1 from by omega, show 0 < 16387 from by omega, (fun q => by cases q)⟩
    · refine Ok_leave G i_s (by decide) (by decide) (show s_op s ≠ 0 from by omega) (fun t15 i_t15 (e15 : s_at t15 = s_at s + 1) (o15 : s_op t15 = s_op s - 1) => ?_)
      obtain ⟨a15, p15, h15, g15, w15, -⟩ := id i_t15
      refine Ok_put G i_t15 (show y2 < 20000 from by omega) (fun t16 i_t16 (e16 : s_at t16 = s_at t15) (o16 : s_op t16 = s_op t15) => ?_)
      obtain ⟨a16, p16, h16, g16, w16, -⟩ := id i_t16
      have k16 : K (s_at t16) = K (s_at t15) := congrArg K e16
      exact Ok_ret ⟨i_t16, show s_at s ≤ s_at t16 from by omega, show s_op t16 = s_op s - 1 from by omega, show 0 < 16387 from by omega, (fun q => by cases q)⟩
theorem T_X1_structType {cnt N : Nat} {K : Nat → Nat} (G : Kg cnt N K) {n : Nat} {rc : Nat → Nat → Nat → Ss → Rs Ss} (R : Sp cnt N K n rc) {s : Ss} (i_s : Iv cnt N s) (hz : K (s_at s) ≠ 0) (hm : 0 + 16 * (30 - s_op s) < n + 1) : Ok (Po cnt N K s (s_op s) 16387 false) (Iv cnt N) (b_X1_structType K N rc s) := by
  obtain ⟨hc, hN, hk, hz9⟩ := id G
  obtain ⟨a0, p0, h0, g0, w0, -⟩ := id i_s
  unfold b_X1_structType
  refine Ok_take G i_s (show K (s_at s) ≠ 0 from by omega) (fun t1 i_t1 (e1 : s_at t1 = s_at s + 1) (o1 : s_op t1 = s_op s) => ?_)
  obtain ⟨a1, p1, h1, g1, w1, -⟩ := id i_t1
  refine Ok_enter G i_t1 (by decide) (by decide) (fun t2 i_t2 (e2 : s_at t2 = s_at t1 + 1) (o2 : s_op t2 = s_op t1 + 1) => ?_)
  obtain ⟨a2, p2, h2, g2, w2, -⟩ := id i_t2
  refine Ok_imp (T_lp_X1_structType_16 G R LF (s_at s) 0 1 _ i_t2 (show 16387 ≤ LF + 0 from by unfold LF; omega) (show 0 ≤ 16386 from by omega) (show 1 ≤ (s_op t2) from by omega) (show s_at s < 16387 from by omega) (by decide) (by decide) (show 0 + 16 * (30 - (s_op t2)) < n from by omega)) (fun v3 t3 z3 => ?_)
  obtain ⟨i_t3, e3, o3, b3, x3⟩ := z3
  have e3 : s_at t2 ≤ s_at t3 := e3
  have o3 : s_op t3 = (s_op t2) - 1 := o3
  exact ⟨i_t3, by omega, by omega, by omega, (fun q => by cases q)⟩
theorem T_X1_functionType {cnt N : Nat} {K : Nat → Nat} (G : Kg cnt N K) {n : Nat} {rc : Nat → Nat → Nat → Ss → Rs Ss} (R : Sp cnt N K n rc) {s : Ss} (i_s : Iv cnt N s) (hz : K (s_at s) ≠ 0) (hm : 2 + 16 * (30 - s_op s) < n + 1) : Ok (Po cnt N K s (s_op s) 16387 false) (Iv cnt N) (b_X1_functionType K N rc s) := by
  obtain ⟨hc, hN, hk, hz9⟩ := id G
  obtain ⟨a0, p0, h0, g0, w0, -⟩ := id i_s
  unfold b_X1_functionType
  refine Ok_take G i_s (show K (s_at s) ≠ 0 from by omega) (fun t1 i_t1 (e1 : s_at t1 = s_at s + 1) (o1 : s_op t1 = s_op s) => ?_)
  obtain ⟨a1, p1, h1, g1, w1, -⟩ := id i_t1
  refine Ok_rc (R 44 (by decide) _ _ _ i_t1 (pkf pk_44) (pnf (by decide)) (by decide) (by decide) (rkl rk_44 (show 1 + 16 * (30 - (s_op t1)) < n from by omega))) bd_44 (fun v2 t2 i_t2 (e2 : s_at t1 ≤ s_at t2) (o2 : s_op t2 = s_op t1) b2 => ?_)
  obtain ⟨a2, p2, h2, g2, w2, -⟩ := id i_t2
  refine Ok_put G i_t2 (by decide) (fun t3 i_t3 (e3 : s_at t3 = s_at t2) (o3 : s_op t3 = s_op t2) => ?_)
  obtain ⟨a3, p3, h3, g3, w3, -⟩ := id i_t3
  have k3 : K (s_at t3) = K (s_at t2) := congrArg K e3
  exact Ok_ret ⟨i_t3, show s_at s ≤ s_at t3 from by omega, show s_op t3 = s_op s from by omega, show 0 < 16387 from by omega, (fun q => by cases q)⟩
theorem T_lp_X1_interfaceType_16 {cnt N : Nat} {K : Nat → Nat} (G : Kg cnt N K) {n : Nat} {rc : Nat → Nat → Nat → Ss → Rs Ss} (R : Sp cnt N K n rc) : ∀ (f y1 y2 y3 : Nat) (s : Ss), Iv cnt N s → 16387 ≤ f + y2 → y2 ≤ 16386 → 1 ≤ s_op s → y1 < 16387 → y2 < 16387 → y3 < 16387 → 1 + 16 * (30 - s_op s) < n → Ok (Po cnt N K s (s_op s - 1) 16387 false) (Iv cnt N) (lp_X1_interfaceType_16 K N rc f y1 y2 y3 s) := by
  obtain ⟨hc, hN, hk, hz9⟩ := id G
  intro f
  induction f with
  | zero => intro y1 y2 y3 s i_s c1 c2 j0 hy1 hy2 hy3 hm; omega
  | succ f ih =>
    intro y1 y2 y3 s i_s c1 c2 j0 hy1 hy2 hy3 hm
    obtain ⟨a0, p0, h0, g0, w0, -⟩ := id i_s
    rw [lp_X1_interfaceType_16]
    refine Ok_ifl (show y2 < 2147483648 from by omega) (by decide) (fun q1 => ?_) (fun q1 => ?_)
    · refine Ok_ifz (show y3 < 2147483648 from by omega) (fun q2 => ?_) (fun q2 => ?_)
      · refine Ok_leave G i_s (by decide) (by decide) (show s_op s ≠ 0 from by omega) (fun t3 i_t3 (e3 : s_at t3 = s_at s + 1) (o3 : s_op t3 = s_op s - 1) => ?_)
        obtain ⟨a3, p3, h3, g3, w3, -⟩ := id i_t3
        refine Ok_put G i_t3 (show y2 < 20000 from by omega) (fun t4 i_t4 (e4 : s_at t4 = s_at t3) (o4 : s_op t4 = s_op t3) => ?_)
        obtain ⟨a4, p4, h4, g4, w4, -⟩ := id i_t4
        have k4 : K (s_at t4) = K (s_at t3) := congrArg K e4
        exact Ok_ret ⟨i_t4, show s_at s ≤ s_at t4 from by omega, show s_op t4 = s_op s - 1 from by omega, show 0 < 16387 from by omega, (fun q => by cases q)⟩
      · refine Ok_sees G (by decide) (fun (q5 : K (s_at s) = 1) => ?_) (fun (q5 : K (s_at s) ≠ 1) => ?_)
        · refine Ok_ifz1 ?_
          refine Ok_name G i_s (fun t6 i_t6 (e6 : s_at t6 = s_at s + 1) (o6 : s_op t6 = s_op s) => ?_)
          obtain ⟨a6, p6, h6, g6, w6, -⟩ := id i_t6
          refine Ok_rc (R 44 (by decide) _ _ _ i_t6 (pkf pk_44) (pnf (by decide)) (by decide) (by decide) (rkl rk_44 (show 1 + 16 * (30 - (s_op t6)) < n from by omega))) bd_44 (fun v7 t7 i_t7 (e7 : s_at t6 ≤ s_at t7) (o7 : s_op t7 = s_op t6) b7 => ?_)
          obtain ⟨a7, p7, h7, g7, w7, -⟩ := id i_t7
          refine Ok_put G i_t7 (by decide) (fun t8 i_t8 (e8 : s_at t8 = s_at t7) (o8 : s_op t8 = s_op t7) => ?_)
          obtain ⟨a8, p8, h8, g8, w8, -⟩ := id i_t8
          have k8 : K (s_at t8) = K (s_at t7) := congrArg K e8
          refine Ok_accept G i_t8 (by decide) (by decide) (fun t9 i_t9 (e9 : s_at t9 = s_at t8 + 1) (o9 : s_op t9 = s_op t8) => ?_) (fun (q10 : K (s_at t8) ≠ 85) => ?_)
          · obtain ⟨a9, p9, h9, g9, w9, -⟩ := id i_t9
            refine Ok_imp (ih y1 (y2 + 1) 1 _ i_t9 (show 16387 ≤ f + (y2 + 1) from by omega) (show y2 + 1 ≤ 16386 from by omega) (show 1 ≤ (s_op t9) from by omega) (show y1 < 16387 from by omega) (show y2 + 1 < 16387 from by omega) (by decide) (show 1 + 16 * (30 - (s_op t9)) < n from by omega)) (fun v11 t11 z11 => ?_)
            obtain ⟨i_t11, e11, o11, b11, x11⟩ := z11
            have e11 : s_at t9 ≤ s_at t11 := e11
            have o11 : s_op t11 = (s_op t9) - 1 := o11
            exact ⟨i_t11, by omega, by omega, by omega, (fun q => by cases q)⟩
          · refine Ok_imp (ih y1 (y2 + 1) 0 _ i_t8 (show 16387 ≤ f + (y2 + 1) from by omega) (show y2 + 1 ≤ 16386 from by omega) (show 1 ≤ (s_op t8) from by omega) (show y1 < 16387 from by omega) (show y2 + 1 < 16387 from by omega) (by decide) (show 1 + 16 * (30 - (s_op t8)) < n from by omega)) (fun v12 t12 z12 => ?_)
            obtain ⟨i_t12, e12, o12, b12, x12⟩ := z12
            have e12 : s_at t8 ≤ s_at t12 := e12
            have o12 : s_op t12 = (s_op t8) - 1 := o12
            exact ⟨i_t12, by omega, by omega, by omega, (fun q => by cases q)⟩
        · refine Ok_ifz0 ?_
          refine Ok_leave G i_s (by decide) (by decide) (show s_op s ≠ 0 from by omega) (fun t13 i_t13 (e13 : s_at t13 = s_at s + 1) (o13 : s_op t13 = s_op s - 1) => ?_)
          obtain ⟨a13, p13, h13, g13, w13, -⟩ := id i_t13
          refine Ok_put G i_t13 (show y2 < 20000 from by omega) (fun t14 i_t14 (e14 : s_at t14 = s_at t13) (o14 : s_op t14 = s_op t13) => ?_)
          obtain ⟨a14, p14, h14, g14, w14, -⟩ := id i_t14
          have k14 : K (s_at t14) = K (s_at t13) := congrArg K e14
          exact Ok_ret ⟨i_t14, show s_at s ≤ s_at t14 from by omega, show s_op t14 = s_op s - 1 from by omega, show 0 < 16387 from by omega, (fun q => by cases q)⟩
    · refine Ok_leave G i_s (by decide) (by decide) (show s_op s ≠ 0 from by omega) (fun t15 i_t15 (e15 : s_at t15 = s_at s + 1) (o15 : s_op t15 = s_op s - 1) => ?_)
      obtain ⟨a15, p15, h15, g15, w15, -⟩ := id i_t15
      refine Ok_put G i_t15 (show y2 < 20000 from by omega) (fun t16 i_t16 (e16 : s_at t16 = s_at t15) (o16 : s_op t16 = s_op t15) => ?_)
      obtain ⟨a16, p16, h16, g16, w16, -⟩ := id i_t16
      have k16 : K (s_at t16) = K (s_at t15) := congrArg K e16
      exact Ok_ret ⟨i_t16, show s_at s ≤ s_at t16 from by omega, show s_op t16 = s_op s - 1 from by omega, show 0 < 16387 from by omega, (fun q => by cases q)⟩
theorem T_X1_interfaceType {cnt N : Nat} {K : Nat → Nat} (G : Kg cnt N K) {n : Nat} {rc : Nat → Nat → Nat → Ss → Rs Ss} (R : Sp cnt N K n rc) {s : Ss} (i_s : Iv cnt N s) (hz : K (s_at s) ≠ 0) (hm : 0 + 16 * (30 - s_op s) < n + 1) : Ok (Po cnt N K s (s_op s) 16387 false) (Iv cnt N) (b_X1_interfaceType K N rc s) := by
  obtain ⟨hc, hN, hk, hz9⟩ := id G
  obtain ⟨a0, p0, h0, g0, w0, -⟩ := id i_s
  unfold b_X1_interfaceType
  refine Ok_take G i_s (show K (s_at s) ≠ 0 from by omega) (fun t1 i_t1 (e1 : s_at t1 = s_at s + 1) (o1 : s_op t1 = s_op s) => ?_)
  obtain ⟨a1, p1, h1, g1, w1, -⟩ := id i_t1
  refine Ok_enter G i_t1 (by decide) (by decide) (fun t2 i_t2 (e2 : s_at t2 = s_at t1 + 1) (o2 : s_op t2 = s_op t1 + 1) => ?_)
  obtain ⟨a2, p2, h2, g2, w2, -⟩ := id i_t2
  refine Ok_imp (T_lp_X1_interfaceType_16 G R LF (s_at s) 0 1 _ i_t2 (show 16387 ≤ LF + 0 from by unfold LF; omega) (show 0 ≤ 16386 from by omega) (show 1 ≤ (s_op t2) from by omega) (show s_at s < 16387 from by omega) (by decide) (by decide) (show 1 + 16 * (30 - (s_op t2)) < n from by omega)) (fun v3 t3 z3 => ?_)
  obtain ⟨i_t3, e3, o3, b3, x3⟩ := z3
  have e3 : s_at t2 ≤ s_at t3 := e3
  have o3 : s_op t3 = (s_op t2) - 1 := o3
  exact ⟨i_t3, by omega, by omega, by omega, (fun q => by cases q)⟩
theorem Sp_all {cnt N : Nat} {K : Nat → Nat} (G : Kg cnt N K) : ∀ n, Sp cnt N K n (Pf K N n) := by
  intro n
  induction n with
  | zero => intro mi hmi x y s i p p2 hx hy hm; omega
  | succ n R =>
    intro mi hmi x y s i p p2 hx hy hm
    rw [Pf_s]
    simp only [Ms, List.mem_cons, List.not_mem_nil, or_false] at hmi
    rcases hmi with rfl | rfl | rfl | rfl | rfl | rfl | rfl | rfl | rfl | rfl | rfl | rfl | rfl | rfl | rfl | rfl | rfl | rfl | rfl | rfl | rfl | rfl | rfl | rfl | rfl | rfl | rfl | rfl | rfl | rfl | rfl | rfl | rfl | rfl | rfl | rfl | rfl | rfl | rfl | rfl | rfl | rfl | rfl | rfl | rfl | rfl | rfl | rfl | rfl | rfl | rfl | rfl | rfl | rfl | rfl | rfl | rfl | rfl | rfl | rfl | rfl | rfl | rfl | rfl | rfl | rfl | rfl
    · rw [rk_14] at hm; rw [bd_14, br_14]; exact T_X1_file G R i hm
    · rw [rk_22] at hm; rw [bd_22, br_22]; exact T_X1_functionDecl G R i (p pk_22) hm
    · rw [rk_23] at hm; rw [bd_23, br_23]; exact T_X1_receiver G R i hm
    · rw [rk_26] at hm; rw [bd_26, br_26]; exact T_X1_type G R i hm
    · rw [rk_28] at hm; rw [bd_28, br_28]; exact T_X1_listType G R i (p pk_28) hm
    · rw [rk_29] at hm; rw [bd_29, br_29]; exact T_X1_expr G R i hx hm
    · rw [rk_30] at hm; rw [bd_30, br_30]; exact T_X1_unary G R i hx hm
    · rw [rk_34] at hm; rw [bd_34, br_34]; exact T_X1_primary G R i hx hm
    · rw [rk_35] at hm; rw [bd_35, br_35]; exact T_X1_operand G R i hm
    · rw [rk_37] at hm; rw [bd_37, br_37]; exact T_X1_elements G R i hx hy hm
    · rw [rk_38] at hm; rw [bd_38, br_38]; exact T_X1_value G R i hm
    · rw [rk_42] at hm; rw [bd_42, br_42]; exact T_X1_paren G R i hm
    · rw [rk_43] at hm; rw [bd_43, br_43]; exact T_X1_functionOrType G R i (p pk_43) hm
    · rw [rk_44] at hm; rw [bd_44, br_44]; exact T_X1_signature G R i hm
    · rw [rk_45] at hm; rw [bd_45, br_45]; exact T_X1_params G R i hm
    · rw [rk_46] at hm; rw [bd_46, br_46]; exact T_X1_param G R i hx hy hm
    · rw [rk_47] at hm; rw [bd_47, br_47]; exact T_X1_block G R i hm
    · rw [rk_48] at hm; rw [bd_48, br_48]; exact T_X1_stmts G R i hm
    · rw [rk_49] at hm; rw [bd_49, br_49]; exact T_X1_stmt G R i hm
    · rw [rk_50] at hm; rw [bd_50, br_50]; exact T_X1_decl G R i (p pk_50) hm
    · rw [rk_51] at hm; rw [bd_51, br_51]; exact T_X1_group G R i hx hm
    · rw [rk_52] at hm; rw [bd_52, br_52]; exact T_X1_spec G R i hx hm
    · rw [rk_53] at hm; rw [bd_53, br_53]; exact T_X1_constSpec G R i hm
    · rw [rk_54] at hm; rw [bd_54, br_54]; exact T_X1_names G R i hm
    · rw [rk_55] at hm; rw [bd_55, br_55]; exact T_X1_exprs G R i hm
    · rw [rk_56] at hm; rw [bd_56, br_56]; exact T_X1_restOfExprs G R i hx hy hm
    · rw [rk_57] at hm; rw [bd_57, br_57]; exact T_X1_typeSpec G R i hm
    · rw [rk_58] at hm; rw [bd_58, br_58]; exact T_X1_varSpec G R i hm
    · rw [rk_60] at hm; rw [bd_60, br_60]; exact T_X1_ifStmt G R i (p pk_60) hm
    · rw [rk_61] at hm; rw [bd_61, br_61]; exact T_X1_opening G R i hx hy hm
    · rw [rk_62] at hm; rw [bd_62, br_62]; exact T_X1_simple G R i hx hm
    · rw [rk_65] at hm; rw [bd_65, br_65]; exact T_X1_assign G R i (p pk_65) hx hm
    · rw [rk_66] at hm; rw [bd_66, br_66]; exact T_X1_define G R i (p pk_66) hx hy hm
    · rw [rk_67] at hm; rw [bd_67, br_67]; exact T_X1_behindExpr G R i hx hm
    · rw [rk_69] at hm; rw [bd_69, br_69]; exact T_X1_elseBranch G R i hm
    · rw [rk_70] at hm; rw [bd_70, br_70]; exact T_X1_switchStmt G R i (p pk_70) hm
    · rw [rk_71] at hm; rw [bd_71, br_71]; exact T_X1_tag G R i hm
    · rw [rk_72] at hm; rw [bd_72, br_72]; exact T_X1_clauses G R i hx hm
    · rw [rk_73] at hm; rw [bd_73, br_73]; exact T_X1_caseClause G R i (p pk_73) hx hm
    · rw [rk_74] at hm; rw [bd_74, br_74]; exact T_X1_types G R i hm
    · rw [rk_75] at hm; rw [bd_75, br_75]; exact T_X1_wholeSimple G R i hx hm
    · rw [rk_76] at hm; rw [bd_76, br_76]; exact T_X1_clauseBody G R i hm
    · rw [rk_77] at hm; rw [bd_77, br_77]; exact T_X1_defaultClause G R i (p pk_77) hx hm
    · rw [rk_78] at hm; rw [bd_78, br_78]; exact T_X1_selectStmt G R i (p pk_78) hm
    · rw [rk_79] at hm; rw [bd_79, br_79]; exact T_X1_forStmt G R i (p pk_79) hm
    · rw [rk_80] at hm; rw [bd_80, br_80]; exact T_X1_forHead G R i hm
    · rw [rk_81] at hm; rw [bd_81, br_81]; exact T_X1_range G R i (p pk_81) hx hm
    · rw [rk_82] at hm; rw [bd_82, br_82]; exact T_X1_restOfForHead G R i hm
    · rw [rk_83] at hm; rw [bd_83, br_83]; exact T_X1_wordStmt G R i hm
    · rw [rk_84] at hm; rw [bd_84, br_84]; exact T_X1_startStmt G R i (p pk_84) hx hm
    · rw [rk_85] at hm; rw [bd_85, br_85]; exact T_X1_returnStmt G R i (p pk_85) hm
    · rw [rk_87] at hm; rw [bd_87, br_87]; exact T_X1_jumpStmt G R i (p pk_87) hx hm
    · rw [rk_88] at hm; rw [bd_88, br_88]; exact T_X1_simpleStmt G R i hm
    · rw [rk_89] at hm; rw [bd_89, br_89]; exact T_X1_labeledStmt G R i hm
    · rw [rk_90] at hm; rw [bd_90, br_90]; exact T_X1_countedArrayType G R i (p pk_90) (p2 rfl) hm
    · rw [rk_91] at hm; rw [bd_91, br_91]; exact T_X1_behindOperand G R i hx hm
    · rw [rk_92] at hm; rw [bd_92, br_92]; exact T_X1_dot G R i (p pk_92) hx hm
    · rw [rk_93] at hm; rw [bd_93, br_93]; exact T_X1_index G R i hm
    · rw [rk_94] at hm; rw [bd_94, br_94]; exact T_X1_upperBounds G R i hm
    · rw [rk_95] at hm; rw [bd_95, br_95]; exact T_X1_call G R i hm
    · rw [rk_99] at hm; rw [bd_99, br_99]; exact T_X1_mapType G R i (p pk_99) hm
    · rw [rk_100] at hm; rw [bd_100, br_100]; exact T_X1_chanType G R i (p pk_100) hm
    · rw [rk_101] at hm; rw [bd_101, br_101]; exact T_X1_receiveChanType G R i (p pk_101) hm
    · rw [rk_102] at hm; rw [bd_102, br_102]; exact T_X1_pointerType G R i (p pk_102) hm
    · rw [rk_103] at hm; rw [bd_103, br_103]; exact T_X1_structType G R i (p pk_103) hm
    · rw [rk_104] at hm; rw [bd_104, br_104]; exact T_X1_functionType G R i (p pk_104) hm
    · rw [rk_105] at hm; rw [bd_105, br_105]; exact T_X1_interfaceType G R i (p pk_105) hm
