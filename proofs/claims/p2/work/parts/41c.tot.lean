/-! The methods of the parser, one by one. -/
theorem T_X1_decl {cnt N : Nat} {K : Nat → Nat} (G : Kg cnt N K) {n : Nat} {rc : Nat → Nat → Nat → Ss → Rs Ss} (R : Sp cnt N K n rc) {s : Ss} (i_s : Iv cnt N s) (hz : K (s_at s) ≠ 0) (hm : 9 + 16 * (30 - s_op s) < n + 1) : Ok (Po cnt N s (s_op s) 20000) (Iv cnt N) (b_X1_decl K N rc s) := by
  obtain ⟨hc, hN, hk, hz9⟩ := id G
  obtain ⟨a0, p0, h0, g0, w0, -⟩ := id i_s
  unfold b_X1_decl
  refine Ok.take G i_s (show K (s_at s) ≠ 0 from by omega) (fun t1 i_t1 (e1 : s_at t1 = s_at s + 1) (o1 : s_op t1 = s_op s) => ?_)
  obtain ⟨a1, p1, h1, g1, w1, -⟩ := id i_t1
  refine Ok.sees G (by decide) (fun (q2 : K (s_at t1) = 78) => ?_) (fun (q2 : K (s_at t1) ≠ 78) => ?_)
  · refine Ok.ifz1 ?_
    refine Ok.rc (R 51 (by decide) _ _ _ i_t1 (pkf pk_51) (Nat.lt_trans (G.2.2.1 _) (by decide)) (by decide) (rkl rk_51 (show 0 + 16 * (30 - (s_op t1)) < n from by omega))) bd_51 (fun v3 t3 i_t3 (e3 : s_at t1 ≤ s_at t3) (o3 : s_op t3 = s_op t1) b3 => ?_)
    obtain ⟨a3, p3, h3, g3, w3, -⟩ := id i_t3
    refine Ok.ck (show (K (s_at s)) < 2147483648 from by omega) ?_
    refine Ok.put G i_t3 (show v3 < 20000 from by omega) (fun t4 i_t4 (e4 : s_at t4 = s_at t3) (o4 : s_op t4 = s_op t3) => ?_)
    obtain ⟨a4, p4, h4, g4, w4, -⟩ := id i_t4
    have k4 : K (s_at t4) = K (s_at t3) := congrArg K e4
    exact Ok.ret ⟨i_t4, show s_at s ≤ s_at t4 from by omega, show s_op t4 = s_op s from by omega, show 0 < 20000 from by omega⟩
  · refine Ok.ifz0 ?_
    refine Ok.rc (R 52 (by decide) _ _ _ i_t1 (pkf pk_52) (Nat.lt_trans (G.2.2.1 _) (by decide)) (by decide) (rkl rk_52 (show 8 + 16 * (30 - (s_op t1)) < n from by omega))) bd_52 (fun v5 t5 i_t5 (e5 : s_at t1 ≤ s_at t5) (o5 : s_op t5 = s_op t1) b5 => ?_)
    obtain ⟨a5, p5, h5, g5, w5, -⟩ := id i_t5
    refine Ok.ck (show (K (s_at s)) < 2147483648 from by omega) ?_
    refine Ok.put G i_t5 (by decide) (fun t6 i_t6 (e6 : s_at t6 = s_at t5) (o6 : s_op t6 = s_op t5) => ?_)
    obtain ⟨a6, p6, h6, g6, w6, -⟩ := id i_t6
    have k6 : K (s_at t6) = K (s_at t5) := congrArg K e6
    exact Ok.ret ⟨i_t6, show s_at s ≤ s_at t6 from by omega, show s_op t6 = s_op s from by omega, show 0 < 20000 from by omega⟩
theorem T_lp_X1_group_22 {cnt N : Nat} {K : Nat → Nat} (G : Kg cnt N K) {n : Nat} {rc : Nat → Nat → Nat → Ss → Rs Ss} (R : Sp cnt N K n rc) : ∀ (f y1 y2 y3 y4 : Nat) (s : Ss), Iv cnt N s → 16387 ≤ f + y3 → y3 ≤ 16386 → y2 < 2 → 1 ≤ s_op s → y1 < 20000 → y2 < 20000 → y3 < 20000 → y4 < 20000 → 8 + 16 * (30 - s_op s) < n → Ok (Po cnt N s (s_op s - 1) 20000) (Iv cnt N) (lp_X1_group_22 K N rc f y1 y2 y3 y4 s) := by
  obtain ⟨hc, hN, hk, hz9⟩ := id G
  intro f
  induction f with
  | zero => intro y1 y2 y3 y4 s i_s c1 c2 j0 j1 hy1 hy2 hy3 hy4 hm; omega
  | succ f ih =>
    intro y1 y2 y3 y4 s i_s c1 c2 j0 j1 hy1 hy2 hy3 hy4 hm
    obtain ⟨a0, p0, h0, g0, w0, -⟩ := id i_s
    rw [lp_X1_group_22]
    refine Ok.ifl (show y3 < 2147483648 from by omega) (by decide) (fun q1 => ?_) (fun q1 => ?_)
    · refine Ok.ifz (show y4 < 2147483648 from by omega) (fun q2 => ?_) (fun q2 => ?_)
      · refine Ok.leave G i_s (by decide) (by decide) (show s_op s ≠ 0 from by omega) (fun t3 i_t3 (e3 : s_at t3 = s_at s + 1) (o3 : s_op t3 = s_op s - 1) => ?_)
        obtain ⟨a3, p3, h3, g3, w3, -⟩ := id i_t3
        refine Ok.ck (show y2 < 2 from by omega) ?_
        exact Ok.ret ⟨(Iv_ih i_t3 (show y2 < 2 from by omega)), show s_at s ≤ s_at t3 from by omega, show s_op t3 = s_op s - 1 from by omega, show y3 < 20000 from by omega⟩
      · refine Ok.sees G (by decide) (fun (q4 : K (s_at s) = 1) => ?_) (fun (q4 : K (s_at s) ≠ 1) => ?_)
        · refine Ok.ifz1 ?_
          refine Ok.rc (R 52 (by decide) _ _ _ i_s (pkf pk_52) (show y1 < 20000 from by omega) (by decide) (rkl rk_52 (show 8 + 16 * (30 - (s_op s)) < n from by omega))) bd_52 (fun v5 t5 i_t5 (e5 : s_at s ≤ s_at t5) (o5 : s_op t5 = s_op s) b5 => ?_)
          obtain ⟨a5, p5, h5, g5, w5, -⟩ := id i_t5
          refine Ok.accept G i_t5 (by decide) (by decide) (fun t6 i_t6 (e6 : s_at t6 = s_at t5 + 1) (o6 : s_op t6 = s_op t5) => ?_) (fun (q7 : K (s_at t5) ≠ 85) => ?_)
          · obtain ⟨a6, p6, h6, g6, w6, -⟩ := id i_t6
            refine Ok.imp (ih y1 y2 (y3 + 1) 1 _ i_t6 (show 16387 ≤ f + (y3 + 1) from by omega) (show y3 + 1 ≤ 16386 from by omega) (show y2 < 2 from by omega) (show 1 ≤ (s_op t6) from by omega) (show y1 < 20000 from by omega) (show y2 < 20000 from by omega) (show y3 + 1 < 20000 from by omega) (by decide) (show 8 + 16 * (30 - (s_op t6)) < n from by omega)) (fun v8 t8 z8 => ?_)
            obtain ⟨i_t8, e8, o8, b8⟩ := z8
            have e8 : s_at t6 ≤ s_at t8 := e8
            have o8 : s_op t8 = (s_op t6) - 1 := o8
            exact ⟨i_t8, by omega, by omega, by omega⟩
          · refine Ok.imp (ih y1 y2 (y3 + 1) 0 _ i_t5 (show 16387 ≤ f + (y3 + 1) from by omega) (show y3 + 1 ≤ 16386 from by omega) (show y2 < 2 from by omega) (show 1 ≤ (s_op t5) from by omega) (show y1 < 20000 from by omega) (show y2 < 20000 from by omega) (show y3 + 1 < 20000 from by omega) (by decide) (show 8 + 16 * (30 - (s_op t5)) < n from by omega)) (fun v9 t9 z9 => ?_)
            obtain ⟨i_t9, e9, o9, b9⟩ := z9
            have e9 : s_at t5 ≤ s_at t9 := e9
            have o9 : s_op t9 = (s_op t5) - 1 := o9
            exact ⟨i_t9, by omega, by omega, by omega⟩
        · refine Ok.ifz0 ?_
          refine Ok.leave G i_s (by decide) (by decide) (show s_op s ≠ 0 from by omega) (fun t10 i_t10 (e10 : s_at t10 = s_at s + 1) (o10 : s_op t10 = s_op s - 1) => ?_)
          obtain ⟨a10, p10, h10, g10, w10, -⟩ := id i_t10
          refine Ok.ck (show y2 < 2 from by omega) ?_
          exact Ok.ret ⟨(Iv_ih i_t10 (show y2 < 2 from by omega)), show s_at s ≤ s_at t10 from by omega, show s_op t10 = s_op s - 1 from by omega, show y3 < 20000 from by omega⟩
    · refine Ok.leave G i_s (by decide) (by decide) (show s_op s ≠ 0 from by omega) (fun t11 i_t11 (e11 : s_at t11 = s_at s + 1) (o11 : s_op t11 = s_op s - 1) => ?_)
      obtain ⟨a11, p11, h11, g11, w11, -⟩ := id i_t11
      refine Ok.ck (show y2 < 2 from by omega) ?_
      exact Ok.ret ⟨(Iv_ih i_t11 (show y2 < 2 from by omega)), show s_at s ≤ s_at t11 from by omega, show s_op t11 = s_op s - 1 from by omega, show y3 < 20000 from by omega⟩
theorem T_X1_group {cnt N : Nat} {K : Nat → Nat} (G : Kg cnt N K) {n : Nat} {rc : Nat → Nat → Nat → Ss → Rs Ss} (R : Sp cnt N K n rc) {x1 : Nat} {s : Ss} (i_s : Iv cnt N s) (hx1 : x1 < 20000) (hm : 0 + 16 * (30 - s_op s) < n + 1) : Ok (Po cnt N s (s_op s) 20000) (Iv cnt N) (b_X1_group K N rc x1 s) := by
  obtain ⟨hc, hN, hk, hz9⟩ := id G
  obtain ⟨a0, p0, h0, g0, w0, -⟩ := id i_s
  unfold b_X1_group
  refine Ok.enter G i_s (by decide) (by decide) (fun t1 i_t1 (e1 : s_at t1 = s_at s + 1) (o1 : s_op t1 = s_op s + 1) => ?_)
  obtain ⟨a1, p1, h1, g1, w1, -⟩ := id i_t1
  refine Ok.imp (T_lp_X1_group_22 G R LF x1 (s_ih s) 0 1 _ (Iv_ih i_t1 (show 0 < 2 from by omega)) (show 16387 ≤ LF + 0 from by unfold LF; omega) (show 0 ≤ 16386 from by omega) (show (s_ih s) < 2 from by omega) (show 1 ≤ (s_op t1) from by omega) (show x1 < 20000 from by omega) (show s_ih s < 20000 from by omega) (by decide) (by decide) (show 8 + 16 * (30 - (s_op t1)) < n from by omega)) (fun v2 t2 z2 => ?_)
  obtain ⟨i_t2, e2, o2, b2⟩ := z2
  have e2 : s_at t1 ≤ s_at t2 := e2
  have o2 : s_op t2 = (s_op t1) - 1 := o2
  exact ⟨i_t2, by omega, by omega, by omega⟩
theorem T_X1_spec {cnt N : Nat} {K : Nat → Nat} (G : Kg cnt N K) {n : Nat} {rc : Nat → Nat → Nat → Ss → Rs Ss} (R : Sp cnt N K n rc) {x1 : Nat} {s : Ss} (i_s : Iv cnt N s) (hx1 : x1 < 20000) (hm : 8 + 16 * (30 - s_op s) < n + 1) : Ok (Po cnt N s (s_op s) 20000) (Iv cnt N) (b_X1_spec K N rc x1 s) := by
  obtain ⟨hc, hN, hk, hz9⟩ := id G
  obtain ⟨a0, p0, h0, g0, w0, -⟩ := id i_s
  unfold b_X1_spec
  refine Ok.ck (show x1 < 2147483648 from by omega) ?_
  refine Ok.ife (show x1 < 2147483648 from by omega) (by decide) (fun q1 => ?_) (fun q1 => ?_)
  · refine Ok.rc (R 53 (by decide) _ _ _ i_s (pkf pk_53) (by decide) (by decide) (rkl rk_53 (show 7 + 16 * (30 - (s_op s)) < n from by omega))) bd_53 (fun v2 t2 i_t2 (e2 : s_at s ≤ s_at t2) (o2 : s_op t2 = s_op s) b2 => ?_)
    obtain ⟨a2, p2, h2, g2, w2, -⟩ := id i_t2
    exact Ok.ret ⟨i_t2, show s_at s ≤ s_at t2 from by omega, show s_op t2 = s_op s from by omega, show 0 < 20000 from by omega⟩
  · refine Ok.ife (show x1 < 2147483648 from by omega) (by decide) (fun q3 => ?_) (fun q3 => ?_)
    · refine Ok.rc (R 57 (by decide) _ _ _ i_s (pkf pk_57) (by decide) (by decide) (rkl rk_57 (show 1 + 16 * (30 - (s_op s)) < n from by omega))) bd_57 (fun v4 t4 i_t4 (e4 : s_at s ≤ s_at t4) (o4 : s_op t4 = s_op s) b4 => ?_)
      obtain ⟨a4, p4, h4, g4, w4, -⟩ := id i_t4
      exact Ok.ret ⟨i_t4, show s_at s ≤ s_at t4 from by omega, show s_op t4 = s_op s from by omega, show 0 < 20000 from by omega⟩
    · refine Ok.rc (R 58 (by decide) _ _ _ i_s (pkf pk_58) (by decide) (by decide) (rkl rk_58 (show 7 + 16 * (30 - (s_op s)) < n from by omega))) bd_58 (fun v5 t5 i_t5 (e5 : s_at s ≤ s_at t5) (o5 : s_op t5 = s_op s) b5 => ?_)
      obtain ⟨a5, p5, h5, g5, w5, -⟩ := id i_t5
      exact Ok.ret ⟨i_t5, show s_at s ≤ s_at t5 from by omega, show s_op t5 = s_op s from by omega, show 0 < 20000 from by omega⟩
theorem T_X1_constSpec {cnt N : Nat} {K : Nat → Nat} (G : Kg cnt N K) {n : Nat} {rc : Nat → Nat → Nat → Ss → Rs Ss} (R : Sp cnt N K n rc) {s : Ss} (i_s : Iv cnt N s) (hm : 7 + 16 * (30 - s_op s) < n + 1) : Ok (Po cnt N s (s_op s) 20000) (Iv cnt N) (b_X1_constSpec K N rc s) := by
  obtain ⟨hc, hN, hk, hz9⟩ := id G
  obtain ⟨a0, p0, h0, g0, w0, -⟩ := id i_s
  unfold b_X1_constSpec
  refine Ok.rc (R 54 (by decide) _ _ _ i_s (pkf pk_54) (by decide) (by decide) (rkl rk_54 (show 0 + 16 * (30 - (s_op s)) < n from by omega))) bd_54 (fun v1 t1 i_t1 (e1 : s_at s ≤ s_at t1) (o1 : s_op t1 = s_op s) b1 => ?_)
  obtain ⟨a1, p1, h1, g1, w1, -⟩ := id i_t1
  refine Ok.ck (show (K (s_at t1)) < 2147483648 from by omega) ?_
  refine Ok.ifz (Nat.lt_trans (fb_beginsType _) (by decide)) (fun q2 => ?_) (fun q2 => ?_)
  · refine Ok.accept G i_t1 (by decide) (by decide) (fun t3 i_t3 (e3 : s_at t3 = s_at t1 + 1) (o3 : s_op t3 = s_op t1) => ?_) (fun (q4 : K (s_at t1) ≠ 70) => ?_)
    · obtain ⟨a3, p3, h3, g3, w3, -⟩ := id i_t3
      refine Ok.ifz1 ?_
      refine Ok.rc (R 55 (by decide) _ _ _ i_t3 (pkf pk_55) (by decide) (by decide) (rkl rk_55 (show 6 + 16 * (30 - (s_op t3)) < n from by omega))) bd_55 (fun v5 t5 i_t5 (e5 : s_at t3 ≤ s_at t5) (o5 : s_op t5 = s_op t3) b5 => ?_)
      obtain ⟨a5, p5, h5, g5, w5, -⟩ := id i_t5
      refine Ok.put G i_t5 (by decide) (fun t6 i_t6 (e6 : s_at t6 = s_at t5) (o6 : s_op t6 = s_op t5) => ?_)
      obtain ⟨a6, p6, h6, g6, w6, -⟩ := id i_t6
      have k6 : K (s_at t6) = K (s_at t5) := congrArg K e6
      exact Ok.ret ⟨i_t6, show s_at s ≤ s_at t6 from by omega, show s_op t6 = s_op s from by omega, show 0 < 20000 from by omega⟩
    · refine Ok.ifz0 ?_
      refine Ok.put G i_t1 (by decide) (fun t7 i_t7 (e7 : s_at t7 = s_at t1) (o7 : s_op t7 = s_op t1) => ?_)
      obtain ⟨a7, p7, h7, g7, w7, -⟩ := id i_t7
      have k7 : K (s_at t7) = K (s_at t1) := congrArg K e7
      exact Ok.ret ⟨i_t7, show s_at s ≤ s_at t7 from by omega, show s_op t7 = s_op s from by omega, show 0 < 20000 from by omega⟩
  · have q2n := fn_beginsType q2
    refine Ok.rc (R 26 (by decide) _ _ _ i_t1 (pkf pk_26) (by decide) (by decide) (rkl rk_26 (show 0 + 16 * (30 - (s_op t1)) < n from by omega))) bd_26 (fun v8 t8 i_t8 (e8 : s_at t1 ≤ s_at t8) (o8 : s_op t8 = s_op t1) b8 => ?_)
    obtain ⟨a8, p8, h8, g8, w8, -⟩ := id i_t8
    refine Ok.sees G (by decide) (fun (q9 : K (s_at t8) = 70) => ?_) (fun (q9 : K (s_at t8) ≠ 70) => ?_)
    · refine Ok.ifz1 ?_
      refine Ok.accept G i_t8 (by decide) (by decide) (fun t10 i_t10 (e10 : s_at t10 = s_at t8 + 1) (o10 : s_op t10 = s_op t8) => ?_) (fun (q11 : K (s_at t8) ≠ 70) => ?_)
      · obtain ⟨a10, p10, h10, g10, w10, -⟩ := id i_t10
        refine Ok.ifz1 ?_
        refine Ok.rc (R 55 (by decide) _ _ _ i_t10 (pkf pk_55) (by decide) (by decide) (rkl rk_55 (show 6 + 16 * (30 - (s_op t10)) < n from by omega))) bd_55 (fun v12 t12 i_t12 (e12 : s_at t10 ≤ s_at t12) (o12 : s_op t12 = s_op t10) b12 => ?_)
        obtain ⟨a12, p12, h12, g12, w12, -⟩ := id i_t12
        refine Ok.put G i_t12 (by decide) (fun t13 i_t13 (e13 : s_at t13 = s_at t12) (o13 : s_op t13 = s_op t12) => ?_)
        obtain ⟨a13, p13, h13, g13, w13, -⟩ := id i_t13
        have k13 : K (s_at t13) = K (s_at t12) := congrArg K e13
        exact Ok.ret ⟨i_t13, show s_at s ≤ s_at t13 from by omega, show s_op t13 = s_op s from by omega, show 0 < 20000 from by omega⟩
      · refine Ok.ifz0 ?_
        refine Ok.put G i_t8 (by decide) (fun t14 i_t14 (e14 : s_at t14 = s_at t8) (o14 : s_op t14 = s_op t8) => ?_)
        obtain ⟨a14, p14, h14, g14, w14, -⟩ := id i_t14
        have k14 : K (s_at t14) = K (s_at t8) := congrArg K e14
        exact Ok.ret ⟨i_t14, show s_at s ≤ s_at t14 from by omega, show s_op t14 = s_op s from by omega, show 0 < 20000 from by omega⟩
    · refine Ok.ifz0 ?_
      exact Ok.er i_t8
theorem T_lp_X1_names_11 {cnt N : Nat} {K : Nat → Nat} (G : Kg cnt N K) {n : Nat} {rc : Nat → Nat → Nat → Ss → Rs Ss} (R : Sp cnt N K n rc) : ∀ (f y1 y2 : Nat) (s : Ss), Iv cnt N s → 16387 ≤ f + y2 → y2 ≤ 16386 → y1 < 20000 → y2 < 20000 → 0 + 16 * (30 - s_op s) < n → Ok (Po cnt N s (s_op s) 20000) (Iv cnt N) (lp_X1_names_11 K N rc f y1 y2 s) := by
  obtain ⟨hc, hN, hk, hz9⟩ := id G
  intro f
  induction f with
  | zero => intro y1 y2 s i_s c1 c2 hy1 hy2 hm; omega
  | succ f ih =>
    intro y1 y2 s i_s c1 c2 hy1 hy2 hm
    obtain ⟨a0, p0, h0, g0, w0, -⟩ := id i_s
    rw [lp_X1_names_11]
    refine Ok.ifl (show y2 < 2147483648 from by omega) (by decide) (fun q1 => ?_) (fun q1 => ?_)
    · refine Ok.accept G i_s (by decide) (by decide) (fun t2 i_t2 (e2 : s_at t2 = s_at s + 1) (o2 : s_op t2 = s_op s) => ?_) (fun (q3 : K (s_at s) ≠ 84) => ?_)
      · obtain ⟨a2, p2, h2, g2, w2, -⟩ := id i_t2
        refine Ok.ifz1 ?_
        refine Ok.name G i_t2 (fun t4 i_t4 (e4 : s_at t4 = s_at t2 + 1) (o4 : s_op t4 = s_op t2) => ?_)
        obtain ⟨a4, p4, h4, g4, w4, -⟩ := id i_t4
        refine Ok.imp (ih y1 (y2 + 1) _ i_t4 (show 16387 ≤ f + (y2 + 1) from by omega) (show y2 + 1 ≤ 16386 from by omega) (show y1 < 20000 from by omega) (show y2 + 1 < 20000 from by omega) (show 0 + 16 * (30 - (s_op t4)) < n from by omega)) (fun v5 t5 z5 => ?_)
        obtain ⟨i_t5, e5, o5, b5⟩ := z5
        have e5 : s_at t4 ≤ s_at t5 := e5
        have o5 : s_op t5 = (s_op t4) := o5
        exact ⟨i_t5, by omega, by omega, by omega⟩
      · refine Ok.ifz0 ?_
        refine Ok.put G i_s (show y2 < 20000 from by omega) (fun t6 i_t6 (e6 : s_at t6 = s_at s) (o6 : s_op t6 = s_op s) => ?_)
        obtain ⟨a6, p6, h6, g6, w6, -⟩ := id i_t6
        have k6 : K (s_at t6) = K (s_at s) := congrArg K e6
        exact Ok.ret ⟨i_t6, show s_at s ≤ s_at t6 from by omega, show s_op t6 = s_op s from by omega, show 0 < 20000 from by omega⟩
    · refine Ok.put G i_s (show y2 < 20000 from by omega) (fun t7 i_t7 (e7 : s_at t7 = s_at s) (o7 : s_op t7 = s_op s) => ?_)
      obtain ⟨a7, p7, h7, g7, w7, -⟩ := id i_t7
      have k7 : K (s_at t7) = K (s_at s) := congrArg K e7
      exact Ok.ret ⟨i_t7, show s_at s ≤ s_at t7 from by omega, show s_op t7 = s_op s from by omega, show 0 < 20000 from by omega⟩
theorem T_X1_names {cnt N : Nat} {K : Nat → Nat} (G : Kg cnt N K) {n : Nat} {rc : Nat → Nat → Nat → Ss → Rs Ss} (R : Sp cnt N K n rc) {s : Ss} (i_s : Iv cnt N s) (hm : 0 + 16 * (30 - s_op s) < n + 1) : Ok (Po cnt N s (s_op s) 20000) (Iv cnt N) (b_X1_names K N rc s) := by
  obtain ⟨hc, hN, hk, hz9⟩ := id G
  obtain ⟨a0, p0, h0, g0, w0, -⟩ := id i_s
  unfold b_X1_names
  refine Ok.name G i_s (fun t1 i_t1 (e1 : s_at t1 = s_at s + 1) (o1 : s_op t1 = s_op s) => ?_)
  obtain ⟨a1, p1, h1, g1, w1, -⟩ := id i_t1
  refine Ok.imp (T_lp_X1_names_11 G R LF (s_at s) 1 _ i_t1 (show 16387 ≤ LF + 1 from by unfold LF; omega) (show 1 ≤ 16386 from by omega) (show s_at s < 20000 from by omega) (by decide) (show 0 + 16 * (30 - (s_op t1)) < n from by omega)) (fun v2 t2 z2 => ?_)
  obtain ⟨i_t2, e2, o2, b2⟩ := z2
  have e2 : s_at t1 ≤ s_at t2 := e2
  have o2 : s_op t2 = (s_op t1) := o2
  exact ⟨i_t2, by omega, by omega, by omega⟩
theorem T_X1_exprs {cnt N : Nat} {K : Nat → Nat} (G : Kg cnt N K) {n : Nat} {rc : Nat → Nat → Nat → Ss → Rs Ss} (R : Sp cnt N K n rc) {s : Ss} (i_s : Iv cnt N s) (hm : 6 + 16 * (30 - s_op s) < n + 1) : Ok (Po cnt N s (s_op s) 20000) (Iv cnt N) (b_X1_exprs K N rc s) := by
  obtain ⟨hc, hN, hk, hz9⟩ := id G
  obtain ⟨a0, p0, h0, g0, w0, -⟩ := id i_s
  unfold b_X1_exprs
  refine Ok.rc (R 29 (by decide) _ _ _ i_s (pkf pk_29) (by decide) (by decide) (rkl rk_29 (show 4 + 16 * (30 - (s_op s)) < n from by omega))) bd_29 (fun v1 t1 i_t1 (e1 : s_at s ≤ s_at t1) (o1 : s_op t1 = s_op s) b1 => ?_)
  obtain ⟨a1, p1, h1, g1, w1, -⟩ := id i_t1
  refine Ok.rc (R 56 (by decide) _ _ _ i_t1 (pkf pk_56) (by decide) (show s_at s < 20000 from by omega) (rkl rk_56 (show 5 + 16 * (30 - (s_op t1)) < n from by omega))) bd_56 (fun v2 t2 i_t2 (e2 : s_at t1 ≤ s_at t2) (o2 : s_op t2 = s_op t1) b2 => ?_)
  obtain ⟨a2, p2, h2, g2, w2, -⟩ := id i_t2
  exact Ok.ret ⟨i_t2, show s_at s ≤ s_at t2 from by omega, show s_op t2 = s_op s from by omega, show 0 < 20000 from by omega⟩
theorem T_lp_X1_restOfExprs_2 {cnt N : Nat} {K : Nat → Nat} (G : Kg cnt N K) {n : Nat} {rc : Nat → Nat → Nat → Ss → Rs Ss} (R : Sp cnt N K n rc) : ∀ (f y1 y2 y3 : Nat) (s : Ss), Iv cnt N s → 16387 ≤ f + y3 → y3 ≤ 16386 → y1 < 20000 → y2 < 20000 → y3 < 20000 → 4 + 16 * (30 - s_op s) < n → Ok (Po cnt N s (s_op s) 20000) (Iv cnt N) (lp_X1_restOfExprs_2 K N rc f y1 y2 y3 s) := by
  obtain ⟨hc, hN, hk, hz9⟩ := id G
  intro f
  induction f with
  | zero => intro y1 y2 y3 s i_s c1 c2 hy1 hy2 hy3 hm; omega
  | succ f ih =>
    intro y1 y2 y3 s i_s c1 c2 hy1 hy2 hy3 hm
    obtain ⟨a0, p0, h0, g0, w0, -⟩ := id i_s
    rw [lp_X1_restOfExprs_2]
    refine Ok.ifl (show y3 < 2147483648 from by omega) (by decide) (fun q1 => ?_) (fun q1 => ?_)
    · refine Ok.ife (show y1 < 2147483648 from by omega) (by decide) (fun q2 => ?_) (fun q2 => ?_)
      · refine Ok.put G i_s (show y3 < 20000 from by omega) (fun t3 i_t3 (e3 : s_at t3 = s_at s) (o3 : s_op t3 = s_op s) => ?_)
        obtain ⟨a3, p3, h3, g3, w3, -⟩ := id i_t3
        have k3 : K (s_at t3) = K (s_at s) := congrArg K e3
        exact Ok.ret ⟨i_t3, show s_at s ≤ s_at t3 from by omega, show s_op t3 = s_op s from by omega, show 0 < 20000 from by omega⟩
      · refine Ok.accept G i_s (by decide) (by decide) (fun t4 i_t4 (e4 : s_at t4 = s_at s + 1) (o4 : s_op t4 = s_op s) => ?_) (fun (q5 : K (s_at s) ≠ 84) => ?_)
        · obtain ⟨a4, p4, h4, g4, w4, -⟩ := id i_t4
          refine Ok.ifz1 ?_
          refine Ok.rc (R 29 (by decide) _ _ _ i_t4 (pkf pk_29) (by decide) (by decide) (rkl rk_29 (show 4 + 16 * (30 - (s_op t4)) < n from by omega))) bd_29 (fun v6 t6 i_t6 (e6 : s_at t4 ≤ s_at t6) (o6 : s_op t6 = s_op t4) b6 => ?_)
          obtain ⟨a6, p6, h6, g6, w6, -⟩ := id i_t6
          refine Ok.imp (ih y1 y2 (y3 + 1) _ i_t6 (show 16387 ≤ f + (y3 + 1) from by omega) (show y3 + 1 ≤ 16386 from by omega) (show y1 < 20000 from by omega) (show y2 < 20000 from by omega) (show y3 + 1 < 20000 from by omega) (show 4 + 16 * (30 - (s_op t6)) < n from by omega)) (fun v7 t7 z7 => ?_)
          obtain ⟨i_t7, e7, o7, b7⟩ := z7
          have e7 : s_at t6 ≤ s_at t7 := e7
          have o7 : s_op t7 = (s_op t6) := o7
          exact ⟨i_t7, by omega, by omega, by omega⟩
        · refine Ok.ifz0 ?_
          refine Ok.put G i_s (show y3 < 20000 from by omega) (fun t8 i_t8 (e8 : s_at t8 = s_at s) (o8 : s_op t8 = s_op s) => ?_)
          obtain ⟨a8, p8, h8, g8, w8, -⟩ := id i_t8
          have k8 : K (s_at t8) = K (s_at s) := congrArg K e8
          exact Ok.ret ⟨i_t8, show s_at s ≤ s_at t8 from by omega, show s_op t8 = s_op s from by omega, show 0 < 20000 from by omega⟩
    · refine Ok.put G i_s (show y3 < 20000 from by omega) (fun t9 i_t9 (e9 : s_at t9 = s_at s) (o9 : s_op t9 = s_op s) => ?_)
      obtain ⟨a9, p9, h9, g9, w9, -⟩ := id i_t9
      have k9 : K (s_at t9) = K (s_at s) := congrArg K e9
      exact Ok.ret ⟨i_t9, show s_at s ≤ s_at t9 from by omega, show s_op t9 = s_op s from by omega, show 0 < 20000 from by omega⟩
theorem T_X1_restOfExprs {cnt N : Nat} {K : Nat → Nat} (G : Kg cnt N K) {n : Nat} {rc : Nat → Nat → Nat → Ss → Rs Ss} (R : Sp cnt N K n rc) {x1 : Nat} {x2 : Nat} {s : Ss} (i_s : Iv cnt N s) (hx1 : x1 < 20000) (hx2 : x2 < 20000) (hm : 5 + 16 * (30 - s_op s) < n + 1) : Ok (Po cnt N s (s_op s) 20000) (Iv cnt N) (b_X1_restOfExprs K N rc x1 x2 s) := by
  obtain ⟨hc, hN, hk, hz9⟩ := id G
  obtain ⟨a0, p0, h0, g0, w0, -⟩ := id i_s
  unfold b_X1_restOfExprs
  refine Ok.imp (T_lp_X1_restOfExprs_2 G R LF x1 x2 1 _ i_s (show 16387 ≤ LF + 1 from by unfold LF; omega) (show 1 ≤ 16386 from by omega) (show x1 < 20000 from by omega) (show x2 < 20000 from by omega) (by decide) (show 4 + 16 * (30 - (s_op s)) < n from by omega)) (fun v1 t1 z1 => ?_)
  obtain ⟨i_t1, e1, o1, b1⟩ := z1
  have e1 : s_at s ≤ s_at t1 := e1
  have o1 : s_op t1 = (s_op s) := o1
  exact ⟨i_t1, by omega, by omega, by omega⟩
theorem T_X1_typeSpec {cnt N : Nat} {K : Nat → Nat} (G : Kg cnt N K) {n : Nat} {rc : Nat → Nat → Nat → Ss → Rs Ss} (R : Sp cnt N K n rc) {s : Ss} (i_s : Iv cnt N s) (hm : 1 + 16 * (30 - s_op s) < n + 1) : Ok (Po cnt N s (s_op s) 20000) (Iv cnt N) (b_X1_typeSpec K N rc s) := by
  obtain ⟨hc, hN, hk, hz9⟩ := id G
  obtain ⟨a0, p0, h0, g0, w0, -⟩ := id i_s
  unfold b_X1_typeSpec
  refine Ok.name G i_s (fun t1 i_t1 (e1 : s_at t1 = s_at s + 1) (o1 : s_op t1 = s_op s) => ?_)
  obtain ⟨a1, p1, h1, g1, w1, -⟩ := id i_t1
  refine Ok.rc (R 26 (by decide) _ _ _ i_t1 (pkf pk_26) (by decide) (by decide) (rkl rk_26 (show 0 + 16 * (30 - (s_op t1)) < n from by omega))) bd_26 (fun v2 t2 i_t2 (e2 : s_at t1 ≤ s_at t2) (o2 : s_op t2 = s_op t1) b2 => ?_)
  obtain ⟨a2, p2, h2, g2, w2, -⟩ := id i_t2
  refine Ok.put G i_t2 (by decide) (fun t3 i_t3 (e3 : s_at t3 = s_at t2) (o3 : s_op t3 = s_op t2) => ?_)
  obtain ⟨a3, p3, h3, g3, w3, -⟩ := id i_t3
  have k3 : K (s_at t3) = K (s_at t2) := congrArg K e3
  exact Ok.ret ⟨i_t3, show s_at s ≤ s_at t3 from by omega, show s_op t3 = s_op s from by omega, show 0 < 20000 from by omega⟩
theorem T_X1_varSpec {cnt N : Nat} {K : Nat → Nat} (G : Kg cnt N K) {n : Nat} {rc : Nat → Nat → Nat → Ss → Rs Ss} (R : Sp cnt N K n rc) {s : Ss} (i_s : Iv cnt N s) (hm : 7 + 16 * (30 - s_op s) < n + 1) : Ok (Po cnt N s (s_op s) 20000) (Iv cnt N) (b_X1_varSpec K N rc s) := by
  obtain ⟨hc, hN, hk, hz9⟩ := id G
  obtain ⟨a0, p0, h0, g0, w0, -⟩ := id i_s
  unfold b_X1_varSpec
  refine Ok.rc (R 54 (by decide) _ _ _ i_s (pkf pk_54) (by decide) (by decide) (rkl rk_54 (show 0 + 16 * (30 - (s_op s)) < n from by omega))) bd_54 (fun v1 t1 i_t1 (e1 : s_at s ≤ s_at t1) (o1 : s_op t1 = s_op s) b1 => ?_)
  obtain ⟨a1, p1, h1, g1, w1, -⟩ := id i_t1
  refine Ok.sees G (by decide) (fun (q2 : K (s_at t1) = 70) => ?_) (fun (q2 : K (s_at t1) ≠ 70) => ?_)
  · refine Ok.ifz1 ?_
    refine Ok.accept G i_t1 (by decide) (by decide) (fun t3 i_t3 (e3 : s_at t3 = s_at t1 + 1) (o3 : s_op t3 = s_op t1) => ?_) (fun (q4 : K (s_at t1) ≠ 70) => ?_)
    · obtain ⟨a3, p3, h3, g3, w3, -⟩ := id i_t3
      refine Ok.ifz1 ?_
      refine Ok.rc (R 55 (by decide) _ _ _ i_t3 (pkf pk_55) (by decide) (by decide) (rkl rk_55 (show 6 + 16 * (30 - (s_op t3)) < n from by omega))) bd_55 (fun v5 t5 i_t5 (e5 : s_at t3 ≤ s_at t5) (o5 : s_op t5 = s_op t3) b5 => ?_)
      obtain ⟨a5, p5, h5, g5, w5, -⟩ := id i_t5
      refine Ok.put G i_t5 (by decide) (fun t6 i_t6 (e6 : s_at t6 = s_at t5) (o6 : s_op t6 = s_op t5) => ?_)
      obtain ⟨a6, p6, h6, g6, w6, -⟩ := id i_t6
      have k6 : K (s_at t6) = K (s_at t5) := congrArg K e6
      exact Ok.ret ⟨i_t6, show s_at s ≤ s_at t6 from by omega, show s_op t6 = s_op s from by omega, show 0 < 20000 from by omega⟩
    · refine Ok.ifz0 ?_
      refine Ok.put G i_t1 (by decide) (fun t7 i_t7 (e7 : s_at t7 = s_at t1) (o7 : s_op t7 = s_op t1) => ?_)
      obtain ⟨a7, p7, h7, g7, w7, -⟩ := id i_t7
      have k7 : K (s_at t7) = K (s_at t1) := congrArg K e7
      exact Ok.ret ⟨i_t7, show s_at s ≤ s_at t7 from by omega, show s_op t7 = s_op s from by omega, show 0 < 20000 from by omega⟩
  · refine Ok.ifz0 ?_
    refine Ok.rc (R 26 (by decide) _ _ _ i_t1 (pkf pk_26) (by decide) (by decide) (rkl rk_26 (show 0 + 16 * (30 - (s_op t1)) < n from by omega))) bd_26 (fun v8 t8 i_t8 (e8 : s_at t1 ≤ s_at t8) (o8 : s_op t8 = s_op t1) b8 => ?_)
    obtain ⟨a8, p8, h8, g8, w8, -⟩ := id i_t8
    refine Ok.accept G i_t8 (by decide) (by decide) (fun t9 i_t9 (e9 : s_at t9 = s_at t8 + 1) (o9 : s_op t9 = s_op t8) => ?_) (fun (q10 : K (s_at t8) ≠ 70) => ?_)
    · obtain ⟨a9, p9, h9, g9, w9, -⟩ := id i_t9
      refine Ok.ifz1 ?_
      refine Ok.rc (R 55 (by decide) _ _ _ i_t9 (pkf pk_55) (by decide) (by decide) (rkl rk_55 (show 6 + 16 * (30 - (s_op t9)) < n from by omega))) bd_55 (fun v11 t11 i_t11 (e11 : s_at t9 ≤ s_at t11) (o11 : s_op t11 = s_op t9) b11 => ?_)
      obtain ⟨a11, p11, h11, g11, w11, -⟩ := id i_t11
      refine Ok.put G i_t11 (by decide) (fun t12 i_t12 (e12 : s_at t12 = s_at t11) (o12 : s_op t12 = s_op t11) => ?_)
      obtain ⟨a12, p12, h12, g12, w12, -⟩ := id i_t12
      have k12 : K (s_at t12) = K (s_at t11) := congrArg K e12
      exact Ok.ret ⟨i_t12, show s_at s ≤ s_at t12 from by omega, show s_op t12 = s_op s from by omega, show 0 < 20000 from by omega⟩
    · refine Ok.ifz0 ?_
      refine Ok.put G i_t8 (by decide) (fun t13 i_t13 (e13 : s_at t13 = s_at t8) (o13 : s_op t13 = s_op t8) => ?_)
      obtain ⟨a13, p13, h13, g13, w13, -⟩ := id i_t13
      have k13 : K (s_at t13) = K (s_at t8) := congrArg K e13
      exact Ok.ret ⟨i_t13, show s_at s ≤ s_at t13 from by omega, show s_op t13 = s_op s from by omega, show 0 < 20000 from by omega⟩
theorem T_X1_ifStmt {cnt N : Nat} {K : Nat → Nat} (G : Kg cnt N K) {n : Nat} {rc : Nat → Nat → Nat → Ss → Rs Ss} (R : Sp cnt N K n rc) {s : Ss} (i_s : Iv cnt N s) (hz : K (s_at s) ≠ 0) (hm : 9 + 16 * (30 - s_op s) < n + 1) : Ok (Po cnt N s (s_op s) 20000) (Iv cnt N) (b_X1_ifStmt K N rc s) := by
  obtain ⟨hc, hN, hk, hz9⟩ := id G
  obtain ⟨a0, p0, h0, g0, w0, -⟩ := id i_s
  unfold b_X1_ifStmt
  refine Ok.take G i_s (show K (s_at s) ≠ 0 from by omega) (fun t1 i_t1 (e1 : s_at t1 = s_at s + 1) (o1 : s_op t1 = s_op s) => ?_)
  obtain ⟨a1, p1, h1, g1, w1, -⟩ := id i_t1
  refine Ok.rc (R 61 (by decide) _ _ _ (Iv_ih i_t1 (show 1 < 2 from by omega)) (pkf pk_61) (by decide) (by decide) (rkl rk_61 (show 8 + 16 * (30 - (s_op t1)) < n from by omega))) bd_61 (fun v2 t2 i_t2 (e2 : s_at t1 ≤ s_at t2) (o2 : s_op t2 = s_op t1) b2 => ?_)
  obtain ⟨a2, p2, h2, g2, w2, -⟩ := id i_t2
  refine Ok.ife (show v2 < 2147483648 from by omega) (by decide) (fun q3 => ?_) (fun q3 => ?_)
  · refine Ok.rc (R 29 (by decide) _ _ _ i_t2 (pkf pk_29) (by decide) (by decide) (rkl rk_29 (show 4 + 16 * (30 - (s_op t2)) < n from by omega))) bd_29 (fun v4 t4 i_t4 (e4 : s_at t2 ≤ s_at t4) (o4 : s_op t4 = s_op t2) b4 => ?_)
    obtain ⟨a4, p4, h4, g4, w4, -⟩ := id i_t4
    refine Ok.ck (show (s_ih t1) < 2 from by omega) ?_
    refine Ok.rc (R 47 (by decide) _ _ _ (Iv_ih i_t4 (show s_ih t1 < 2 from by omega)) (pkf pk_47) (by decide) (by decide) (rkl rk_47 (show 0 + 16 * (30 - (s_op t4)) < n from by omega))) bd_47 (fun v5 t5 i_t5 (e5 : s_at t4 ≤ s_at t5) (o5 : s_op t5 = s_op t4) b5 => ?_)
    obtain ⟨a5, p5, h5, g5, w5, -⟩ := id i_t5
    refine Ok.sees G (by decide) (fun (q6 : K (s_at t5) = 17) => ?_) (fun (q6 : K (s_at t5) ≠ 17) => ?_)
    · refine Ok.ifz1 ?_
      refine Ok.rc (R 69 (by decide) _ _ _ i_t5 (pkf pk_69) (by decide) (by decide) (rkl rk_69 (show 0 + 16 * (30 - (s_op t5)) < n from by omega))) bd_69 (fun v7 t7 i_t7 (e7 : s_at t5 ≤ s_at t7) (o7 : s_op t7 = s_op t5) b7 => ?_)
      obtain ⟨a7, p7, h7, g7, w7, -⟩ := id i_t7
      refine Ok.put G i_t7 (by decide) (fun t8 i_t8 (e8 : s_at t8 = s_at t7) (o8 : s_op t8 = s_op t7) => ?_)
      obtain ⟨a8, p8, h8, g8, w8, -⟩ := id i_t8
      have k8 : K (s_at t8) = K (s_at t7) := congrArg K e8
      exact Ok.ret ⟨i_t8, show s_at s ≤ s_at t8 from by omega, show s_op t8 = s_op s from by omega, show 0 < 20000 from by omega⟩
    · refine Ok.ifz0 ?_
      refine Ok.put G i_t5 (by decide) (fun t9 i_t9 (e9 : s_at t9 = s_at t5) (o9 : s_op t9 = s_op t5) => ?_)
      obtain ⟨a9, p9, h9, g9, w9, -⟩ := id i_t9
      have k9 : K (s_at t9) = K (s_at t5) := congrArg K e9
      exact Ok.ret ⟨i_t9, show s_at s ≤ s_at t9 from by omega, show s_op t9 = s_op s from by omega, show 0 < 20000 from by omega⟩
  · refine Ok.ck (show (s_ih t1) < 2 from by omega) ?_
    refine Ok.rc (R 47 (by decide) _ _ _ (Iv_ih i_t2 (show s_ih t1 < 2 from by omega)) (pkf pk_47) (by decide) (by decide) (rkl rk_47 (show 0 + 16 * (30 - (s_op t2)) < n from by omega))) bd_47 (fun v10 t10 i_t10 (e10 : s_at t2 ≤ s_at t10) (o10 : s_op t10 = s_op t2) b10 => ?_)
    obtain ⟨a10, p10, h10, g10, w10, -⟩ := id i_t10
    refine Ok.sees G (by decide) (fun (q11 : K (s_at t10) = 17) => ?_) (fun (q11 : K (s_at t10) ≠ 17) => ?_)
    · refine Ok.ifz1 ?_
      refine Ok.rc (R 69 (by decide) _ _ _ i_t10 (pkf pk_69) (by decide) (by decide) (rkl rk_69 (show 0 + 16 * (30 - (s_op t10)) < n from by omega))) bd_69 (fun v12 t12 i_t12 (e12 : s_at t10 ≤ s_at t12) (o12 : s_op t12 = s_op t10) b12 => ?_)
      obtain ⟨a12, p12, h12, g12, w12, -⟩ := id i_t12
      refine Ok.put G i_t12 (by decide) (fun t13 i_t13 (e13 : s_at t13 = s_at t12) (o13 : s_op t13 = s_op t12) => ?_)
      obtain ⟨a13, p13, h13, g13, w13, -⟩ := id i_t13
      have k13 : K (s_at t13) = K (s_at t12) := congrArg K e13
      exact Ok.ret ⟨i_t13, show s_at s ≤ s_at t13 from by omega, show s_op t13 = s_op s from by omega, show 0 < 20000 from by omega⟩
    · refine Ok.ifz0 ?_
      refine Ok.put G i_t10 (by decide) (fun t14 i_t14 (e14 : s_at t14 = s_at t10) (o14 : s_op t14 = s_op t10) => ?_)
      obtain ⟨a14, p14, h14, g14, w14, -⟩ := id i_t14
      have k14 : K (s_at t14) = K (s_at t10) := congrArg K e14
      exact Ok.ret ⟨i_t14, show s_at s ≤ s_at t14 from by omega, show s_op t14 = s_op s from by omega, show 0 < 20000 from by omega⟩
theorem T_X1_opening {cnt N : Nat} {K : Nat → Nat} (G : Kg cnt N K) {n : Nat} {rc : Nat → Nat → Nat → Ss → Rs Ss} (R : Sp cnt N K n rc) {x1 : Nat} {x2 : Nat} {s : Ss} (i_s : Iv cnt N s) (hx1 : x1 < 20000) (hx2 : x2 < 20000) (hm : 8 + 16 * (30 - s_op s) < n + 1) : Ok (Po cnt N s (s_op s) 20000) (Iv cnt N) (b_X1_opening K N rc x1 x2 s) := by
  obtain ⟨hc, hN, hk, hz9⟩ := id G
  obtain ⟨a0, p0, h0, g0, w0, -⟩ := id i_s
  unfold b_X1_opening
  refine Ok.sees G (by decide) (fun (q1 : K (s_at s) = 85) => ?_) (fun (q1 : K (s_at s) ≠ 85) => ?_)
  · refine Ok.ifz1 ?_
    refine Ok.expect G i_s (by decide) (by decide) (fun t2 i_t2 (e2 : s_at t2 = s_at s + 1) (o2 : s_op t2 = s_op s) => ?_)
    obtain ⟨a2, p2, h2, g2, w2, -⟩ := id i_t2
    refine Ok.put G i_t2 (by decide) (fun t3 i_t3 (e3 : s_at t3 = s_at t2) (o3 : s_op t3 = s_op t2) => ?_)
    obtain ⟨a3, p3, h3, g3, w3, -⟩ := id i_t3
    have k3 : K (s_at t3) = K (s_at t2) := congrArg K e3
    exact Ok.ret ⟨i_t3, show s_at s ≤ s_at t3 from by omega, show s_op t3 = s_op s from by omega, show 1 < 20000 from by omega⟩
  · refine Ok.ifz0 ?_
    refine Ok.rc (R 62 (by decide) _ _ _ i_s (pkf pk_62) (show x1 < 20000 from by omega) (by decide) (rkl rk_62 (show 7 + 16 * (30 - (s_op s)) < n from by omega))) bd_62 (fun v4 t4 i_t4 (e4 : s_at s ≤ s_at t4) (o4 : s_op t4 = s_op s) b4 => ?_)
    obtain ⟨a4, p4, h4, g4, w4, -⟩ := id i_t4
    refine Ok.ifz (show v4 < 2147483648 from by omega) (fun q5 => ?_) (fun q5 => ?_)
    · refine Ok.sees G (by decide) (fun (q6 : K (s_at t4) = 85) => ?_) (fun (q6 : K (s_at t4) ≠ 85) => ?_)
      · refine Ok.ifz1 ?_
        refine Ok.put G i_t4 (by decide) (fun t7 i_t7 (e7 : s_at t7 = s_at t4) (o7 : s_op t7 = s_op t4) => ?_)
        obtain ⟨a7, p7, h7, g7, w7, -⟩ := id i_t7
        have k7 : K (s_at t7) = K (s_at t4) := congrArg K e7
        refine Ok.expect G i_t7 (by decide) (by decide) (fun t8 i_t8 (e8 : s_at t8 = s_at t7 + 1) (o8 : s_op t8 = s_op t7) => ?_)
        obtain ⟨a8, p8, h8, g8, w8, -⟩ := id i_t8
        refine Ok.put G i_t8 (by decide) (fun t9 i_t9 (e9 : s_at t9 = s_at t8) (o9 : s_op t9 = s_op t8) => ?_)
        obtain ⟨a9, p9, h9, g9, w9, -⟩ := id i_t9
        have k9 : K (s_at t9) = K (s_at t8) := congrArg K e9
        exact Ok.ret ⟨i_t9, show s_at s ≤ s_at t9 from by omega, show s_op t9 = s_op s from by omega, show 1 < 20000 from by omega⟩
      · refine Ok.ifz0 ?_
        refine Ok.ife (show v4 < 2147483648 from by omega) (by decide) (fun q10 => ?_) (fun q10 => ?_)
        · refine Ok.expect G i_t4 (by decide) (by decide) (fun t11 i_t11 (e11 : s_at t11 = s_at t4 + 1) (o11 : s_op t11 = s_op t4) => ?_)
          obtain ⟨a11, p11, h11, g11, w11, -⟩ := id i_t11
          refine Ok.put G i_t11 (by decide) (fun t12 i_t12 (e12 : s_at t12 = s_at t11) (o12 : s_op t12 = s_op t11) => ?_)
          obtain ⟨a12, p12, h12, g12, w12, -⟩ := id i_t12
          have k12 : K (s_at t12) = K (s_at t11) := congrArg K e12
          exact Ok.ret ⟨i_t12, show s_at s ≤ s_at t12 from by omega, show s_op t12 = s_op s from by omega, show 1 < 20000 from by omega⟩
        · exact Ok.ret ⟨i_t4, show s_at s ≤ s_at t4 from by omega, show s_op t4 = s_op s from by omega, show v4 < 20000 from by omega⟩
    · refine Ok.ife (show v4 < 2147483648 from by omega) (by decide) (fun q13 => ?_) (fun q13 => ?_)
      · refine Ok.expect G i_t4 (by decide) (by decide) (fun t14 i_t14 (e14 : s_at t14 = s_at t4 + 1) (o14 : s_op t14 = s_op t4) => ?_)
        obtain ⟨a14, p14, h14, g14, w14, -⟩ := id i_t14
        refine Ok.put G i_t14 (by decide) (fun t15 i_t15 (e15 : s_at t15 = s_at t14) (o15 : s_op t15 = s_op t14) => ?_)
        obtain ⟨a15, p15, h15, g15, w15, -⟩ := id i_t15
        have k15 : K (s_at t15) = K (s_at t14) := congrArg K e15
        exact Ok.ret ⟨i_t15, show s_at s ≤ s_at t15 from by omega, show s_op t15 = s_op s from by omega, show 1 < 20000 from by omega⟩
      · exact Ok.ret ⟨i_t4, show s_at s ≤ s_at t4 from by omega, show s_op t4 = s_op s from by omega, show v4 < 20000 from by omega⟩
theorem T_lp_X1_simple_43 {cnt N : Nat} {K : Nat → Nat} (G : Kg cnt N K) {n : Nat} {rc : Nat → Nat → Nat → Ss → Rs Ss} (R : Sp cnt N K n rc) : ∀ (f y1 y2 y3 y4 : Nat) (s : Ss), Iv cnt N s → 16387 ≤ f + y4 → y4 ≤ 16386 → y1 < 20000 → y2 < 20000 → y3 < 20000 → y4 < 20000 → 6 + 16 * (30 - s_op s) < n → Ok (Po cnt N s (s_op s) 20000) (Iv cnt N) (lp_X1_simple_43 K N rc f y1 y2 y3 y4 s) := by
  obtain ⟨hc, hN, hk, hz9⟩ := id G
  intro f
  induction f with
  | zero => intro y1 y2 y3 y4 s i_s c1 c2 hy1 hy2 hy3 hy4 hm; omega
  | succ f ih =>
    intro y1 y2 y3 y4 s i_s c1 c2 hy1 hy2 hy3 hy4 hm
    obtain ⟨a0, p0, h0, g0, w0, -⟩ := id i_s
    rw [lp_X1_simple_43]
    refine Ok.ifl (show y4 < 2147483648 from by omega) (by decide) (fun q1 => ?_) (fun q1 => ?_)
    · refine Ok.accept G i_s (by decide) (by decide) (fun t2 i_t2 (e2 : s_at t2 = s_at s + 1) (o2 : s_op t2 = s_op s) => ?_) (fun (q3 : K (s_at s) ≠ 84) => ?_)
      · obtain ⟨a2, p2, h2, g2, w2, -⟩ := id i_t2
        refine Ok.ifz1 ?_
        refine Ok.rc (R 29 (by decide) _ _ _ i_t2 (pkf pk_29) (by decide) (by decide) (rkl rk_29 (show 4 + 16 * (30 - (s_op t2)) < n from by omega))) bd_29 (fun v4 t4 i_t4 (e4 : s_at t2 ≤ s_at t4) (o4 : s_op t4 = s_op t2) b4 => ?_)
        obtain ⟨a4, p4, h4, g4, w4, -⟩ := id i_t4
        refine Ok.ifz (show y3 < 2147483648 from by omega) (fun q5 => ?_) (fun q5 => ?_)
        · refine Ok.imp (ih y1 y2 0 (y4 + 1) _ i_t4 (show 16387 ≤ f + (y4 + 1) from by omega) (show y4 + 1 ≤ 16386 from by omega) (show y1 < 20000 from by omega) (show y2 < 20000 from by omega) (by decide) (show y4 + 1 < 20000 from by omega) (show 6 + 16 * (30 - (s_op t4)) < n from by omega)) (fun v6 t6 z6 => ?_)
          obtain ⟨i_t6, e6, o6, b6⟩ := z6
          have e6 : s_at t4 ≤ s_at t6 := e6
          have o6 : s_op t6 = (s_op t4) := o6
          exact ⟨i_t6, by omega, by omega, by omega⟩
        · refine Ok.isName G i_t4 (show s_at t2 < 20000 from by omega) (fun v7 b7 => ?_)
          refine Ok.ifz (show v7 < 2147483648 from by omega) (fun q8 => ?_) (fun q8 => ?_)
          · refine Ok.imp (ih y1 y2 0 (y4 + 1) _ i_t4 (show 16387 ≤ f + (y4 + 1) from by omega) (show y4 + 1 ≤ 16386 from by omega) (show y1 < 20000 from by omega) (show y2 < 20000 from by omega) (by decide) (show y4 + 1 < 20000 from by omega) (show 6 + 16 * (30 - (s_op t4)) < n from by omega)) (fun v9 t9 z9 => ?_)
            obtain ⟨i_t9, e9, o9, b9⟩ := z9
            have e9 : s_at t4 ≤ s_at t9 := e9
            have o9 : s_op t9 = (s_op t4) := o9
            exact ⟨i_t9, by omega, by omega, by omega⟩
          · refine Ok.imp (ih y1 y2 1 (y4 + 1) _ i_t4 (show 16387 ≤ f + (y4 + 1) from by omega) (show y4 + 1 ≤ 16386 from by omega) (show y1 < 20000 from by omega) (show y2 < 20000 from by omega) (by decide) (show y4 + 1 < 20000 from by omega) (show 6 + 16 * (30 - (s_op t4)) < n from by omega)) (fun v10 t10 z10 => ?_)
            obtain ⟨i_t10, e10, o10, b10⟩ := z10
            have e10 : s_at t4 ≤ s_at t10 := e10
            have o10 : s_op t10 = (s_op t4) := o10
            exact ⟨i_t10, by omega, by omega, by omega⟩
      · refine Ok.ifz0 ?_
        refine Ok.sees G (by decide) (fun (q11 : K (s_at s) = 70) => ?_) (fun (q11 : K (s_at s) ≠ 70) => ?_)
        · refine Ok.ifz1 ?_
          refine Ok.put G i_s (show y4 < 20000 from by omega) (fun t12 i_t12 (e12 : s_at t12 = s_at s) (o12 : s_op t12 = s_op s) => ?_)
          obtain ⟨a12, p12, h12, g12, w12, -⟩ := id i_t12
          have k12 : K (s_at t12) = K (s_at s) := congrArg K e12
          refine Ok.rc (R 65 (by decide) _ _ _ i_t12 (pkt (show K (s_at t12) ≠ 0 from by omega)) (show y1 < 20000 from by omega) (by decide) (rkl rk_65 (show 6 + 16 * (30 - (s_op t12)) < n from by omega))) bd_65 (fun v13 t13 i_t13 (e13 : s_at t12 ≤ s_at t13) (o13 : s_op t13 = s_op t12) b13 => ?_)
          obtain ⟨a13, p13, h13, g13, w13, -⟩ := id i_t13
          exact Ok.ret ⟨i_t13, show s_at s ≤ s_at t13 from by omega, show s_op t13 = s_op s from by omega, show v13 < 20000 from by omega⟩
        · refine Ok.ifz0 ?_
          refine Ok.sees G (by decide) (fun (q14 : K (s_at s) = 76) => ?_) (fun (q14 : K (s_at s) ≠ 76) => ?_)
          · refine Ok.ifz1 ?_
            refine Ok.ifz (show y3 < 2147483648 from by omega) (fun q15 => ?_) (fun q15 => ?_)
            · refine Ok.ifl (by decide) (show y4 < 2147483648 from by omega) (fun q16 => ?_) (fun q16 => ?_)
              · exact Ok.er i_s
              · refine Ok.rc (R 67 (by decide) _ _ _ i_s (pkf pk_67) (show y1 < 20000 from by omega) (by decide) (rkl rk_67 (show 5 + 16 * (30 - (s_op s)) < n from by omega))) bd_67 (fun v17 t17 i_t17 (e17 : s_at s ≤ s_at t17) (o17 : s_op t17 = s_op s) b17 => ?_)
                obtain ⟨a17, p17, h17, g17, w17, -⟩ := id i_t17
                exact Ok.ret ⟨i_t17, show s_at s ≤ s_at t17 from by omega, show s_op t17 = s_op s from by omega, show v17 < 20000 from by omega⟩
            · refine Ok.ife (show y1 < 2147483648 from by omega) (by decide) (fun q18 => ?_) (fun q18 => ?_)
              · refine Ok.ifl (by decide) (show y4 < 2147483648 from by omega) (fun q19 => ?_) (fun q19 => ?_)
                · exact Ok.er i_s
                · refine Ok.rc (R 67 (by decide) _ _ _ i_s (pkf pk_67) (show y1 < 20000 from by omega) (by decide) (rkl rk_67 (show 5 + 16 * (30 - (s_op s)) < n from by omega))) bd_67 (fun v20 t20 i_t20 (e20 : s_at s ≤ s_at t20) (o20 : s_op t20 = s_op s) b20 => ?_)
                  obtain ⟨a20, p20, h20, g20, w20, -⟩ := id i_t20
                  exact Ok.ret ⟨i_t20, show s_at s ≤ s_at t20 from by omega, show s_op t20 = s_op s from by omega, show v20 < 20000 from by omega⟩
              · refine Ok.put G i_s (show y4 < 20000 from by omega) (fun t21 i_t21 (e21 : s_at t21 = s_at s) (o21 : s_op t21 = s_op s) => ?_)
                obtain ⟨a21, p21, h21, g21, w21, -⟩ := id i_t21
                have k21 : K (s_at t21) = K (s_at s) := congrArg K e21
                refine Ok.rc (R 66 (by decide) _ _ _ i_t21 (pkt (show K (s_at t21) ≠ 0 from by omega)) (show y1 < 20000 from by omega) (show y4 < 20000 from by omega) (rkl rk_66 (show 6 + 16 * (30 - (s_op t21)) < n from by omega))) bd_66 (fun v22 t22 i_t22 (e22 : s_at t21 ≤ s_at t22) (o22 : s_op t22 = s_op t21) b22 => ?_)
                obtain ⟨a22, p22, h22, g22, w22, -⟩ := id i_t22
                exact Ok.ret ⟨i_t22, show s_at s ≤ s_at t22 from by omega, show s_op t22 = s_op s from by omega, show v22 < 20000 from by omega⟩
          · refine Ok.ifz0 ?_
            refine Ok.ifl (by decide) (show y4 < 2147483648 from by omega) (fun q23 => ?_) (fun q23 => ?_)
            · exact Ok.er i_s
            · refine Ok.rc (R 67 (by decide) _ _ _ i_s (pkf pk_67) (show y1 < 20000 from by omega) (by decide) (rkl rk_67 (show 5 + 16 * (30 - (s_op s)) < n from by omega))) bd_67 (fun v24 t24 i_t24 (e24 : s_at s ≤ s_at t24) (o24 : s_op t24 = s_op s) b24 => ?_)
              obtain ⟨a24, p24, h24, g24, w24, -⟩ := id i_t24
              exact Ok.ret ⟨i_t24, show s_at s ≤ s_at t24 from by omega, show s_op t24 = s_op s from by omega, show v24 < 20000 from by omega⟩
    · refine Ok.sees G (by decide) (fun (q25 : K (s_at s) = 70) => ?_) (fun (q25 : K (s_at s) ≠ 70) => ?_)
      · refine Ok.ifz1 ?_
        refine Ok.put G i_s (show y4 < 20000 from by omega) (fun t26 i_t26 (e26 : s_at t26 = s_at s) (o26 : s_op t26 = s_op s) => ?_)
        obtain ⟨a26, p26, h26, g26, w26, -⟩ := id i_t26
        have k26 : K (s_at t26) = K (s_at s) := congrArg K e26
        refine Ok.rc (R 65 (by decide) _ _ _ i_t26 (pkt (show K (s_at t26) ≠ 0 from by omega)) (show y1 < 20000 from by omega) (by decide) (rkl rk_65 (show 6 + 16 * (30 - (s_op t26)) < n from by omega))) bd_65 (fun v27 t27 i_t27 (e27 : s_at t26 ≤ s_at t27) (o27 : s_op t27 = s_op t26) b27 => ?_)
        obtain ⟨a27, p27, h27, g27, w27, -⟩ := id i_t27
        exact Ok.ret ⟨i_t27, show s_at s ≤ s_at t27 from by omega, show s_op t27 = s_op s from by omega, show v27 < 20000 from by omega⟩
      · refine Ok.ifz0 ?_
        refine Ok.sees G (by decide) (fun (q28 : K (s_at s) = 76) => ?_) (fun (q28 : K (s_at s) ≠ 76) => ?_)
        · refine Ok.ifz1 ?_
          refine Ok.ifz (show y3 < 2147483648 from by omega) (fun q29 => ?_) (fun q29 => ?_)
          · refine Ok.ifl (by decide) (show y4 < 2147483648 from by omega) (fun q30 => ?_) (fun q30 => ?_)
            · exact Ok.er i_s
            · refine Ok.rc (R 67 (by decide) _ _ _ i_s (pkf pk_67) (show y1 < 20000 from by omega) (by decide) (rkl rk_67 (show 5 + 16 * (30 - (s_op s)) < n from by omega))) bd_67 (fun v31 t31 i_t31 (e31 : s_at s ≤ s_at t31) (o31 : s_op t31 = s_op s) b31 => ?_)
              obtain ⟨a31, p31, h31, g31, w31, -⟩ := id i_t31
              exact Ok.ret ⟨i_t31, show s_at s ≤ s_at t31 from by omega, show s_op t31 = s_op s from by omega, show v31 < 20000 from by omega⟩
          · refine Ok.ife (show y1 < 2147483648 from by omega) (by decide) (fun q32 => ?_) (fun q32 => ?_)
            · refine Ok.ifl (by decide) (show y4 < 2147483648 from by omega) (fun q33 => ?_) (fun q33 => ?_)
              · exact Ok.er i_s
              · refine Ok.rc (R 67 (by decide) _ _ _ i_s (pkf pk_67) (show y1 < 20000 from by omega) (by decide) (rkl rk_67 (show 5 + 16 * (30 - (s_op s)) < n from by omega))) bd_67 (fun v34 t34 i_t34 (e34 : s_at s ≤ s_at t34) (o34 : s_op t34 = s_op s) b34 => ?_)
                obtain ⟨a34, p34, h34, g34, w34, -⟩ := id i_t34
                exact Ok.ret ⟨i_t34, show s_at s ≤ s_at t34 from by omega, show s_op t34 = s_op s from by omega, show v34 < 20000 from by omega⟩
            · refine Ok.put G i_s (show y4 < 20000 from by omega) (fun t35 i_t35 (e35 : s_at t35 = s_at s) (o35 : s_op t35 = s_op s) => ?_)
              obtain ⟨a35, p35, h35, g35, w35, -⟩ := id i_t35
              have k35 : K (s_at t35) = K (s_at s) := congrArg K e35
              refine Ok.rc (R 66 (by decide) _ _ _ i_t35 (pkt (show K (s_at t35) ≠ 0 from by omega)) (show y1 < 20000 from by omega) (show y4 < 20000 from by omega) (rkl rk_66 (show 6 + 16 * (30 - (s_op t35)) < n from by omega))) bd_66 (fun v36 t36 i_t36 (e36 : s_at t35 ≤ s_at t36) (o36 : s_op t36 = s_op t35) b36 => ?_)
              obtain ⟨a36, p36, h36, g36, w36, -⟩ := id i_t36
              exact Ok.ret ⟨i_t36, show s_at s ≤ s_at t36 from by omega, show s_op t36 = s_op s from by omega, show v36 < 20000 from by omega⟩
        · refine Ok.ifz0 ?_
          refine Ok.ifl (by decide) (show y4 < 2147483648 from by omega) (fun q37 => ?_) (fun q37 => ?_)
          · exact Ok.er i_s
          · refine Ok.rc (R 67 (by decide) _ _ _ i_s (pkf pk_67) (show y1 < 20000 from by omega) (by decide) (rkl rk_67 (show 5 + 16 * (30 - (s_op s)) < n from by omega))) bd_67 (fun v38 t38 i_t38 (e38 : s_at s ≤ s_at t38) (o38 : s_op t38 = s_op s) b38 => ?_)
            obtain ⟨a38, p38, h38, g38, w38, -⟩ := id i_t38
            exact Ok.ret ⟨i_t38, show s_at s ≤ s_at t38 from by omega, show s_op t38 = s_op s from by omega, show v38 < 20000 from by omega⟩
theorem T_X1_simple {cnt N : Nat} {K : Nat → Nat} (G : Kg cnt N K) {n : Nat} {rc : Nat → Nat → Nat → Ss → Rs Ss} (R : Sp cnt N K n rc) {x1 : Nat} {s : Ss} (i_s : Iv cnt N s) (hx1 : x1 < 20000) (hm : 7 + 16 * (30 - s_op s) < n + 1) : Ok (Po cnt N s (s_op s) 20000) (Iv cnt N) (b_X1_simple K N rc x1 s) := by
  obtain ⟨hc, hN, hk, hz9⟩ := id G
  obtain ⟨a0, p0, h0, g0, w0, -⟩ := id i_s
  unfold b_X1_simple
  refine Ok.ife (show x1 < 2147483648 from by omega) (by decide) (fun q1 => ?_) (fun q1 => ?_)
  · refine Ok.rc (R 29 (by decide) _ _ _ i_s (pkf pk_29) (by decide) (by decide) (rkl rk_29 (show 4 + 16 * (30 - (s_op s)) < n from by omega))) bd_29 (fun v2 t2 i_t2 (e2 : s_at s ≤ s_at t2) (o2 : s_op t2 = s_op s) b2 => ?_)
    obtain ⟨a2, p2, h2, g2, w2, -⟩ := id i_t2
    refine Ok.ife (show s_gw t2 < 2147483648 from by omega) (by decide) (fun q3 => ?_) (fun q3 => ?_)
    · refine Ok.isName G i_t2 (show s_at s < 20000 from by omega) (fun v4 b4 => ?_)
      refine Ok.imp (T_lp_X1_simple_43 G R LF x1 (s_at s) v4 1 _ i_t2 (show 16387 ≤ LF + 1 from by unfold LF; omega) (show 1 ≤ 16386 from by omega) (show x1 < 20000 from by omega) (show s_at s < 20000 from by omega) (show v4 < 20000 from by omega) (by decide) (show 6 + 16 * (30 - (s_op t2)) < n from by omega)) (fun v5 t5 z5 => ?_)
      obtain ⟨i_t5, e5, o5, b5⟩ := z5
      have e5 : s_at t2 ≤ s_at t5 := e5
      have o5 : s_op t5 = (s_op t2) := o5
      exact ⟨i_t5, by omega, by omega, by omega⟩
    · refine Ok.putGuard G i_t2 (show s_gw t2 ≠ 0 from by omega) (by decide) (fun t6 i_t6 (e6 : s_at t6 = s_at t2) (o6 : s_op t6 = s_op t2) => ?_)
      obtain ⟨a6, p6, h6, g6, w6, -⟩ := id i_t6
      have k6 : K (s_at t6) = K (s_at t2) := congrArg K e6
      exact Ok.ret ⟨i_t6, show s_at s ≤ s_at t6 from by omega, show s_op t6 = s_op s from by omega, show 3 < 20000 from by omega⟩
  · refine Ok.rc (R 29 (by decide) _ _ _ i_s (pkf pk_29) (by decide) (by decide) (rkl rk_29 (show 4 + 16 * (30 - (s_op s)) < n from by omega))) bd_29 (fun v7 t7 i_t7 (e7 : s_at s ≤ s_at t7) (o7 : s_op t7 = s_op s) b7 => ?_)
    obtain ⟨a7, p7, h7, g7, w7, -⟩ := id i_t7
    refine Ok.ife (show s_gw t7 < 2147483648 from by omega) (by decide) (fun q8 => ?_) (fun q8 => ?_)
    · refine Ok.isName G i_t7 (show s_at s < 20000 from by omega) (fun v9 b9 => ?_)
      refine Ok.imp (T_lp_X1_simple_43 G R LF x1 (s_at s) v9 1 _ i_t7 (show 16387 ≤ LF + 1 from by unfold LF; omega) (show 1 ≤ 16386 from by omega) (show x1 < 20000 from by omega) (show s_at s < 20000 from by omega) (show v9 < 20000 from by omega) (by decide) (show 6 + 16 * (30 - (s_op t7)) < n from by omega)) (fun v10 t10 z10 => ?_)
      obtain ⟨i_t10, e10, o10, b10⟩ := z10
      have e10 : s_at t7 ≤ s_at t10 := e10
      have o10 : s_op t10 = (s_op t7) := o10
      exact ⟨i_t10, by omega, by omega, by omega⟩
    · refine Ok.putGuard G i_t7 (show s_gw t7 ≠ 0 from by omega) (by decide) (fun t11 i_t11 (e11 : s_at t11 = s_at t7) (o11 : s_op t11 = s_op t7) => ?_)
      obtain ⟨a11, p11, h11, g11, w11, -⟩ := id i_t11
      have k11 : K (s_at t11) = K (s_at t7) := congrArg K e11
      exact Ok.ret ⟨i_t11, show s_at s ≤ s_at t11 from by omega, show s_op t11 = s_op s from by omega, show 3 < 20000 from by omega⟩
theorem T_X1_assign {cnt N : Nat} {K : Nat → Nat} (G : Kg cnt N K) {n : Nat} {rc : Nat → Nat → Nat → Ss → Rs Ss} (R : Sp cnt N K n rc) {x1 : Nat} {s : Ss} (i_s : Iv cnt N s) (hz : K (s_at s) ≠ 0) (hx1 : x1 < 20000) (hm : 6 + 16 * (30 - s_op s) < n + 1) : Ok (Po cnt N s (s_op s) 20000) (Iv cnt N) (b_X1_assign K N rc x1 s) := by
  obtain ⟨hc, hN, hk, hz9⟩ := id G
  obtain ⟨a0, p0, h0, g0, w0, -⟩ := id i_s
  unfold b_X1_assign
  refine Ok.take G i_s (show K (s_at s) ≠ 0 from by omega) (fun t1 i_t1 (e1 : s_at t1 = s_at s + 1) (o1 : s_op t1 = s_op s) => ?_)
  obtain ⟨a1, p1, h1, g1, w1, -⟩ := id i_t1
  refine Ok.ife (show x1 < 2147483648 from by omega) (by decide) (fun q2 => ?_) (fun q2 => ?_)
  · refine Ok.sees G (by decide) (fun (q3 : K (s_at t1) = 28) => ?_) (fun (q3 : K (s_at t1) ≠ 28) => ?_)
    · refine Ok.ifz1 ?_
      exact Ok.ret ⟨i_t1, show s_at s ≤ s_at t1 from by omega, show s_op t1 = s_op s from by omega, show 2 < 20000 from by omega⟩
    · refine Ok.ifz0 ?_
      refine Ok.rc (R 29 (by decide) _ _ _ i_t1 (pkf pk_29) (by decide) (by decide) (rkl rk_29 (show 4 + 16 * (30 - (s_op t1)) < n from by omega))) bd_29 (fun v4 t4 i_t4 (e4 : s_at t1 ≤ s_at t4) (o4 : s_op t4 = s_op t1) b4 => ?_)
      obtain ⟨a4, p4, h4, g4, w4, -⟩ := id i_t4
      refine Ok.rc (R 56 (by decide) _ _ _ i_t4 (pkf pk_56) (show x1 < 20000 from by omega) (show s_at t1 < 20000 from by omega) (rkl rk_56 (show 5 + 16 * (30 - (s_op t4)) < n from by omega))) bd_56 (fun v5 t5 i_t5 (e5 : s_at t4 ≤ s_at t5) (o5 : s_op t5 = s_op t4) b5 => ?_)
      obtain ⟨a5, p5, h5, g5, w5, -⟩ := id i_t5
      refine Ok.put G i_t5 (by decide) (fun t6 i_t6 (e6 : s_at t6 = s_at t5) (o6 : s_op t6 = s_op t5) => ?_)
      obtain ⟨a6, p6, h6, g6, w6, -⟩ := id i_t6
      have k6 : K (s_at t6) = K (s_at t5) := congrArg K e6
      exact Ok.ret ⟨i_t6, show s_at s ≤ s_at t6 from by omega, show s_op t6 = s_op s from by omega, show 1 < 20000 from by omega⟩
  · refine Ok.rc (R 29 (by decide) _ _ _ i_t1 (pkf pk_29) (by decide) (by decide) (rkl rk_29 (show 4 + 16 * (30 - (s_op t1)) < n from by omega))) bd_29 (fun v7 t7 i_t7 (e7 : s_at t1 ≤ s_at t7) (o7 : s_op t7 = s_op t1) b7 => ?_)
    obtain ⟨a7, p7, h7, g7, w7, -⟩ := id i_t7
    refine Ok.rc (R 56 (by decide) _ _ _ i_t7 (pkf pk_56) (show x1 < 20000 from by omega) (show s_at t1 < 20000 from by omega) (rkl rk_56 (show 5 + 16 * (30 - (s_op t7)) < n from by omega))) bd_56 (fun v8 t8 i_t8 (e8 : s_at t7 ≤ s_at t8) (o8 : s_op t8 = s_op t7) b8 => ?_)
    obtain ⟨a8, p8, h8, g8, w8, -⟩ := id i_t8
    refine Ok.put G i_t8 (by decide) (fun t9 i_t9 (e9 : s_at t9 = s_at t8) (o9 : s_op t9 = s_op t8) => ?_)
    obtain ⟨a9, p9, h9, g9, w9, -⟩ := id i_t9
    have k9 : K (s_at t9) = K (s_at t8) := congrArg K e9
    exact Ok.ret ⟨i_t9, show s_at s ≤ s_at t9 from by omega, show s_op t9 = s_op s from by omega, show 1 < 20000 from by omega⟩
theorem T_X1_define {cnt N : Nat} {K : Nat → Nat} (G : Kg cnt N K) {n : Nat} {rc : Nat → Nat → Nat → Ss → Rs Ss} (R : Sp cnt N K n rc) {x1 : Nat} {x2 : Nat} {s : Ss} (i_s : Iv cnt N s) (hz : K (s_at s) ≠ 0) (hx1 : x1 < 20000) (hx2 : x2 < 20000) (hm : 6 + 16 * (30 - s_op s) < n + 1) : Ok (Po cnt N s (s_op s) 20000) (Iv cnt N) (b_X1_define K N rc x1 x2 s) := by
  obtain ⟨hc, hN, hk, hz9⟩ := id G
  obtain ⟨a0, p0, h0, g0, w0, -⟩ := id i_s
  unfold b_X1_define
  refine Ok.take G i_s (show K (s_at s) ≠ 0 from by omega) (fun t1 i_t1 (e1 : s_at t1 = s_at s + 1) (o1 : s_op t1 = s_op s) => ?_)
  obtain ⟨a1, p1, h1, g1, w1, -⟩ := id i_t1
  refine Ok.ife (show x1 < 2147483648 from by omega) (by decide) (fun q2 => ?_) (fun q2 => ?_)
  · refine Ok.sees G (by decide) (fun (q3 : K (s_at t1) = 28) => ?_) (fun (q3 : K (s_at t1) ≠ 28) => ?_)
    · refine Ok.ifz1 ?_
      refine Ok.put G i_t1 (by decide) (fun t4 i_t4 (e4 : s_at t4 = s_at t1) (o4 : s_op t4 = s_op t1) => ?_)
      obtain ⟨a4, p4, h4, g4, w4, -⟩ := id i_t4
      have k4 : K (s_at t4) = K (s_at t1) := congrArg K e4
      exact Ok.ret ⟨i_t4, show s_at s ≤ s_at t4 from by omega, show s_op t4 = s_op s from by omega, show 2 < 20000 from by omega⟩
    · refine Ok.ifz0 ?_
      refine Ok.ife (show x1 < 2147483648 from by omega) (by decide) (fun q5 => ?_) (fun q5 => ?_)
      · refine Ok.ife (show x2 < 2147483648 from by omega) (by decide) (fun q6 => ?_) (fun q6 => ?_)
        · refine Ok.rc (R 29 (by decide) _ _ _ i_t1 (pkf pk_29) (by decide) (by decide) (rkl rk_29 (show 4 + 16 * (30 - (s_op t1)) < n from by omega))) bd_29 (fun v7 t7 i_t7 (e7 : s_at t1 ≤ s_at t7) (o7 : s_op t7 = s_op t1) b7 => ?_)
          obtain ⟨a7, p7, h7, g7, w7, -⟩ := id i_t7
          refine Ok.ife (show s_gw t7 < 2147483648 from by omega) (by decide) (fun q8 => ?_) (fun q8 => ?_)
          · refine Ok.rc (R 56 (by decide) _ _ _ i_t7 (pkf pk_56) (show x1 < 20000 from by omega) (show s_at t1 < 20000 from by omega) (rkl rk_56 (show 5 + 16 * (30 - (s_op t7)) < n from by omega))) bd_56 (fun v9 t9 i_t9 (e9 : s_at t7 ≤ s_at t9) (o9 : s_op t9 = s_op t7) b9 => ?_)
            obtain ⟨a9, p9, h9, g9, w9, -⟩ := id i_t9
            refine Ok.put G i_t9 (by decide) (fun t10 i_t10 (e10 : s_at t10 = s_at t9) (o10 : s_op t10 = s_op t9) => ?_)
            obtain ⟨a10, p10, h10, g10, w10, -⟩ := id i_t10
            have k10 : K (s_at t10) = K (s_at t9) := congrArg K e10
            exact Ok.ret ⟨i_t10, show s_at s ≤ s_at t10 from by omega, show s_op t10 = s_op s from by omega, show 1 < 20000 from by omega⟩
          · refine Ok.putGuard G i_t7 (show s_gw t7 ≠ 0 from by omega) (by decide) (fun t11 i_t11 (e11 : s_at t11 = s_at t7) (o11 : s_op t11 = s_op t7) => ?_)
            obtain ⟨a11, p11, h11, g11, w11, -⟩ := id i_t11
            have k11 : K (s_at t11) = K (s_at t7) := congrArg K e11
            exact Ok.ret ⟨i_t11, show s_at s ≤ s_at t11 from by omega, show s_op t11 = s_op s from by omega, show 3 < 20000 from by omega⟩
        · refine Ok.rc (R 29 (by decide) _ _ _ i_t1 (pkf pk_29) (by decide) (by decide) (rkl rk_29 (show 4 + 16 * (30 - (s_op t1)) < n from by omega))) bd_29 (fun v12 t12 i_t12 (e12 : s_at t1 ≤ s_at t12) (o12 : s_op t12 = s_op t1) b12 => ?_)
          obtain ⟨a12, p12, h12, g12, w12, -⟩ := id i_t12
          refine Ok.ife (show s_gw t12 < 2147483648 from by omega) (by decide) (fun q13 => ?_) (fun q13 => ?_)
          · refine Ok.rc (R 56 (by decide) _ _ _ i_t12 (pkf pk_56) (show x1 < 20000 from by omega) (show s_at t1 < 20000 from by omega) (rkl rk_56 (show 5 + 16 * (30 - (s_op t12)) < n from by omega))) bd_56 (fun v14 t14 i_t14 (e14 : s_at t12 ≤ s_at t14) (o14 : s_op t14 = s_op t12) b14 => ?_)
            obtain ⟨a14, p14, h14, g14, w14, -⟩ := id i_t14
            refine Ok.put G i_t14 (by decide) (fun t15 i_t15 (e15 : s_at t15 = s_at t14) (o15 : s_op t15 = s_op t14) => ?_)
            obtain ⟨a15, p15, h15, g15, w15, -⟩ := id i_t15
            have k15 : K (s_at t15) = K (s_at t14) := congrArg K e15
            exact Ok.ret ⟨i_t15, show s_at s ≤ s_at t15 from by omega, show s_op t15 = s_op s from by omega, show 1 < 20000 from by omega⟩
          · refine Ok.putGuard G i_t12 (show s_gw t12 ≠ 0 from by omega) (by decide) (fun t16 i_t16 (e16 : s_at t16 = s_at t12) (o16 : s_op t16 = s_op t12) => ?_)
            obtain ⟨a16, p16, h16, g16, w16, -⟩ := id i_t16
            have k16 : K (s_at t16) = K (s_at t12) := congrArg K e16
            exact Ok.ret ⟨i_t16, show s_at s ≤ s_at t16 from by omega, show s_op t16 = s_op s from by omega, show 3 < 20000 from by omega⟩
      · refine Ok.rc (R 29 (by decide) _ _ _ i_t1 (pkf pk_29) (by decide) (by decide) (rkl rk_29 (show 4 + 16 * (30 - (s_op t1)) < n from by omega))) bd_29 (fun v17 t17 i_t17 (e17 : s_at t1 ≤ s_at t17) (o17 : s_op t17 = s_op t1) b17 => ?_)
        obtain ⟨a17, p17, h17, g17, w17, -⟩ := id i_t17
        refine Ok.ife (show s_gw t17 < 2147483648 from by omega) (by decide) (fun q18 => ?_) (fun q18 => ?_)
        · refine Ok.rc (R 56 (by decide) _ _ _ i_t17 (pkf pk_56) (show x1 < 20000 from by omega) (show s_at t1 < 20000 from by omega) (rkl rk_56 (show 5 + 16 * (30 - (s_op t17)) < n from by omega))) bd_56 (fun v19 t19 i_t19 (e19 : s_at t17 ≤ s_at t19) (o19 : s_op t19 = s_op t17) b19 => ?_)
          obtain ⟨a19, p19, h19, g19, w19, -⟩ := id i_t19
          refine Ok.put G i_t19 (by decide) (fun t20 i_t20 (e20 : s_at t20 = s_at t19) (o20 : s_op t20 = s_op t19) => ?_)
          obtain ⟨a20, p20, h20, g20, w20, -⟩ := id i_t20
          have k20 : K (s_at t20) = K (s_at t19) := congrArg K e20
          exact Ok.ret ⟨i_t20, show s_at s ≤ s_at t20 from by omega, show s_op t20 = s_op s from by omega, show 1 < 20000 from by omega⟩
        · refine Ok.putGuard G i_t17 (show s_gw t17 ≠ 0 from by omega) (by decide) (fun t21 i_t21 (e21 : s_at t21 = s_at t17) (o21 : s_op t21 = s_op t17) => ?_)
          obtain ⟨a21, p21, h21, g21, w21, -⟩ := id i_t21
          have k21 : K (s_at t21) = K (s_at t17) := congrArg K e21
          exact Ok.ret ⟨i_t21, show s_at s ≤ s_at t21 from by omega, show s_op t21 = s_op s from by omega, show 3 < 20000 from by omega⟩
  · refine Ok.ife (show x1 < 2147483648 from by omega) (by decide) (fun q22 => ?_) (fun q22 => ?_)
    · refine Ok.ife (show x2 < 2147483648 from by omega) (by decide) (fun q23 => ?_) (fun q23 => ?_)
      · refine Ok.rc (R 29 (by decide) _ _ _ i_t1 (pkf pk_29) (by decide) (by decide) (rkl rk_29 (show 4 + 16 * (30 - (s_op t1)) < n from by omega))) bd_29 (fun v24 t24 i_t24 (e24 : s_at t1 ≤ s_at t24) (o24 : s_op t24 = s_op t1) b24 => ?_)
        obtain ⟨a24, p24, h24, g24, w24, -⟩ := id i_t24
        refine Ok.ife (show s_gw t24 < 2147483648 from by omega) (by decide) (fun q25 => ?_) (fun q25 => ?_)
        · refine Ok.rc (R 56 (by decide) _ _ _ i_t24 (pkf pk_56) (show x1 < 20000 from by omega) (show s_at t1 < 20000 from by omega) (rkl rk_56 (show 5 + 16 * (30 - (s_op t24)) < n from by omega))) bd_56 (fun v26 t26 i_t26 (e26 : s_at t24 ≤ s_at t26) (o26 : s_op t26 = s_op t24) b26 => ?_)
          obtain ⟨a26, p26, h26, g26, w26, -⟩ := id i_t26
          refine Ok.put G i_t26 (by decide) (fun t27 i_t27 (e27 : s_at t27 = s_at t26) (o27 : s_op t27 = s_op t26) => ?_)
          obtain ⟨a27, p27, h27, g27, w27, -⟩ := id i_t27
          have k27 : K (s_at t27) = K (s_at t26) := congrArg K e27
          exact Ok.ret ⟨i_t27, show s_at s ≤ s_at t27 from by omega, show s_op t27 = s_op s from by omega, show 1 < 20000 from by omega⟩
        · refine Ok.putGuard G i_t24 (show s_gw t24 ≠ 0 from by omega) (by decide) (fun t28 i_t28 (e28 : s_at t28 = s_at t24) (o28 : s_op t28 = s_op t24) => ?_)
          obtain ⟨a28, p28, h28, g28, w28, -⟩ := id i_t28
          have k28 : K (s_at t28) = K (s_at t24) := congrArg K e28
          exact Ok.ret ⟨i_t28, show s_at s ≤ s_at t28 from by omega, show s_op t28 = s_op s from by omega, show 3 < 20000 from by omega⟩
      · refine Ok.rc (R 29 (by decide) _ _ _ i_t1 (pkf pk_29) (by decide) (by decide) (rkl rk_29 (show 4 + 16 * (30 - (s_op t1)) < n from by omega))) bd_29 (fun v29 t29 i_t29 (e29 : s_at t1 ≤ s_at t29) (o29 : s_op t29 = s_op t1) b29 => ?_)
        obtain ⟨a29, p29, h29, g29, w29, -⟩ := id i_t29
        refine Ok.ife (show s_gw t29 < 2147483648 from by omega) (by decide) (fun q30 => ?_) (fun q30 => ?_)
        · refine Ok.rc (R 56 (by decide) _ _ _ i_t29 (pkf pk_56) (show x1 < 20000 from by omega) (show s_at t1 < 20000 from by omega) (rkl rk_56 (show 5 + 16 * (30 - (s_op t29)) < n from by omega))) bd_56 (fun v31 t31 i_t31 (e31 : s_at t29 ≤ s_at t31) (o31 : s_op t31 = s_op t29) b31 => ?_)
          obtain ⟨a31, p31, h31, g31, w31, -⟩ := id i_t31
          refine Ok.put G i_t31 (by decide) (fun t32 i_t32 (e32 : s_at t32 = s_at t31) (o32 : s_op t32 = s_op t31) => ?_)
          obtain ⟨a32, p32, h32, g32, w32, -⟩ := id i_t32
          have k32 : K (s_at t32) = K (s_at t31) := congrArg K e32
          exact Ok.ret ⟨i_t32, show s_at s ≤ s_at t32 from by omega, show s_op t32 = s_op s from by omega, show 1 < 20000 from by omega⟩
        · refine Ok.putGuard G i_t29 (show s_gw t29 ≠ 0 from by omega) (by decide) (fun t33 i_t33 (e33 : s_at t33 = s_at t29) (o33 : s_op t33 = s_op t29) => ?_)
          obtain ⟨a33, p33, h33, g33, w33, -⟩ := id i_t33
          have k33 : K (s_at t33) = K (s_at t29) := congrArg K e33
          exact Ok.ret ⟨i_t33, show s_at s ≤ s_at t33 from by omega, show s_op t33 = s_op s from by omega, show 3 < 20000 from by omega⟩
    · refine Ok.rc (R 29 (by decide) _ _ _ i_t1 (pkf pk_29) (by decide) (by decide) (rkl rk_29 (show 4 + 16 * (30 - (s_op t1)) < n from by omega))) bd_29 (fun v34 t34 i_t34 (e34 : s_at t1 ≤ s_at t34) (o34 : s_op t34 = s_op t1) b34 => ?_)
      obtain ⟨a34, p34, h34, g34, w34, -⟩ := id i_t34
      refine Ok.ife (show s_gw t34 < 2147483648 from by omega) (by decide) (fun q35 => ?_) (fun q35 => ?_)
      · refine Ok.rc (R 56 (by decide) _ _ _ i_t34 (pkf pk_56) (show x1 < 20000 from by omega) (show s_at t1 < 20000 from by omega) (rkl rk_56 (show 5 + 16 * (30 - (s_op t34)) < n from by omega))) bd_56 (fun v36 t36 i_t36 (e36 : s_at t34 ≤ s_at t36) (o36 : s_op t36 = s_op t34) b36 => ?_)
        obtain ⟨a36, p36, h36, g36, w36, -⟩ := id i_t36
        refine Ok.put G i_t36 (by decide) (fun t37 i_t37 (e37 : s_at t37 = s_at t36) (o37 : s_op t37 = s_op t36) => ?_)
        obtain ⟨a37, p37, h37, g37, w37, -⟩ := id i_t37
        have k37 : K (s_at t37) = K (s_at t36) := congrArg K e37
        exact Ok.ret ⟨i_t37, show s_at s ≤ s_at t37 from by omega, show s_op t37 = s_op s from by omega, show 1 < 20000 from by omega⟩
      · refine Ok.putGuard G i_t34 (show s_gw t34 ≠ 0 from by omega) (by decide) (fun t38 i_t38 (e38 : s_at t38 = s_at t34) (o38 : s_op t38 = s_op t34) => ?_)
        obtain ⟨a38, p38, h38, g38, w38, -⟩ := id i_t38
        have k38 : K (s_at t38) = K (s_at t34) := congrArg K e38
        exact Ok.ret ⟨i_t38, show s_at s ≤ s_at t38 from by omega, show s_op t38 = s_op s from by omega, show 3 < 20000 from by omega⟩
