/-! The methods of the parser, one by one. -/
theorem T_lp_X1_simple_43 {cnt N : Nat} {K : Nat → Nat} (G : Kg cnt N K) {n : Nat} {rc : Nat → Nat → Nat → Ss → Rs Ss} (R : Sp cnt N K n rc) : ∀ (f y1 y2 y3 y4 : Nat) (s : Ss), Iv cnt N s → 16387 ≤ f + y4 → y4 ≤ 16386 → y1 < 16387 → y2 < 16387 → y3 < 16387 → y4 < 16387 → 6 + 16 * (30 - s_op s) < n → Ok (Po cnt N K s (s_op s) 16387 true) (Iv cnt N) (lp_X1_simple_43 K N rc f y1 y2 y3 y4 s) := by
  obtain ⟨hc, hN, hk, hz9⟩ := id G
  intro f
  induction f with
  | zero => intro y1 y2 y3 y4 s i_s c1 c2 hy1 hy2 hy3 hy4 hm; omega
  | succ f ih =>
    intro y1 y2 y3 y4 s i_s c1 c2 hy1 hy2 hy3 hy4 hm
    obtain ⟨a0, p0, h0, g0, w0, -⟩ := id i_s
    rw [lp_X1_simple_43]
    refine Ok_ifl (show y4 < 2147483648 from by omega) (by decide) (fun q1 => ?_) (fun q1 => ?_)
    · refine Ok_accept G i_s (by decide) (by decide) (fun t2 i_t2 (e2 : s_at t2 = s_at s + 1) (o2 : s_op t2 = s_op s) => ?_) (fun (q3 : K (s_at s) ≠ 84) => ?_)
      · obtain ⟨a2, p2, h2, g2, w2, -⟩ := id i_t2
        refine Ok_ifz1 ?_
        refine Ok_rc (R 29 (by decide) _ _ _ i_t2 (pkf pk_29) (pnf (by decide)) (by decide) (by decide) (rkl rk_29 (show 4 + 16 * (30 - (s_op t2)) < n from by omega))) bd_29 (fun v4 t4 i_t4 (e4 : s_at t2 ≤ s_at t4) (o4 : s_op t4 = s_op t2) b4 => ?_)
        obtain ⟨a4, p4, h4, g4, w4, -⟩ := id i_t4
        refine Ok_ifz (show y3 < 2147483648 from by omega) (fun q5 => ?_) (fun q5 => ?_)
        · refine Ok_imp (ih y1 y2 0 (y4 + 1) _ i_t4 (show 16387 ≤ f + (y4 + 1) from by omega) (show y4 + 1 ≤ 16386 from by omega) (show y1 < 16387 from by omega) (show y2 < 16387 from by omega) (by decide) (show y4 + 1 < 16387 from by omega) (show 6 + 16 * (30 - (s_op t4)) < n from by omega)) (fun v6 t6 z6 => ?_)
          obtain ⟨i_t6, e6, o6, b6, x6⟩ := z6
          have e6 : s_at t4 ≤ s_at t6 := e6
          have o6 : s_op t6 = (s_op t4) := o6
          exact ⟨i_t6, by omega, by omega, by omega, x6⟩
        · refine Ok_isName G i_t4 (show s_at t2 < 20000 from by omega) (fun v7 b7 => ?_)
          refine Ok_ifz (show v7 < 2147483648 from by omega) (fun q8 => ?_) (fun q8 => ?_)
          · refine Ok_imp (ih y1 y2 0 (y4 + 1) _ i_t4 (show 16387 ≤ f + (y4 + 1) from by omega) (show y4 + 1 ≤ 16386 from by omega) (show y1 < 16387 from by omega) (show y2 < 16387 from by omega) (by decide) (show y4 + 1 < 16387 from by omega) (show 6 + 16 * (30 - (s_op t4)) < n from by omega)) (fun v9 t9 z9 => ?_)
            obtain ⟨i_t9, e9, o9, b9, x9⟩ := z9
            have e9 : s_at t4 ≤ s_at t9 := e9
            have o9 : s_op t9 = (s_op t4) := o9
            exact ⟨i_t9, by omega, by omega, by omega, x9⟩
          · refine Ok_imp (ih y1 y2 1 (y4 + 1) _ i_t4 (show 16387 ≤ f + (y4 + 1) from by omega) (show y4 + 1 ≤ 16386 from by omega) (show y1 < 16387 from by omega) (show y2 < 16387 from by omega) (by decide) (show y4 + 1 < 16387 from by omega) (show 6 + 16 * (30 - (s_op t4)) < n from by omega)) (fun v10 t10 z10 => ?_)
            obtain ⟨i_t10, e10, o10, b10, x10⟩ := z10
            have e10 : s_at t4 ≤ s_at t10 := e10
            have o10 : s_op t10 = (s_op t4) := o10
            exact ⟨i_t10, by omega, by omega, by omega, x10⟩
      · refine Ok_ifz0 ?_
        refine Ok_sees G (by decide) (fun (q11 : K (s_at s) = 70) => ?_) (fun (q11 : K (s_at s) ≠ 70) => ?_)
        · refine Ok_ifz1 ?_
          refine Ok_put G i_s (show y4 < 20000 from by omega) (fun t12 i_t12 (e12 : s_at t12 = s_at s) (o12 : s_op t12 = s_op s) => ?_)
          obtain ⟨a12, p12, h12, g12, w12, -⟩ := id i_t12
          have k12 : K (s_at t12) = K (s_at s) := congrArg K e12
          refine Ok_rcF (R 65 (by decide) _ _ _ i_t12 (pkt (show K (s_at t12) ≠ 0 from by omega)) (pnf (by decide)) (show y1 < 16387 from by omega) (by decide) (rkl rk_65 (show 6 + 16 * (30 - (s_op t12)) < n from by omega))) bd_65 br_65 (fun v13 t13 i_t13 (e13 : s_at t12 ≤ s_at t13) (o13 : s_op t13 = s_op t12) b13 x13 => ?_)
          obtain ⟨a13, p13, h13, g13, w13, -⟩ := id i_t13
          exact Ok_ret ⟨i_t13, show s_at s ≤ s_at t13 from by omega, show s_op t13 = s_op s from by omega, show v13 < 16387 from by omega, (fun _ => show v13 ≠ 2 ∨ K (s_at t13) ≠ 0 from by omega)⟩
        · refine Ok_ifz0 ?_
          refine Ok_sees G (by decide) (fun (q14 : K (s_at s) = 76) => ?_) (fun (q14 : K (s_at s) ≠ 76) => ?_)
          · refine Ok_ifz1 ?_
            refine Ok_ifz (show y3 < 2147483648 from by omega) (fun q15 => ?_) (fun q15 => ?_)
            · refine Ok_ifl (by decide) (show y4 < 2147483648 from by omega) (fun q16 => ?_) (fun q16 => ?_)
              · exact Ok_er i_s
              · refine Ok_rcF (R 67 (by decide) _ _ _ i_s (pkf pk_67) (pnf (by decide)) (show y1 < 16387 from by omega) (by decide) (rkl rk_67 (show 5 + 16 * (30 - (s_op s)) < n from by omega))) bd_67 br_67 (fun v17 t17 i_t17 (e17 : s_at s ≤ s_at t17) (o17 : s_op t17 = s_op s) b17 x17 => ?_)
                obtain ⟨a17, p17, h17, g17, w17, -⟩ := id i_t17
                exact Ok_ret ⟨i_t17, show s_at s ≤ s_at t17 from by omega, show s_op t17 = s_op s from by omega, show v17 < 16387 from by omega, (fun _ => show v17 ≠ 2 ∨ K (s_at t17) ≠ 0 from by omega)⟩
            · refine Ok_ife (show y1 < 2147483648 from by omega) (by decide) (fun q18 => ?_) (fun q18 => ?_)
              · refine Ok_ifl (by decide) (show y4 < 2147483648 from by omega) (fun q19 => ?_) (fun q19 => ?_)
                · exact Ok_er i_s
                · refine Ok_rcF (R 67 (by decide) _ _ _ i_s (pkf pk_67) (pnf (by decide)) (show y1 < 16387 from by omega) (by decide) (rkl rk_67 (show 5 + 16 * (30 - (s_op s)) < n from by omega))) bd_67 br_67 (fun v20 t20 i_t20 (e20 : s_at s ≤ s_at t20) (o20 : s_op t20 = s_op s) b20 x20 => ?_)
                  obtain ⟨a20, p20, h20, g20, w20, -⟩ := id i_t20
                  exact Ok_ret ⟨i_t20, show s_at s ≤ s_at t20 from by omega, show s_op t20 = s_op s from by omega, show v20 < 16387 from by omega, (fun _ => show v20 ≠ 2 ∨ K (s_at t20) ≠ 0 from by omega)⟩
              · refine Ok_put G i_s (show y4 < 20000 from by omega) (fun t21 i_t21 (e21 : s_at t21 = s_at s) (o21 : s_op t21 = s_op s) => ?_)
                obtain ⟨a21, p21, h21, g21, w21, -⟩ := id i_t21
                have k21 : K (s_at t21) = K (s_at s) := congrArg K e21
                refine Ok_rcF (R 66 (by decide) _ _ _ i_t21 (pkt (show K (s_at t21) ≠ 0 from by omega)) (pnf (by decide)) (show y1 < 16387 from by omega) (show y4 < 16387 from by omega) (rkl rk_66 (show 6 + 16 * (30 - (s_op t21)) < n from by omega))) bd_66 br_66 (fun v22 t22 i_t22 (e22 : s_at t21 ≤ s_at t22) (o22 : s_op t22 = s_op t21) b22 x22 => ?_)
                obtain ⟨a22, p22, h22, g22, w22, -⟩ := id i_t22
                exact Ok_ret ⟨i_t22, show s_at s ≤ s_at t22 from by omega, show s_op t22 = s_op s from by omega, show v22 < 16387 from by omega, (fun _ => show v22 ≠ 2 ∨ K (s_at t22) ≠ 0 from by omega)⟩
          · refine Ok_ifz0 ?_
            refine Ok_ifl (by decide) (show y4 < 2147483648 from by omega) (fun q23 => ?_) (fun q23 => ?_)
            · exact Ok_er i_s
            · refine Ok_rcF (R 67 (by decide) _ _ _ i_s (pkf pk_67) (pnf (by decide)) (show y1 < 16387 from by omega) (by decide) (rkl rk_67 (show 5 + 16 * (30 - (s_op s)) < n from by omega))) bd_67 br_67 (fun v24 t24 i_t24 (e24 : s_at s ≤ s_at t24) (o24 : s_op t24 = s_op s) b24 x24 => ?_)
              obtain ⟨a24, p24, h24, g24, w24, -⟩ := id i_t24
              exact Ok_ret ⟨i_t24, show s_at s ≤ s_at t24 from by omega, show s_op t24 = s_op s from by omega, show v24 < 16387 from by omega, (fun _ => show v24 ≠ 2 ∨ K (s_at t24) ≠ 0 from by omega)⟩
    · refine Ok_sees G (by decide) (fun (q25 : K (s_at s) = 70) => ?_) (fun (q25 : K (s_at s) ≠ 70) => ?_)
      · refine Ok_ifz1 ?_
        refine Ok_put G i_s (show y4 < 20000 from by omega) (fun t26 i_t26 (e26 : s_at t26 = s_at s) (o26 : s_op t26 = s_op s) => ?_)
        obtain ⟨a26, p26, h26, g26, w26, -⟩ := id i_t26
        have k26 : K (s_at t26) = K (s_at s) := congrArg K e26
        refine Ok_rcF (R 65 (by decide) _ _ _ i_t26 (pkt (show K (s_at t26) ≠ 0 from by omega)) (pnf (by decide)) (show y1 < 16387 from by omega) (by decide) (rkl rk_65 (show 6 + 16 * (30 - (s_op t26)) < n from by omega))) bd_65 br_65 (fun v27 t27 i_t27 (e27 : s_at t26 ≤ s_at t27) (o27 : s_op t27 = s_op t26) b27 x27 => ?_)
        obtain ⟨a27, p27, h27, g27, w27, -⟩ := id i_t27
        exact Ok_ret ⟨i_t27, show s_at s ≤ s_at t27 from by omega, show s_op t27 = s_op s from by omega, show v27 < 16387 from by omega, (fun _ => show v27 ≠ 2 ∨ K (s_at t27) ≠ 0 from by omega)⟩
      · refine Ok_ifz0 ?_
        refine Ok_sees G (by decide) (fun (q28 : K (s_at s) = 76) => ?_) (fun (q28 : K (s_at s) ≠ 76) => ?_)
        · refine Ok_ifz1 ?_
          refine Ok_ifz (show y3 < 2147483648 from by omega) (fun q29 => ?_) (fun q29 => ?_)
          · refine Ok_ifl (by decide) (show y4 < 2147483648 from by omega) (fun q30 => ?_) (fun q30 => ?_)
            · exact Ok_er i_s
            · refine Ok_rcF (R 67 (by decide) _ _ _ i_s (pkf pk_67) (pnf (by decide)) (show y1 < 16387 from by omega) (by decide) (rkl rk_67 (show 5 + 16 * (30 - (s_op s)) < n from by omega))) bd_67 br_67 (fun v31 t31 i_t31 (e31 : s_at s ≤ s_at t31) (o31 : s_op t31 = s_op s) b31 x31 => ?_)
              obtain ⟨a31, p31, h31, g31, w31, -⟩ := id i_t31
              exact Ok_ret ⟨i_t31, show s_at s ≤ s_at t31 from by omega, show s_op t31 = s_op s from by omega, show v31 < 16387 from by omega, (fun _ => show v31 ≠ 2 ∨ K (s_at t31) ≠ 0 from by omega)⟩
          · refine Ok_ife (show y1 < 2147483648 from by omega) (by decide) (fun q32 => ?_) (fun q32 => ?_)
            · refine Ok_ifl (by decide) (show y4 < 2147483648 from by omega) (fun q33 => ?_) (fun q33 => ?_)
              · exact Ok_er i_s
              · refine Ok_rcF (R 67 (by decide) _ _ _ i_s (pkf pk_67) (pnf (by decide)) (show y1 < 16387 from by omega) (by decide) (rkl rk_67 (show 5 + 16 * (30 - (s_op s)) < n from by omega))) bd_67 br_67 (fun v34 t34 i_t34 (e34 : s_at s ≤ s_at t34) (o34 : s_op t34 = s_op s) b34 x34 => ?_)
                obtain ⟨a34, p34, h34, g34, w34, -⟩ := id i_t34
                exact Ok_ret ⟨i_t34, show s_at s ≤ s_at t34 from by omega, show s_op t34 = s_op s from by omega, show v34 < 16387 from by omega, (fun _ => show v34 ≠ 2 ∨ K (s_at t34) ≠ 0 from by omega)⟩
            · refine Ok_put G i_s (show y4 < 20000 from by omega) (fun t35 i_t35 (e35 : s_at t35 = s_at s) (o35 : s_op t35 = s_op s) => ?_)
              obtain ⟨a35, p35, h35, g35, w35, -⟩ := id i_t35
              have k35 : K (s_at t35) = K (s_at s) := congrArg K e35
              refine Ok_rcF (R 66 (by decide) _ _ _ i_t35 (pkt (show K (s_at t35) ≠ 0 from by omega)) (pnf (by decide)) (show y1 < 16387 from by omega) (show y4 < 16387 from by omega) (rkl rk_66 (show 6 + 16 * (30 - (s_op t35)) < n from by omega))) bd_66 br_66 (fun v36 t36 i_t36 (e36 : s_at t35 ≤ s_at t36) (o36 : s_op t36 = s_op t35) b36 x36 => ?_)
              obtain ⟨a36, p36, h36, g36, w36, -⟩ := id i_t36
              exact Ok_ret ⟨i_t36, show s_at s ≤ s_at t36 from by omega, show s_op t36 = s_op s from by omega, show v36 < 16387 from by omega, (fun _ => show v36 ≠ 2 ∨ K (s_at t36) ≠ 0 from by omega)⟩
        · refine Ok_ifz0 ?_
          refine Ok_ifl (by decide) (show y4 < 2147483648 from by omega) (fun q37 => ?_) (fun q37 => ?_)
          · exact Ok_er i_s
          · refine Ok_rcF (R 67 (by decide) _ _ _ i_s (pkf pk_67) (pnf (by decide)) (show y1 < 16387 from by omega) (by decide) (rkl rk_67 (show 5 + 16 * (30 - (s_op s)) < n from by omega))) bd_67 br_67 (fun v38 t38 i_t38 (e38 : s_at s ≤ s_at t38) (o38 : s_op t38 = s_op s) b38 x38 => ?_)
            obtain ⟨a38, p38, h38, g38, w38, -⟩ := id i_t38
            exact Ok_ret ⟨i_t38, show s_at s ≤ s_at t38 from by omega, show s_op t38 = s_op s from by omega, show v38 < 16387 from by omega, (fun _ => show v38 ≠ 2 ∨ K (s_at t38) ≠ 0 from by omega)⟩
theorem T_X1_simple {cnt N : Nat} {K : Nat → Nat} (G : Kg cnt N K) {n : Nat} {rc : Nat → Nat → Nat → Ss → Rs Ss} (R : Sp cnt N K n rc) {x1 : Nat} {s : Ss} (i_s : Iv cnt N s) (hx1 : x1 < 16387) (hm : 7 + 16 * (30 - s_op s) < n + 1) : Ok (Po cnt N K s (s_op s) 16387 true) (Iv cnt N) (b_X1_simple K N rc x1 s) := by
  obtain ⟨hc, hN, hk, hz9⟩ := id G
  obtain ⟨a0, p0, h0, g0, w0, -⟩ := id i_s
  unfold b_X1_simple
  refine Ok_ife (show x1 < 2147483648 from by omega) (by decide) (fun q1 => ?_) (fun q1 => ?_)
  · refine Ok_rc (R 29 (by decide) _ _ _ i_s (pkf pk_29) (pnf (by decide)) (by decide) (by decide) (rkl rk_29 (show 4 + 16 * (30 - (s_op s)) < n from by omega))) bd_29 (fun v2 t2 i_t2 (e2 : s_at s ≤ s_at t2) (o2 : s_op t2 = s_op s) b2 => ?_)
    obtain ⟨a2, p2, h2, g2, w2, -⟩ := id i_t2
    refine Ok_ife (show s_gw t2 < 2147483648 from by omega) (by decide) (fun q3 => ?_) (fun q3 => ?_)
    · refine Ok_isName G i_t2 (show s_at s < 20000 from by omega) (fun v4 b4 => ?_)
      refine Ok_imp (T_lp_X1_simple_43 G R LF x1 (s_at s) v4 1 _ i_t2 (show 16387 ≤ LF + 1 from by unfold LF; omega) (show 1 ≤ 16386 from by omega) (show x1 < 16387 from by omega) (show s_at s < 16387 from by omega) (show v4 < 16387 from by omega) (by decide) (show 6 + 16 * (30 - (s_op t2)) < n from by omega)) (fun v5 t5 z5 => ?_)
      obtain ⟨i_t5, e5, o5, b5, x5⟩ := z5
      have e5 : s_at t2 ≤ s_at t5 := e5
      have o5 : s_op t5 = (s_op t2) := o5
      exact ⟨i_t5, by omega, by omega, by omega, x5⟩
    · refine Ok_putGuard G i_t2 (show s_gw t2 ≠ 0 from by omega) (by decide) (fun t6 i_t6 (e6 : s_at t6 = s_at t2) (o6 : s_op t6 = s_op t2) => ?_)
      obtain ⟨a6, p6, h6, g6, w6, -⟩ := id i_t6
      have k6 : K (s_at t6) = K (s_at t2) := congrArg K e6
      exact Ok_ret ⟨i_t6, show s_at s ≤ s_at t6 from by omega, show s_op t6 = s_op s from by omega, show 3 < 16387 from by omega, (fun _ => show 3 ≠ 2 ∨ K (s_at t6) ≠ 0 from by omega)⟩
  · refine Ok_rc (R 29 (by decide) _ _ _ i_s (pkf pk_29) (pnf (by decide)) (by decide) (by decide) (rkl rk_29 (show 4 + 16 * (30 - (s_op s)) < n from by omega))) bd_29 (fun v7 t7 i_t7 (e7 : s_at s ≤ s_at t7) (o7 : s_op t7 = s_op s) b7 => ?_)
    obtain ⟨a7, p7, h7, g7, w7, -⟩ := id i_t7
    refine Ok_ife (show s_gw t7 < 2147483648 from by omega) (by decide) (fun q8 => ?_) (fun q8 => ?_)
    · refine Ok_isName G i_t7 (show s_at s < 20000 from by omega) (fun v9 b9 => ?_)
      refine Ok_imp (T_lp_X1_simple_43 G R LF x1 (s_at s) v9 1 _ i_t7 (show 16387 ≤ LF + 1 from by unfold LF; omega) (show 1 ≤ 16386 from by omega) (show x1 < 16387 from by omega) (show s_at s < 16387 from by omega) (show v9 < 16387 from by omega) (by decide) (show 6 + 16 * (30 - (s_op t7)) < n from by omega)) (fun v10 t10 z10 => ?_)
      obtain ⟨i_t10, e10, o10, b10, x10⟩ := z10
      have e10 : s_at t7 ≤ s_at t10 := e10
      have o10 : s_op t10 = (s_op t7) := o10
      exact ⟨i_t10, by omega, by omega, by omega, x10⟩
    · refine Ok_putGuard G i_t7 (show s_gw t7 ≠ 0 from by omega) (by decide) (fun t11 i_t11 (e11 : s_at t11 = s_at t7) (o11 : s_op t11 = s_op t7) => ?_)
      obtain ⟨a11, p11, h11, g11, w11, -⟩ := id i_t11
      have k11 : K (s_at t11) = K (s_at t7) := congrArg K e11
      exact Ok_ret ⟨i_t11, show s_at s ≤ s_at t11 from by omega, show s_op t11 = s_op s from by omega, show 3 < 16387 from by omega, (fun _ => show 3 ≠ 2 ∨ K (s_at t11) ≠ 0 from by omega)⟩
theorem T_X1_assign {cnt N : Nat} {K : Nat → Nat} (G : Kg cnt N K) {n : Nat} {rc : Nat → Nat → Nat → Ss → Rs Ss} (R : Sp cnt N K n rc) {x1 : Nat} {s : Ss} (i_s : Iv cnt N s) (hz : K (s_at s) ≠ 0) (hx1 : x1 < 16387) (hm : 6 + 16 * (30 - s_op s) < n + 1) : Ok (Po cnt N K s (s_op s) 16387 true) (Iv cnt N) (b_X1_assign K N rc x1 s) := by
  obtain ⟨hc, hN, hk, hz9⟩ := id G
  obtain ⟨a0, p0, h0, g0, w0, -⟩ := id i_s
  unfold b_X1_assign
  refine Ok_take G i_s (show K (s_at s) ≠ 0 from by omega) (fun t1 i_t1 (e1 : s_at t1 = s_at s + 1) (o1 : s_op t1 = s_op s) => ?_)
  obtain ⟨a1, p1, h1, g1, w1, -⟩ := id i_t1
  refine Ok_ife (show x1 < 2147483648 from by omega) (by decide) (fun q2 => ?_) (fun q2 => ?_)
  · refine Ok_sees G (by decide) (fun (q3 : K (s_at t1) = 28) => ?_) (fun (q3 : K (s_at t1) ≠ 28) => ?_)
    · refine Ok_ifz1 ?_
      exact Ok_ret ⟨i_t1, show s_at s ≤ s_at t1 from by omega, show s_op t1 = s_op s from by omega, show 2 < 16387 from by omega, (fun _ => show 2 ≠ 2 ∨ K (s_at t1) ≠ 0 from by omega)⟩
    · refine Ok_ifz0 ?_
      refine Ok_rc (R 29 (by decide) _ _ _ i_t1 (pkf pk_29) (pnf (by decide)) (by decide) (by decide) (rkl rk_29 (show 4 + 16 * (30 - (s_op t1)) < n from by omega))) bd_29 (fun v4 t4 i_t4 (e4 : s_at t1 ≤ s_at t4) (o4 : s_op t4 = s_op t1) b4 => ?_)
      obtain ⟨a4, p4, h4, g4, w4, -⟩ := id i_t4
      refine Ok_rc (R 56 (by decide) _ _ _ i_t4 (pkf pk_56) (pnf (by decide)) (show x1 < 16387 from by omega) (show s_at t1 < 16387 from by omega) (rkl rk_56 (show 5 + 16 * (30 - (s_op t4)) < n from by omega))) bd_56 (fun v5 t5 i_t5 (e5 : s_at t4 ≤ s_at t5) (o5 : s_op t5 = s_op t4) b5 => ?_)
      obtain ⟨a5, p5, h5, g5, w5, -⟩ := id i_t5
      refine Ok_put G i_t5 (by decide) (fun t6 i_t6 (e6 : s_at t6 = s_at t5) (o6 : s_op t6 = s_op t5) => ?_)
      obtain ⟨a6, p6, h6, g6, w6, -⟩ := id i_t6
      have k6 : K (s_at t6) = K (s_at t5) := congrArg K e6
      exact Ok_ret ⟨i_t6, show s_at s ≤ s_at t6 from by omega, show s_op t6 = s_op s from by omega, show 1 < 16387 from by omega, (fun _ => show 1 ≠ 2 ∨ K (s_at t6) ≠ 0 from by omega)⟩
  · refine Ok_rc (R 29 (by decide) _ _ _ i_t1 (pkf pk_29) (pnf (by decide)) (by decide) (by decide) (rkl rk_29 (show 4 + 16 * (30 - (s_op t1)) < n from by omega))) bd_29 (fun v7 t7 i_t7 (e7 : s_at t1 ≤ s_at t7) (o7 : s_op t7 = s_op t1) b7 => ?_)
    obtain ⟨a7, p7, h7, g7, w7, -⟩ := id i_t7
    refine Ok_rc (R 56 (by decide) _ _ _ i_t7 (pkf pk_56) (pnf (by decide)) (show x1 < 16387 from by omega) (show s_at t1 < 16387 from by omega) (rkl rk_56 (show 5 + 16 * (30 - (s_op t7)) < n from by omega))) bd_56 (fun v8 t8 i_t8 (e8 : s_at t7 ≤ s_at t8) (o8 : s_op t8 = s_op t7) b8 => ?_)
    obtain ⟨a8, p8, h8, g8, w8, -⟩ := id i_t8
    refine Ok_put G i_t8 (by decide) (fun t9 i_t9 (e9 : s_at t9 = s_at t8) (o9 : s_op t9 = s_op t8) => ?_)
    obtain ⟨a9, p9, h9, g9, w9, -⟩ := id i_t9
    have k9 : K (s_at t9) = K (s_at t8) := congrArg K e9
    exact Ok_ret ⟨i_t9, show s_at s ≤ s_at t9 from by omega, show s_op t9 = s_op s from by omega, show 1 < 16387 from by omega, (fun _ => show 1 ≠ 2 ∨ K (s_at t9) ≠ 0 from by omega)⟩
theorem T_X1_define {cnt N : Nat} {K : Nat → Nat} (G : Kg cnt N K) {n : Nat} {rc : Nat → Nat → Nat → Ss → Rs Ss} (R : Sp cnt N K n rc) {x1 : Nat} {x2 : Nat} {s : Ss} (i_s : Iv cnt N s) (hz : K (s_at s) ≠ 0) (hx1 : x1 < 16387) (hx2 : x2 < 16387) (hm : 6 + 16 * (30 - s_op s) < n + 1) : Ok (Po cnt N K s (s_op s) 16387 true) (Iv cnt N) (b_X1_define K N rc x1 x2 s) := by
  obtain ⟨hc, hN, hk, hz9⟩ := id G
  obtain ⟨a0, p0, h0, g0, w0, -⟩ := id i_s
  unfold b_X1_define
  refine Ok_take G i_s (show K (s_at s) ≠ 0 from by omega) (fun t1 i_t1 (e1 : s_at t1 = s_at s + 1) (o1 : s_op t1 = s_op s) => ?_)
  obtain ⟨a1, p1, h1, g1, w1, -⟩ := id i_t1
  refine Ok_ife (show x1 < 2147483648 from by omega) (by decide) (fun q2 => ?_) (fun q2 => ?_)
  · refine Ok_sees G (by decide) (fun (q3 : K (s_at t1) = 28) => ?_) (fun (q3 : K (s_at t1) ≠ 28) => ?_)
    · refine Ok_ifz1 ?_
      refine Ok_put G i_t1 (by decide) (fun t4 i_t4 (e4 : s_at t4 = s_at t1) (o4 : s_op t4 = s_op t1) => ?_)
      obtain ⟨a4, p4, h4, g4, w4, -⟩ := id i_t4
      have k4 : K (s_at t4) = K (s_at t1) := congrArg K e4
      exact Ok_ret ⟨i_t4, show s_at s ≤ s_at t4 from by omega, show s_op t4 = s_op s from by omega, show 2 < 16387 from by omega, (fun _ => show 2 ≠ 2 ∨ K (s_at t4) ≠ 0 from by omega)⟩
    · refine Ok_ifz0 ?_
      refine Ok_ife (show x1 < 2147483648 from by omega) (by decide) (fun q5 => ?_) (fun q5 => ?_)
      · refine Ok_ife (show x2 < 2147483648 from by omega) (by decide) (fun q6 => ?_) (fun q6 => ?_)
        · refine Ok_rc (R 29 (by decide) _ _ _ i_t1 (pkf pk_29) (pnf (by decide)) (by decide) (by decide) (rkl rk_29 (show 4 + 16 * (30 - (s_op t1)) < n from by omega))) bd_29 (fun v7 t7 i_t7 (e7 : s_at t1 ≤ s_at t7) (o7 : s_op t7 = s_op t1) b7 => ?_)
          obtain ⟨a7, p7, h7, g7, w7, -⟩ := id i_t7
          refine Ok_ife (show s_gw t7 < 2147483648 from by omega) (by decide) (fun q8 => ?_) (fun q8 => ?_)
          · refine Ok_rc (R 56 (by decide) _ _ _ i_t7 (pkf pk_56) (pnf (by decide)) (show x1 < 16387 from by omega) (show s_at t1 < 16387 from by omega) (rkl rk_56 (show 5 + 16 * (30 - (s_op t7)) < n from by omega))) bd_56 (fun v9 t9 i_t9 (e9 : s_at t7 ≤ s_at t9) (o9 : s_op t9 = s_op t7) b9 => ?_)
            obtain ⟨a9, p9, h9, g9, w9, -⟩ := id i_t9
            refine Ok_put G i_t9 (by decide) (fun t10 i_t10 (e10 : s_at t10 = s_at t9) (o10 : s_op t10 = s_op t9) => ?_)
            obtain ⟨a10, p10, h10, g10, w10, -⟩ := id i_t10
            have k10 : K (s_at t10) = K (s_at t9) := congrArg K e10
            exact Ok_ret ⟨i_t10, show s_at s ≤ s_at t10 from by omega, show s_op t10 = s_op s from by omega, show 1 < 16387 from by omega, (fun _ => show 1 ≠ 2 ∨ K (s_at t10) ≠ 0 from by omega)⟩
          · refine Ok_putGuard G i_t7 (show s_gw t7 ≠ 0 from by omega) (by decide) (fun t11 i_t11 (e11 : s_at t11 = s_at t7) (o11 : s_op t11 = s_op t7) => ?_)
            obtain ⟨a11, p11, h11, g11, w11, -⟩ := id i_t11
            have k11 : K (s_at t11) = K (s_at t7) := congrArg K e11
            exact Ok_ret ⟨i_t11, show s_at s ≤ s_at t11 from by omega, show s_op t11 = s_op s from by omega, show 3 < 16387 from by omega, (fun _ => show 3 ≠ 2 ∨ K (s_at t11) ≠ 0 from by omega)⟩
        · refine Ok_rc (R 29 (by decide) _ _ _ i_t1 (pkf pk_29) (pnf (by decide)) (by decide) (by decide) (rkl rk_29 (show 4 + 16 * (30 - (s_op t1)) < n from by omega))) bd_29 (fun v12 t12 i_t12 (e12 : s_at t1 ≤ s_at t12) (o12 : s_op t12 = s_op t1) b12 => ?_)
          obtain ⟨a12, p12, h12, g12, w12, -⟩ := id i_t12
          refine Ok_ife (show s_gw t12 < 2147483648 from by omega) (by decide) (fun q13 => ?_) (fun q13 => ?_)
          · refine Ok_rc (R 56 (by decide) _ _ _ i_t12 (pkf pk_56) (pnf (by decide)) (show x1 < 16387 from by omega) (show s_at t1 < 16387 from by omega) (rkl rk_56 (show 5 + 16 * (30 - (s_op t12)) < n from by omega))) bd_56 (fun v14 t14 i_t14 (e14 : s_at t12 ≤ s_at t14) (o14 : s_op t14 = s_op t12) b14 => ?_)
            obtain ⟨a14, p14, h14, g14, w14, -⟩ := id i_t14
            refine Ok_put G i_t14 (by decide) (fun t15 i_t15 (e15 : s_at t15 = s_at t14) (o15 : s_op t15 = s_op t14) => ?_)
            obtain ⟨a15, p15, h15, g15, w15, -⟩ := id i_t15
            have k15 : K (s_at t15) = K (s_at t14) := congrArg K e15
            exact Ok_ret ⟨i_t15, show s_at s ≤ s_at t15 from by omega, show s_op t15 = s_op s from by omega, show 1 < 16387 from by omega, (fun _ => show 1 ≠ 2 ∨ K (s_at t15) ≠ 0 from by omega)⟩
          · refine Ok_putGuard G i_t12 (show s_gw t12 ≠ 0 from by omega) (by decide) (fun t16 i_t16 (e16 : s_at t16 = s_at t12) (o16 : s_op t16 = s_op t12) => ?_)
            obtain ⟨a16, p16, h16, g16, w16, -⟩ := id i_t16
            have k16 : K (s_at t16) = K (s_at t12) := congrArg K e16
            exact Ok_ret ⟨i_t16, show s_at s ≤ s_at t16 from by omega, show s_op t16 = s_op s from by omega, show 3 < 16387 from by omega, (fun _ => show 3 ≠ 2 ∨ K (s_at t16) ≠ 0 from by omega)⟩
      · refine Ok_rc (R 29 (by decide) _ _ _ i_t1 (pkf pk_29) (pnf (by decide)) (by decide) (by decide) (rkl rk_29 (show 4 + 16 * (30 - (s_op t1)) < n from by omega))) bd_29 (fun v17 t17 i_t17 (e17 : s_at t1 ≤ s_at t17) (o17 : s_op t17 = s_op t1) b17 => ?_)
        obtain ⟨a17, p17, h17, g17, w17, -⟩ := id i_t17
        refine Ok_ife (show s_gw t17 < 2147483648 from by omega) (by decide) (fun q18 => ?_) (fun q18 => ?_)
        · refine Ok_rc (R 56 (by decide) _ _ _ i_t17 (pkf pk_56) (pnf (by decide)) (show x1 < 16387 from by omega) (show s_at t1 < 16387 from by omega) (rkl rk_56 (show 5 + 16 * (30 - (s_op t17)) < n from by omega))) bd_56 (fun v19 t19 i_t19 (e19 : s_at t17 ≤ s_at t19) (o19 : s_op t19 = s_op t17) b19 => ?_)
          obtain ⟨a19, p19, h19, g19, w19, -⟩ := id i_t19
          refine Ok_put G i_t19 (by decide) (fun t20 i_t20 (e20 : s_at t20 = s_at t19) (o20 : s_op t20 = s_op t19) => ?_)
          obtain ⟨a20, p20, h20, g20, w20, -⟩ := id i_t20
          have k20 : K (s_at t20) = K (s_at t19) := congrArg K e20
          exact Ok_ret ⟨i_t20, show s_at s ≤ s_at t20 from by omega, show s_op t20 = s_op s from by omega, show 1 < 16387 from by omega, (fun _ => show 1 ≠ 2 ∨ K (s_at t20) ≠ 0 from by omega)⟩
        · refine Ok_putGuard G i_t17 (show s_gw t17 ≠ 0 from by omega) (by decide) (fun t21 i_t21 (e21 : s_at t21 = s_at t17) (o21 : s_op t21 = s_op t17) => ?_)
          obtain ⟨a21, p21, h21, g21, w21, -⟩ := id i_t21
          have k21 : K (s_at t21) = K (s_at t17) := congrArg K e21
          exact Ok_ret ⟨i_t21, show s_at s ≤ s_at t21 from by omega, show s_op t21 = s_op s from by omega, show 3 < 16387 from by omega, (fun _ => show 3 ≠ 2 ∨ K (s_at t21) ≠ 0 from by omega)⟩
  · refine Ok_ife (show x1 < 2147483648 from by omega) (by decide) (fun q22 => ?_) (fun q22 => ?_)
    · refine Ok_ife (show x2 < 2147483648 from by omega) (by decide) (fun q23 => ?_) (fun q23 => ?_)
      · refine Ok_rc (R 29 (by decide) _ _ _ i_t1 (pkf pk_29) (pnf (by decide)) (by decide) (by decide) (rkl rk_29 (show 4 + 16 * (30 - (s_op t1)) < n from by omega))) bd_29 (fun v24 t24 i_t24 (e24 : s_at t1 ≤ s_at t24) (o24 : s_op t24 = s_op t1) b24 => ?_)
        obtain ⟨a24, p24, h24, g24, w24, -⟩ := id i_t24
        refine Ok_ife (show s_gw t24 < 2147483648 from by omega) (by decide) (fun q25 => ?_) (fun q25 => ?_)
        · refine Ok_rc (R 56 (by decide) _ _ _ i_t24 (pkf pk_56) (pnf (by decide)) (show x1 < 16387 from by omega) (show s_at t1 < 16387 from by omega) (rkl rk_56 (show 5 + 16 * (30 - (s_op t24)) < n from by omega))) bd_56 (fun v26 t26 i_t26 (e26 : s_at t24 ≤ s_at t26) (o26 : s_op t26 = s_op t24) b26 => ?_)
          obtain ⟨a26, p26, h26, g26, w26, -⟩ := id i_t26
          refine Ok_put G i_t26 (by decide) (fun t27 i_t27 (e27 : s_at t27 = s_at t26) (o27 : s_op t27 = s_op t26) => ?_)
          obtain ⟨a27, p27, h27, g27, w27, -⟩ := id i_t27
          have k27 : K (s_at t27) = K (s_at t26) := congrArg K e27
          exact Ok_ret ⟨i_t27, show s_at s ≤ s_at t27 from by omega, show s_op t27 = s_op s from by omega, show 1 < 16387 from by omega, (fun _ => show 1 ≠ 2 ∨ K (s_at t27) ≠ 0 from by omega)⟩
        · refine Ok_putGuard G i_t24 (show s_gw t24 ≠ 0 from by omega) (by decide) (fun t28 i_t28 (e28 : s_at t28 = s_at t24) (o28 : s_op t28 = s_op t24) => ?_)
          obtain ⟨a28, p28, h28, g28, w28, -⟩ := id i_t28
          have k28 : K (s_at t28) = K (s_at t24) := congrArg K e28
          exact Ok_ret ⟨i_t28, show s_at s ≤ s_at t28 from by omega, show s_op t28 = s_op s from by omega, show 3 < 16387 from by omega, (fun _ => show 3 ≠ 2 ∨ K (s_at t28) ≠ 0 from by omega)⟩
      · refine Ok_rc (R 29 (by decide) _ _ _ i_t1 (pkf pk_29) (pnf (by decide)) (by decide) (by decide) (rkl rk_29 (show 4 + 16 * (30 - (s_op t1)) < n from by omega))) bd_29 (fun v29 t29 i_t29 (e29 : s_at t1 ≤ s_at t29) (o29 : s_op t29 = s_op t1) b29 => ?_)
        obtain ⟨a29, p29, h29, g29, w29, -⟩ := id i_t29
        refine Ok_ife (show s_gw t29 < 2147483648 from by omega) (by decide) (fun q30 => ?_) (fun q30 => ?_)
        · refine Ok_rc (R 56 (by decide) _ _ _ i_t29 (pkf pk_56) (pnf (by decide)) (show x1 < 16387 from by omega) (show s_at t1 < 16387 from by omega) (rkl rk_56 (show 5 + 16 * (30 - (s_op t29)) < n from by omega))) bd_56 (fun v31 t31 i_t31 (e31 : s_at t29 ≤ s_at t31) (o31 : s_op t31 = s_op t29) b31 => ?_)
          obtain ⟨a31, p31, h31, g31, w31, -⟩ := id i_t31
          refine Ok_put G i_t31 (by decide) (fun t32 i_t32 (e32 : s_at t32 = s_at t31) (o32 : s_op t32 = s_op t31) => ?_)
          obtain ⟨a32, p32, h32, g32, w32, -⟩ := id i_t32
          have k32 : K (s_at t32) = K (s_at t31) := congrArg K e32
          exact Ok_ret ⟨i_t32, show s_at s ≤ s_at t32 from by omega, show s_op t32 = s_op s from by omega, show 1 < 16387 from by omega, (fun _ => show 1 ≠ 2 ∨ K (s_at t32) ≠ 0 from by omega)⟩
        · refine Ok_putGuard G i_t29 (show s_gw t29 ≠ 0 from by omega) (by decide) (fun t33 i_t33 (e33 : s_at t33 = s_at t29) (o33 : s_op t33 = s_op t29) => ?_)
          obtain ⟨a33, p33, h33, g33, w33, -⟩ := id i_t33
          have k33 : K (s_at t33) = K (s_at t29) := congrArg K e33
          exact Ok_ret ⟨i_t33, show s_at s ≤ s_at t33 from by omega, show s_op t33 = s_op s from by omega, show 3 < 16387 from by omega, (fun _ => show 3 ≠ 2 ∨ K (s_at t33) ≠ 0 from by omega)⟩
    · refine Ok_rc (R 29 (by decide) _ _ _ i_t1 (pkf pk_29) (pnf (by decide)) (by decide) (by decide) (rkl rk_29 (show 4 + 16 * (30 - (s_op t1)) < n from by omega))) bd_29 (fun v34 t34 i_t34 (e34 : s_at t1 ≤ s_at t34) (o34 : s_op t34 = s_op t1) b34 => ?_)
      obtain ⟨a34, p34, h34, g34, w34, -⟩ := id i_t34
      refine Ok_ife (show s_gw t34 < 2147483648 from by omega) (by decide) (fun q35 => ?_) (fun q35 => ?_)
      · refine Ok_rc (R 56 (by decide) _ _ _ i_t34 (pkf pk_56) (pnf (by decide)) (show x1 < 16387 from by omega) (show s_at t1 < 16387 from by omega) (rkl rk_56 (show 5 + 16 * (30 - (s_op t34)) < n from by omega))) bd_56 (fun v36 t36 i_t36 (e36 : s_at t34 ≤ s_at t36) (o36 : s_op t36 = s_op t34) b36 => ?_)
        obtain ⟨a36, p36, h36, g36, w36, -⟩ := id i_t36
        refine Ok_put G i_t36 (by decide) (fun t37 i_t37 (e37 : s_at t37 = s_at t36) (o37 : s_op t37 = s_op t36) => ?_)
        obtain ⟨a37, p37, h37, g37, w37, -⟩ := id i_t37
        have k37 : K (s_at t37) = K (s_at t36) := congrArg K e37
        exact Ok_ret ⟨i_t37, show s_at s ≤ s_at t37 from by omega, show s_op t37 = s_op s from by omega, show 1 < 16387 from by omega, (fun _ => show 1 ≠ 2 ∨ K (s_at t37) ≠ 0 from by omega)⟩
      · refine Ok_putGuard G i_t34 (show s_gw t34 ≠ 0 from by omega) (by decide) (fun t38 i_t38 (e38 : s_at t38 = s_at t34) (o38 : s_op t38 = s_op t34) => ?_)
        obtain ⟨a38, p38, h38, g38, w38, -⟩ := id i_t38
        have k38 : K (s_at t38) = K (s_at t34) := congrArg K e38
        exact Ok_ret ⟨i_t38, show s_at s ≤ s_at t38 from by omega, show s_op t38 = s_op s from by omega, show 3 < 16387 from by omega, (fun _ => show 3 ≠ 2 ∨ K (s_at t38) ≠ 0 from by omega)⟩
theorem T_X1_behindExpr {cnt N : Nat} {K : Nat → Nat} (G : Kg cnt N K) {n : Nat} {rc : Nat → Nat → Nat → Ss → Rs Ss} (R : Sp cnt N K n rc) {x1 : Nat} {s : Ss} (i_s : Iv cnt N s) (hx1 : x1 < 16387) (hm : 5 + 16 * (30 - s_op s) < n + 1) : Ok (Po cnt N K s (s_op s) 16387 true) (Iv cnt N) (b_X1_behindExpr K N rc x1 s) := by
  obtain ⟨hc, hN, hk, hz9⟩ := id G
  obtain ⟨a0, p0, h0, g0, w0, -⟩ := id i_s
  unfold b_X1_behindExpr
  refine Ok_sees G (by decide) (fun (q1 : K (s_at s) = 64) => ?_) (fun (q1 : K (s_at s) ≠ 64) => ?_)
  · refine Ok_ifz1 ?_
    refine Ok_take G i_s (show K (s_at s) ≠ 0 from by omega) (fun t2 i_t2 (e2 : s_at t2 = s_at s + 1) (o2 : s_op t2 = s_op s) => ?_)
    obtain ⟨a2, p2, h2, g2, w2, -⟩ := id i_t2
    refine Ok_rc (R 29 (by decide) _ _ _ i_t2 (pkf pk_29) (pnf (by decide)) (by decide) (by decide) (rkl rk_29 (show 4 + 16 * (30 - (s_op t2)) < n from by omega))) bd_29 (fun v3 t3 i_t3 (e3 : s_at t2 ≤ s_at t3) (o3 : s_op t3 = s_op t2) b3 => ?_)
    obtain ⟨a3, p3, h3, g3, w3, -⟩ := id i_t3
    refine Ok_put G i_t3 (by decide) (fun t4 i_t4 (e4 : s_at t4 = s_at t3) (o4 : s_op t4 = s_op t3) => ?_)
    obtain ⟨a4, p4, h4, g4, w4, -⟩ := id i_t4
    have k4 : K (s_at t4) = K (s_at t3) := congrArg K e4
    exact Ok_ret ⟨i_t4, show s_at s ≤ s_at t4 from by omega, show s_op t4 = s_op s from by omega, show 1 < 16387 from by omega, (fun _ => show 1 ≠ 2 ∨ K (s_at t4) ≠ 0 from by omega)⟩
  · refine Ok_ifz0 ?_
    refine Ok_ife (show x1 < 2147483648 from by omega) (by decide) (fun q5 => ?_) (fun q5 => ?_)
    · exact Ok_ret ⟨i_s, show s_at s ≤ s_at s from by omega, show s_op s = s_op s from by omega, show 0 < 16387 from by omega, (fun _ => show 0 ≠ 2 ∨ K (s_at s) ≠ 0 from by omega)⟩
    · refine Ok_sees G (by decide) (fun (q6 : K (s_at s) = 65) => ?_) (fun (q6 : K (s_at s) ≠ 65) => ?_)
      · refine Ok_ifz1 ?_
        refine Ok_take G i_s (show K (s_at s) ≠ 0 from by omega) (fun t7 i_t7 (e7 : s_at t7 = s_at s + 1) (o7 : s_op t7 = s_op s) => ?_)
        obtain ⟨a7, p7, h7, g7, w7, -⟩ := id i_t7
        refine Ok_put G i_t7 (by decide) (fun t8 i_t8 (e8 : s_at t8 = s_at t7) (o8 : s_op t8 = s_op t7) => ?_)
        obtain ⟨a8, p8, h8, g8, w8, -⟩ := id i_t8
        have k8 : K (s_at t8) = K (s_at t7) := congrArg K e8
        exact Ok_ret ⟨i_t8, show s_at s ≤ s_at t8 from by omega, show s_op t8 = s_op s from by omega, show 1 < 16387 from by omega, (fun _ => show 1 ≠ 2 ∨ K (s_at t8) ≠ 0 from by omega)⟩
      · refine Ok_ifz0 ?_
        refine Ok_sees G (by decide) (fun (q9 : K (s_at s) = 66) => ?_) (fun (q9 : K (s_at s) ≠ 66) => ?_)
        · refine Ok_ifz1 ?_
          refine Ok_take G i_s (show K (s_at s) ≠ 0 from by omega) (fun t10 i_t10 (e10 : s_at t10 = s_at s + 1) (o10 : s_op t10 = s_op s) => ?_)
          obtain ⟨a10, p10, h10, g10, w10, -⟩ := id i_t10
          refine Ok_put G i_t10 (by decide) (fun t11 i_t11 (e11 : s_at t11 = s_at t10) (o11 : s_op t11 = s_op t10) => ?_)
          obtain ⟨a11, p11, h11, g11, w11, -⟩ := id i_t11
          have k11 : K (s_at t11) = K (s_at t10) := congrArg K e11
          exact Ok_ret ⟨i_t11, show s_at s ≤ s_at t11 from by omega, show s_op t11 = s_op s from by omega, show 1 < 16387 from by omega, (fun _ => show 1 ≠ 2 ∨ K (s_at t11) ≠ 0 from by omega)⟩
        · refine Ok_ifz0 ?_
          refine Ok_ck (G.b _) ?_
          refine Ok_ifz (Nat.lt_trans (fb_isOpAssign _) (by decide)) (fun q12 => ?_) (fun q12 => ?_)
          · exact Ok_ret ⟨i_s, show s_at s ≤ s_at s from by omega, show s_op s = s_op s from by omega, show 0 < 16387 from by omega, (fun _ => show 0 ≠ 2 ∨ K (s_at s) ≠ 0 from by omega)⟩
          · have q12n := fn_isOpAssign q12
            refine Ok_take G i_s (show K (s_at s) ≠ 0 from by omega) (fun t13 i_t13 (e13 : s_at t13 = s_at s + 1) (o13 : s_op t13 = s_op s) => ?_)
            obtain ⟨a13, p13, h13, g13, w13, -⟩ := id i_t13
            refine Ok_rc (R 29 (by decide) _ _ _ i_t13 (pkf pk_29) (pnf (by decide)) (by decide) (by decide) (rkl rk_29 (show 4 + 16 * (30 - (s_op t13)) < n from by omega))) bd_29 (fun v14 t14 i_t14 (e14 : s_at t13 ≤ s_at t14) (o14 : s_op t14 = s_op t13) b14 => ?_)
            obtain ⟨a14, p14, h14, g14, w14, -⟩ := id i_t14
            refine Ok_put G i_t14 (by decide) (fun t15 i_t15 (e15 : s_at t15 = s_at t14) (o15 : s_op t15 = s_op t14) => ?_)
            obtain ⟨a15, p15, h15, g15, w15, -⟩ := id i_t15
            have k15 : K (s_at t15) = K (s_at t14) := congrArg K e15
            exact Ok_ret ⟨i_t15, show s_at s ≤ s_at t15 from by omega, show s_op t15 = s_op s from by omega, show 1 < 16387 from by omega, (fun _ => show 1 ≠ 2 ∨ K (s_at t15) ≠ 0 from by omega)⟩
theorem T_X1_elseBranch {cnt N : Nat} {K : Nat → Nat} (G : Kg cnt N K) {n : Nat} {rc : Nat → Nat → Nat → Ss → Rs Ss} (R : Sp cnt N K n rc) {s : Ss} (i_s : Iv cnt N s) (hm : 0 + 16 * (30 - s_op s) < n + 1) : Ok (Po cnt N K s (s_op s) 16387 false) (Iv cnt N) (b_X1_elseBranch K N rc s) := by
  obtain ⟨hc, hN, hk, hz9⟩ := id G
  obtain ⟨a0, p0, h0, g0, w0, -⟩ := id i_s
  unfold b_X1_elseBranch
  refine Ok_enter G i_s (by decide) (by decide) (fun t1 i_t1 (e1 : s_at t1 = s_at s + 1) (o1 : s_op t1 = s_op s + 1) => ?_)
  obtain ⟨a1, p1, h1, g1, w1, -⟩ := id i_t1
  refine Ok_sees G (by decide) (fun (q2 : K (s_at t1) = 23) => ?_) (fun (q2 : K (s_at t1) ≠ 23) => ?_)
  · refine Ok_ifz1 ?_
    refine Ok_rc (R 60 (by decide) _ _ _ i_t1 (pkt (show K (s_at t1) ≠ 0 from by omega)) (pnf (by decide)) (by decide) (by decide) (rkl rk_60 (show 9 + 16 * (30 - (s_op t1)) < n from by omega))) bd_60 (fun v3 t3 i_t3 (e3 : s_at t1 ≤ s_at t3) (o3 : s_op t3 = s_op t1) b3 => ?_)
    obtain ⟨a3, p3, h3, g3, w3, -⟩ := id i_t3
    refine Ok_close i_t3 (show s_op t3 ≠ 0 from by omega) (fun t4 i_t4 (e4 : s_at t4 = s_at t3) (o4 : s_op t4 = s_op t3 - 1) => ?_)
    obtain ⟨a4, p4, h4, g4, w4, -⟩ := id i_t4
    have k4 : K (s_at t4) = K (s_at t3) := congrArg K e4
    exact Ok_ret ⟨i_t4, show s_at s ≤ s_at t4 from by omega, show s_op t4 = s_op s from by omega, show 0 < 16387 from by omega, (fun q => by cases q)⟩
  · refine Ok_ifz0 ?_
    refine Ok_rc (R 47 (by decide) _ _ _ i_t1 (pkf pk_47) (pnf (by decide)) (by decide) (by decide) (rkl rk_47 (show 0 + 16 * (30 - (s_op t1)) < n from by omega))) bd_47 (fun v5 t5 i_t5 (e5 : s_at t1 ≤ s_at t5) (o5 : s_op t5 = s_op t1) b5 => ?_)
    obtain ⟨a5, p5, h5, g5, w5, -⟩ := id i_t5
    refine Ok_close i_t5 (show s_op t5 ≠ 0 from by omega) (fun t6 i_t6 (e6 : s_at t6 = s_at t5) (o6 : s_op t6 = s_op t5 - 1) => ?_)
    obtain ⟨a6, p6, h6, g6, w6, -⟩ := id i_t6
    have k6 : K (s_at t6) = K (s_at t5) := congrArg K e6
    exact Ok_ret ⟨i_t6, show s_at s ≤ s_at t6 from by omega, show s_op t6 = s_op s from by omega, show 0 < 16387 from by omega, (fun q => by cases q)⟩
theorem T_X1_switchStmt {cnt N : Nat} {K : Nat → Nat} (G : Kg cnt N K) {n : Nat} {rc : Nat → Nat → Nat → Ss → Rs Ss} (R : Sp cnt N K n rc) {s : Ss} (i_s : Iv cnt N s) (hz : K (s_at s) ≠ 0) (hm : 9 + 16 * (30 - s_op s) < n + 1) : Ok (Po cnt N K s (s_op s) 16387 false) (Iv cnt N) (b_X1_switchStmt K N rc s) := by
  obtain ⟨hc, hN, hk, hz9⟩ := id G
  obtain ⟨a0, p0, h0, g0, w0, -⟩ := id i_s
  unfold b_X1_switchStmt
  refine Ok_take G i_s (show K (s_at s) ≠ 0 from by omega) (fun t1 i_t1 (e1 : s_at t1 = s_at s + 1) (o1 : s_op t1 = s_op s) => ?_)
  obtain ⟨a1, p1, h1, g1, w1, -⟩ := id i_t1
  refine Ok_sees G (by decide) (fun (q2 : K (s_at t1) = 82) => ?_) (fun (q2 : K (s_at t1) ≠ 82) => ?_)
  · refine Ok_ifz1 ?_
    refine Ok_ck (show (s_ih t1) < 2 from by omega) ?_
    refine Ok_rc (R 72 (by decide) _ _ _ (Iv_ih (Iv_ih i_t1 (show 1 < 2 from by omega)) (show s_ih t1 < 2 from by omega)) (pkf pk_72) (pnf (by decide)) (by decide) (by decide) (rkl rk_72 (show 0 + 16 * (30 - (s_op t1)) < n from by omega))) bd_72 (fun v3 t3 i_t3 (e3 : s_at t1 ≤ s_at t3) (o3 : s_op t3 = s_op t1) b3 => ?_)
    obtain ⟨a3, p3, h3, g3, w3, -⟩ := id i_t3
    refine Ok_put G i_t3 (show 0 + v3 < 20000 from by omega) (fun t4 i_t4 (e4 : s_at t4 = s_at t3) (o4 : s_op t4 = s_op t3) => ?_)
    obtain ⟨a4, p4, h4, g4, w4, -⟩ := id i_t4
    have k4 : K (s_at t4) = K (s_at t3) := congrArg K e4
    exact Ok_ret ⟨i_t4, show s_at s ≤ s_at t4 from by omega, show s_op t4 = s_op s from by omega, show 0 < 16387 from by omega, (fun q => by cases q)⟩
  · refine Ok_ifz0 ?_
    refine Ok_rcF (R 61 (by decide) _ _ _ (Iv_ih i_t1 (show 1 < 2 from by omega)) (pkf pk_61) (pnf (by decide)) (by decide) (by decide) (rkl rk_61 (show 8 + 16 * (30 - (s_op t1)) < n from by omega))) bd_61 br_61 (fun v5 t5 i_t5 (e5 : s_at t1 ≤ s_at t5) (o5 : s_op t5 = s_op t1) b5 x5 => ?_)
    obtain ⟨a5, p5, h5, g5, w5, -⟩ := id i_t5
    refine Ok_ife (show v5 < 2147483648 from by omega) (by decide) (fun q6 => ?_) (fun q6 => ?_)
    · refine Ok_ife (show v5 < 2147483648 from by omega) (by decide) (fun q7 => ?_) (fun q7 => ?_)
      · refine Ok_sees G (by decide) (fun (q8 : K (s_at t5) = 82) => ?_) (fun (q8 : K (s_at t5) ≠ 82) => ?_)
        · refine Ok_ifz1 ?_
          refine Ok_ck (show (s_ih t1) < 2 from by omega) ?_
          refine Ok_rc (R 72 (by decide) _ _ _ (Iv_ih i_t5 (show s_ih t1 < 2 from by omega)) (pkf pk_72) (pnf (by decide)) (by decide) (by decide) (rkl rk_72 (show 0 + 16 * (30 - (s_op t5)) < n from by omega))) bd_72 (fun v9 t9 i_t9 (e9 : s_at t5 ≤ s_at t9) (o9 : s_op t9 = s_op t5) b9 => ?_)
          obtain ⟨a9, p9, h9, g9, w9, -⟩ := id i_t9
          refine Ok_put G i_t9 (show 1 + v9 < 20000 from by omega) (fun t10 i_t10 (e10 : s_at t10 = s_at t9) (o10 : s_op t10 = s_op t9) => ?_)
          obtain ⟨a10, p10, h10, g10, w10, -⟩ := id i_t10
          have k10 : K (s_at t10) = K (s_at t9) := congrArg K e10
          exact Ok_ret ⟨i_t10, show s_at s ≤ s_at t10 from by omega, show s_op t10 = s_op s from by omega, show 0 < 16387 from by omega, (fun q => by cases q)⟩
        · refine Ok_ifz0 ?_
          refine Ok_rc (R 71 (by decide) _ _ _ i_t5 (pkf pk_71) (pnf (by decide)) (by decide) (by decide) (rkl rk_71 (show 5 + 16 * (30 - (s_op t5)) < n from by omega))) bd_71 (fun v11 t11 i_t11 (e11 : s_at t5 ≤ s_at t11) (o11 : s_op t11 = s_op t5) b11 => ?_)
          obtain ⟨a11, p11, h11, g11, w11, -⟩ := id i_t11
          refine Ok_ck (show (s_ih t1) < 2 from by omega) ?_
          refine Ok_ifz (show v11 < 2147483648 from by omega) (fun q12 => ?_) (fun q12 => ?_)
          · refine Ok_rc (R 72 (by decide) _ _ _ (Iv_ih i_t11 (show s_ih t1 < 2 from by omega)) (pkf pk_72) (pnf (by decide)) (by decide) (by decide) (rkl rk_72 (show 0 + 16 * (30 - (s_op t11)) < n from by omega))) bd_72 (fun v13 t13 i_t13 (e13 : s_at t11 ≤ s_at t13) (o13 : s_op t13 = s_op t11) b13 => ?_)
            obtain ⟨a13, p13, h13, g13, w13, -⟩ := id i_t13
            refine Ok_put G i_t13 (show 2 + v13 < 20000 from by omega) (fun t14 i_t14 (e14 : s_at t14 = s_at t13) (o14 : s_op t14 = s_op t13) => ?_)
            obtain ⟨a14, p14, h14, g14, w14, -⟩ := id i_t14
            have k14 : K (s_at t14) = K (s_at t13) := congrArg K e14
            exact Ok_ret ⟨i_t14, show s_at s ≤ s_at t14 from by omega, show s_op t14 = s_op s from by omega, show 0 < 16387 from by omega, (fun q => by cases q)⟩
          · refine Ok_rc (R 72 (by decide) _ _ _ (Iv_ih i_t11 (show s_ih t1 < 2 from by omega)) (pkf pk_72) (pnf (by decide)) (by decide) (by decide) (rkl rk_72 (show 0 + 16 * (30 - (s_op t11)) < n from by omega))) bd_72 (fun v15 t15 i_t15 (e15 : s_at t11 ≤ s_at t15) (o15 : s_op t15 = s_op t11) b15 => ?_)
            obtain ⟨a15, p15, h15, g15, w15, -⟩ := id i_t15
            refine Ok_put G i_t15 (show 2 + v15 < 20000 from by omega) (fun t16 i_t16 (e16 : s_at t16 = s_at t15) (o16 : s_op t16 = s_op t15) => ?_)
            obtain ⟨a16, p16, h16, g16, w16, -⟩ := id i_t16
            have k16 : K (s_at t16) = K (s_at t15) := congrArg K e16
            exact Ok_ret ⟨i_t16, show s_at s ≤ s_at t16 from by omega, show s_op t16 = s_op s from by omega, show 0 < 16387 from by omega, (fun q => by cases q)⟩
      · refine Ok_ck (show (s_ih t1) < 2 from by omega) ?_
        refine Ok_rc (R 72 (by decide) _ _ _ (Iv_ih i_t5 (show s_ih t1 < 2 from by omega)) (pkf pk_72) (pnf (by decide)) (by decide) (by decide) (rkl rk_72 (show 0 + 16 * (30 - (s_op t5)) < n from by omega))) bd_72 (fun v17 t17 i_t17 (e17 : s_at t5 ≤ s_at t17) (o17 : s_op t17 = s_op t5) b17 => ?_)
        obtain ⟨a17, p17, h17, g17, w17, -⟩ := id i_t17
        refine Ok_put G i_t17 (show 1 + v17 < 20000 from by omega) (fun t18 i_t18 (e18 : s_at t18 = s_at t17) (o18 : s_op t18 = s_op t17) => ?_)
        obtain ⟨a18, p18, h18, g18, w18, -⟩ := id i_t18
        have k18 : K (s_at t18) = K (s_at t17) := congrArg K e18
        exact Ok_ret ⟨i_t18, show s_at s ≤ s_at t18 from by omega, show s_op t18 = s_op s from by omega, show 0 < 16387 from by omega, (fun q => by cases q)⟩
    · refine Ok_ife (show v5 < 2147483648 from by omega) (by decide) (fun q19 => ?_) (fun q19 => ?_)
      · refine Ok_sees G (by decide) (fun (q20 : K (s_at t5) = 82) => ?_) (fun (q20 : K (s_at t5) ≠ 82) => ?_)
        · refine Ok_ifz1 ?_
          refine Ok_ck (show (s_ih t1) < 2 from by omega) ?_
          refine Ok_rc (R 72 (by decide) _ _ _ (Iv_ih i_t5 (show s_ih t1 < 2 from by omega)) (pkf pk_72) (pnf (by decide)) (by decide) (by decide) (rkl rk_72 (show 0 + 16 * (30 - (s_op t5)) < n from by omega))) bd_72 (fun v21 t21 i_t21 (e21 : s_at t5 ≤ s_at t21) (o21 : s_op t21 = s_op t5) b21 => ?_)
          obtain ⟨a21, p21, h21, g21, w21, -⟩ := id i_t21
          refine Ok_put G i_t21 (show 1 + v21 < 20000 from by omega) (fun t22 i_t22 (e22 : s_at t22 = s_at t21) (o22 : s_op t22 = s_op t21) => ?_)
          obtain ⟨a22, p22, h22, g22, w22, -⟩ := id i_t22
          have k22 : K (s_at t22) = K (s_at t21) := congrArg K e22
          exact Ok_ret ⟨i_t22, show s_at s ≤ s_at t22 from by omega, show s_op t22 = s_op s from by omega, show 0 < 16387 from by omega, (fun q => by cases q)⟩
        · refine Ok_ifz0 ?_
          refine Ok_rc (R 71 (by decide) _ _ _ i_t5 (pkf pk_71) (pnf (by decide)) (by decide) (by decide) (rkl rk_71 (show 5 + 16 * (30 - (s_op t5)) < n from by omega))) bd_71 (fun v23 t23 i_t23 (e23 : s_at t5 ≤ s_at t23) (o23 : s_op t23 = s_op t5) b23 => ?_)
          obtain ⟨a23, p23, h23, g23, w23, -⟩ := id i_t23
          refine Ok_ck (show (s_ih t1) < 2 from by omega) ?_
          refine Ok_ifz (show v23 < 2147483648 from by omega) (fun q24 => ?_) (fun q24 => ?_)
          · refine Ok_rc (R 72 (by decide) _ _ _ (Iv_ih i_t23 (show s_ih t1 < 2 from by omega)) (pkf pk_72) (pnf (by decide)) (by decide) (by decide) (rkl rk_72 (show 0 + 16 * (30 - (s_op t23)) < n from by omega))) bd_72 (fun v25 t25 i_t25 (e25 : s_at t23 ≤ s_at t25) (o25 : s_op t25 = s_op t23) b25 => ?_)
            obtain ⟨a25, p25, h25, g25, w25, -⟩ := id i_t25
            refine Ok_put G i_t25 (show 2 + v25 < 20000 from by omega) (fun t26 i_t26 (e26 : s_at t26 = s_at t25) (o26 : s_op t26 = s_op t25) => ?_)
            obtain ⟨a26, p26, h26, g26, w26, -⟩ := id i_t26
            have k26 : K (s_at t26) = K (s_at t25) := congrArg K e26
            exact Ok_ret ⟨i_t26, show s_at s ≤ s_at t26 from by omega, show s_op t26 = s_op s from by omega, show 0 < 16387 from by omega, (fun q => by cases q)⟩
          · refine Ok_rc (R 72 (by decide) _ _ _ (Iv_ih i_t23 (show s_ih t1 < 2 from by omega)) (pkf pk_72) (pnf (by decide)) (by decide) (by decide) (rkl rk_72 (show 0 + 16 * (30 - (s_op t23)) < n from by omega))) bd_72 (fun v27 t27 i_t27 (e27 : s_at t23 ≤ s_at t27) (o27 : s_op t27 = s_op t23) b27 => ?_)
            obtain ⟨a27, p27, h27, g27, w27, -⟩ := id i_t27
            refine Ok_put G i_t27 (show 2 + v27 < 20000 from by omega) (fun t28 i_t28 (e28 : s_at t28 = s_at t27) (o28 : s_op t28 = s_op t27) => ?_)
            obtain ⟨a28, p28, h28, g28, w28, -⟩ := id i_t28
            have k28 : K (s_at t28) = K (s_at t27) := congrArg K e28
            exact Ok_ret ⟨i_t28, show s_at s ≤ s_at t28 from by omega, show s_op t28 = s_op s from by omega, show 0 < 16387 from by omega, (fun q => by cases q)⟩
      · refine Ok_ck (show (s_ih t1) < 2 from by omega) ?_
        refine Ok_rc (R 72 (by decide) _ _ _ (Iv_ih i_t5 (show s_ih t1 < 2 from by omega)) (pkf pk_72) (pnf (by decide)) (by decide) (by decide) (rkl rk_72 (show 0 + 16 * (30 - (s_op t5)) < n from by omega))) bd_72 (fun v29 t29 i_t29 (e29 : s_at t5 ≤ s_at t29) (o29 : s_op t29 = s_op t5) b29 => ?_)
        obtain ⟨a29, p29, h29, g29, w29, -⟩ := id i_t29
        refine Ok_put G i_t29 (show 1 + v29 < 20000 from by omega) (fun t30 i_t30 (e30 : s_at t30 = s_at t29) (o30 : s_op t30 = s_op t29) => ?_)
        obtain ⟨a30, p30, h30, g30, w30, -⟩ := id i_t30
        have k30 : K (s_at t30) = K (s_at t29) := congrArg K e30
        exact Ok_ret ⟨i_t30, show s_at s ≤ s_at t30 from by omega, show s_op t30 = s_op s from by omega, show 0 < 16387 from by omega, (fun q => by cases q)⟩
theorem T_X1_tag {cnt N : Nat} {K : Nat → Nat} (G : Kg cnt N K) {n : Nat} {rc : Nat → Nat → Nat → Ss → Rs Ss} (R : Sp cnt N K n rc) {s : Ss} (i_s : Iv cnt N s) (hm : 5 + 16 * (30 - s_op s) < n + 1) : Ok (Po cnt N K s (s_op s) 2 false) (Iv cnt N) (b_X1_tag K N rc s) := by
  obtain ⟨hc, hN, hk, hz9⟩ := id G
  obtain ⟨a0, p0, h0, g0, w0, -⟩ := id i_s
  unfold b_X1_tag
  refine Ok_rc (R 29 (by decide) _ _ _ i_s (pkf pk_29) (pnf (by decide)) (by decide) (by decide) (rkl rk_29 (show 4 + 16 * (30 - (s_op s)) < n from by omega))) bd_29 (fun v1 t1 i_t1 (e1 : s_at s ≤ s_at t1) (o1 : s_op t1 = s_op s) b1 => ?_)
  obtain ⟨a1, p1, h1, g1, w1, -⟩ := id i_t1
  refine Ok_ife (show s_gw t1 < 2147483648 from by omega) (by decide) (fun q2 => ?_) (fun q2 => ?_)
  · refine Ok_sees G (by decide) (fun (q3 : K (s_at t1) = 76) => ?_) (fun (q3 : K (s_at t1) ≠ 76) => ?_)
    · refine Ok_ifz1 ?_
      refine Ok_isName G i_t1 (show s_at s < 20000 from by omega) (fun v4 b4 => ?_)
      refine Ok_ifz (show v4 < 2147483648 from by omega) (fun q5 => ?_) (fun q5 => ?_)
      · exact Ok_ret ⟨i_t1, show s_at s ≤ s_at t1 from by omega, show s_op t1 = s_op s from by omega, show 0 < 2 from by omega, (fun q => by cases q)⟩
      · refine Ok_put G i_t1 (by decide) (fun t6 i_t6 (e6 : s_at t6 = s_at t1) (o6 : s_op t6 = s_op t1) => ?_)
        obtain ⟨a6, p6, h6, g6, w6, -⟩ := id i_t6
        have k6 : K (s_at t6) = K (s_at t1) := congrArg K e6
        refine Ok_take G i_t6 (show K (s_at t6) ≠ 0 from by omega) (fun t7 i_t7 (e7 : s_at t7 = s_at t6 + 1) (o7 : s_op t7 = s_op t6) => ?_)
        obtain ⟨a7, p7, h7, g7, w7, -⟩ := id i_t7
        refine Ok_rc (R 34 (by decide) _ _ _ i_t7 (pkf pk_34) (pnf (by decide)) (by decide) (by decide) (rkl rk_34 (show 2 + 16 * (30 - (s_op t7)) < n from by omega))) bd_34 (fun v8 t8 i_t8 (e8 : s_at t7 ≤ s_at t8) (o8 : s_op t8 = s_op t7) b8 => ?_)
        obtain ⟨a8, p8, h8, g8, w8, -⟩ := id i_t8
        refine Ok_ife (show s_gw t8 < 2147483648 from by omega) (by decide) (fun q9 => ?_) (fun q9 => ?_)
        · exact Ok_er i_t8
        · refine Ok_putGuard G i_t8 (show s_gw t8 ≠ 0 from by omega) (by decide) (fun t10 i_t10 (e10 : s_at t10 = s_at t8) (o10 : s_op t10 = s_op t8) => ?_)
          obtain ⟨a10, p10, h10, g10, w10, -⟩ := id i_t10
          have k10 : K (s_at t10) = K (s_at t8) := congrArg K e10
          exact Ok_ret ⟨i_t10, show s_at s ≤ s_at t10 from by omega, show s_op t10 = s_op s from by omega, show 1 < 2 from by omega, (fun q => by cases q)⟩
    · refine Ok_ifz0 ?_
      exact Ok_ret ⟨i_t1, show s_at s ≤ s_at t1 from by omega, show s_op t1 = s_op s from by omega, show 0 < 2 from by omega, (fun q => by cases q)⟩
  · refine Ok_putGuard G i_t1 (show s_gw t1 ≠ 0 from by omega) (by decide) (fun t11 i_t11 (e11 : s_at t11 = s_at t1) (o11 : s_op t11 = s_op t1) => ?_)
    obtain ⟨a11, p11, h11, g11, w11, -⟩ := id i_t11
    have k11 : K (s_at t11) = K (s_at t1) := congrArg K e11
    exact Ok_ret ⟨i_t11, show s_at s ≤ s_at t11 from by omega, show s_op t11 = s_op s from by omega, show 1 < 2 from by omega, (fun q => by cases q)⟩
theorem T_lp_X1_clauses_9 {cnt N : Nat} {K : Nat → Nat} (G : Kg cnt N K) {n : Nat} {rc : Nat → Nat → Nat → Ss → Rs Ss} (R : Sp cnt N K n rc) : ∀ (f y1 y2 : Nat) (s : Ss), Iv cnt N s → 16387 ≤ f + y2 → y2 ≤ 16386 → 1 ≤ s_op s → y1 < 16387 → y2 < 16387 → 15 + 16 * (30 - s_op s) < n → Ok (Po cnt N K s (s_op s - 1) 16387 false) (Iv cnt N) (lp_X1_clauses_9 K N rc f y1 y2 s) := by
  obtain ⟨hc, hN, hk, hz9⟩ := id G
  intro f
  induction f with
  | zero => intro y1 y2 s i_s c1 c2 j0 hy1 hy2 hm; omega
  | succ f ih =>
    intro y1 y2 s i_s c1 c2 j0 hy1 hy2 hm
    obtain ⟨a0, p0, h0, g0, w0, -⟩ := id i_s
    rw [lp_X1_clauses_9]
    refine Ok_ifl (show y2 < 2147483648 from by omega) (by decide) (fun q1 => ?_) (fun q1 => ?_)
    · refine Ok_sees G (by decide) (fun (q2 : K (s_at s) = 11) => ?_) (fun (q2 : K (s_at s) ≠ 11) => ?_)
      · refine Ok_ifz1 ?_
        refine Ok_sees G (by decide) (fun (q3 : K (s_at s) = 11) => ?_) (fun (q3 : K (s_at s) ≠ 11) => ?_)
        · refine Ok_ifz1 ?_
          refine Ok_rc (R 73 (by decide) _ _ _ i_s (pkt (show K (s_at s) ≠ 0 from by omega)) (pnf (by decide)) (show y1 < 16387 from by omega) (by decide) (rkl rk_73 (show 15 + 16 * (30 - (s_op s)) < n from by omega))) bd_73 (fun v4 t4 i_t4 (e4 : s_at s ≤ s_at t4) (o4 : s_op t4 = s_op s) b4 => ?_)
          obtain ⟨a4, p4, h4, g4, w4, -⟩ := id i_t4
          refine Ok_imp (ih y1 (y2 + 1) _ i_t4 (show 16387 ≤ f + (y2 + 1) from by omega) (show y2 + 1 ≤ 16386 from by omega) (show 1 ≤ (s_op t4) from by omega) (show y1 < 16387 from by omega) (show y2 + 1 < 16387 from by omega) (show 15 + 16 * (30 - (s_op t4)) < n from by omega)) (fun v5 t5 z5 => ?_)
          obtain ⟨i_t5, e5, o5, b5, x5⟩ := z5
          have e5 : s_at t4 ≤ s_at t5 := e5
          have o5 : s_op t5 = (s_op t4) - 1 := o5
          exact ⟨i_t5, by omega, by omega, by omega, (fun q => by cases q)⟩
        · refine Ok_ifz0 ?_
          refine Ok_rc (R 77 (by decide) _ _ _ i_s (pkt (show K (s_at s) ≠ 0 from by omega)) (pnf (by decide)) (show y1 < 16387 from by omega) (by decide) (rkl rk_77 (show 15 + 16 * (30 - (s_op s)) < n from by omega))) bd_77 (fun v6 t6 i_t6 (e6 : s_at s ≤ s_at t6) (o6 : s_op t6 = s_op s) b6 => ?_)
          obtain ⟨a6, p6, h6, g6, w6, -⟩ := id i_t6
          refine Ok_imp (ih y1 (y2 + 1) _ i_t6 (show 16387 ≤ f + (y2 + 1) from by omega) (show y2 + 1 ≤ 16386 from by omega) (show 1 ≤ (s_op t6) from by omega) (show y1 < 16387 from by omega) (show y2 + 1 < 16387 from by omega) (show 15 + 16 * (30 - (s_op t6)) < n from by omega)) (fun v7 t7 z7 => ?_)
          obtain ⟨i_t7, e7, o7, b7, x7⟩ := z7
          have e7 : s_at t6 ≤ s_at t7 := e7
          have o7 : s_op t7 = (s_op t6) - 1 := o7
          exact ⟨i_t7, by omega, by omega, by omega, (fun q => by cases q)⟩
      · refine Ok_ifz0 ?_
        refine Ok_sees G (by decide) (fun (q8 : K (s_at s) = 15) => ?_) (fun (q8 : K (s_at s) ≠ 15) => ?_)
        · refine Ok_ifz1 ?_
          refine Ok_sees G (by decide) (fun (q9 : K (s_at s) = 11) => ?_) (fun (q9 : K (s_at s) ≠ 11) => ?_)
          · refine Ok_ifz1 ?_
            refine Ok_rc (R 73 (by decide) _ _ _ i_s (pkt (show K (s_at s) ≠ 0 from by omega)) (pnf (by decide)) (show y1 < 16387 from by omega) (by decide) (rkl rk_73 (show 15 + 16 * (30 - (s_op s)) < n from by omega))) bd_73 (fun v10 t10 i_t10 (e10 : s_at s ≤ s_at t10) (o10 : s_op t10 = s_op s) b10 => ?_)
            obtain ⟨a10, p10, h10, g10, w10, -⟩ := id i_t10
            refine Ok_imp (ih y1 (y2 + 1) _ i_t10 (show 16387 ≤ f + (y2 + 1) from by omega) (show y2 + 1 ≤ 16386 from by omega) (show 1 ≤ (s_op t10) from by omega) (show y1 < 16387 from by omega) (show y2 + 1 < 16387 from by omega) (show 15 + 16 * (30 - (s_op t10)) < n from by omega)) (fun v11 t11 z11 => ?_)
            obtain ⟨i_t11, e11, o11, b11, x11⟩ := z11
            have e11 : s_at t10 ≤ s_at t11 := e11
            have o11 : s_op t11 = (s_op t10) - 1 := o11
            exact ⟨i_t11, by omega, by omega, by omega, (fun q => by cases q)⟩
          · refine Ok_ifz0 ?_
            refine Ok_rc (R 77 (by decide) _ _ _ i_s (pkt (show K (s_at s) ≠ 0 from by omega)) (pnf (by decide)) (show y1 < 16387 from by omega) (by decide) (rkl rk_77 (show 15 + 16 * (30 - (s_op s)) < n from by omega))) bd_77 (fun v12 t12 i_t12 (e12 : s_at s ≤ s_at t12) (o12 : s_op t12 = s_op s) b12 => ?_)
            obtain ⟨a12, p12, h12, g12, w12, -⟩ := id i_t12
            refine Ok_imp (ih y1 (y2 + 1) _ i_t12 (show 16387 ≤ f + (y2 + 1) from by omega) (show y2 + 1 ≤ 16386 from by omega) (show 1 ≤ (s_op t12) from by omega) (show y1 < 16387 from by omega) (show y2 + 1 < 16387 from by omega) (show 15 + 16 * (30 - (s_op t12)) < n from by omega)) (fun v13 t13 z13 => ?_)
            obtain ⟨i_t13, e13, o13, b13, x13⟩ := z13
            have e13 : s_at t12 ≤ s_at t13 := e13
            have o13 : s_op t13 = (s_op t12) - 1 := o13
            exact ⟨i_t13, by omega, by omega, by omega, (fun q => by cases q)⟩
        · refine Ok_ifz0 ?_
          refine Ok_leave G i_s (by decide) (by decide) (show s_op s ≠ 0 from by omega) (fun t14 i_t14 (e14 : s_at t14 = s_at s + 1) (o14 : s_op t14 = s_op s - 1) => ?_)
          obtain ⟨a14, p14, h14, g14, w14, -⟩ := id i_t14
          exact Ok_ret ⟨i_t14, show s_at s ≤ s_at t14 from by omega, show s_op t14 = s_op s - 1 from by omega, show y2 < 16387 from by omega, (fun q => by cases q)⟩
    · refine Ok_leave G i_s (by decide) (by decide) (show s_op s ≠ 0 from by omega) (fun t15 i_t15 (e15 : s_at t15 = s_at s + 1) (o15 : s_op t15 = s_op s - 1) => ?_)
      obtain ⟨a15, p15, h15, g15, w15, -⟩ := id i_t15
      exact Ok_ret ⟨i_t15, show s_at s ≤ s_at t15 from by omega, show s_op t15 = s_op s - 1 from by omega, show y2 < 16387 from by omega, (fun q => by cases q)⟩
theorem T_X1_clauses {cnt N : Nat} {K : Nat → Nat} (G : Kg cnt N K) {n : Nat} {rc : Nat → Nat → Nat → Ss → Rs Ss} (R : Sp cnt N K n rc) {x1 : Nat} {s : Ss} (i_s : Iv cnt N s) (hx1 : x1 < 16387) (hm : 0 + 16 * (30 - s_op s) < n + 1) : Ok (Po cnt N K s (s_op s) 16387 false) (Iv cnt N) (b_X1_clauses K N rc x1 s) := by
  obtain ⟨hc, hN, hk, hz9⟩ := id G
  obtain ⟨a0, p0, h0, g0, w0, -⟩ := id i_s
  unfold b_X1_clauses
  refine Ok_enter G i_s (by decide) (by decide) (fun t1 i_t1 (e1 : s_at t1 = s_at s + 1) (o1 : s_op t1 = s_op s + 1) => ?_)
  obtain ⟨a1, p1, h1, g1, w1, -⟩ := id i_t1
  refine Ok_imp (T_lp_X1_clauses_9 G R LF x1 0 _ i_t1 (show 16387 ≤ LF + 0 from by unfold LF; omega) (show 0 ≤ 16386 from by omega) (show 1 ≤ (s_op t1) from by omega) (show x1 < 16387 from by omega) (by decide) (show 15 + 16 * (30 - (s_op t1)) < n from by omega)) (fun v2 t2 z2 => ?_)
  obtain ⟨i_t2, e2, o2, b2, x2⟩ := z2
  have e2 : s_at t1 ≤ s_at t2 := e2
  have o2 : s_op t2 = (s_op t1) - 1 := o2
  exact ⟨i_t2, by omega, by omega, by omega, (fun q => by cases q)⟩
theorem T_X1_caseClause {cnt N : Nat} {K : Nat → Nat} (G : Kg cnt N K) {n : Nat} {rc : Nat → Nat → Nat → Ss → Rs Ss} (R : Sp cnt N K n rc) {x1 : Nat} {s : Ss} (i_s : Iv cnt N s) (hz : K (s_at s) ≠ 0) (hx1 : x1 < 16387) (hm : 15 + 16 * (30 - s_op s) < n + 1) : Ok (Po cnt N K s (s_op s) 16387 false) (Iv cnt N) (b_X1_caseClause K N rc x1 s) := by
  obtain ⟨hc, hN, hk, hz9⟩ := id G
  obtain ⟨a0, p0, h0, g0, w0, -⟩ := id i_s
  unfold b_X1_caseClause
  refine Ok_take G i_s (show K (s_at s) ≠ 0 from by omega) (fun t1 i_t1 (e1 : s_at t1 = s_at s + 1) (o1 : s_op t1 = s_op s) => ?_)
  obtain ⟨a1, p1, h1, g1, w1, -⟩ := id i_t1
  refine Ok_ck (show x1 < 2147483648 from by omega) ?_
  refine Ok_ife (show x1 < 2147483648 from by omega) (by decide) (fun q2 => ?_) (fun q2 => ?_)
  · refine Ok_rc (R 74 (by decide) _ _ _ i_t1 (pkf pk_74) (pnf (by decide)) (by decide) (by decide) (rkl rk_74 (show 1 + 16 * (30 - (s_op t1)) < n from by omega))) bd_74 (fun v3 t3 i_t3 (e3 : s_at t1 ≤ s_at t3) (o3 : s_op t3 = s_op t1) b3 => ?_)
    obtain ⟨a3, p3, h3, g3, w3, -⟩ := id i_t3
    refine Ok_rc (R 76 (by decide) _ _ _ i_t3 (pkf pk_76) (pnf (by decide)) (by decide) (by decide) (rkl rk_76 (show 14 + 16 * (30 - (s_op t3)) < n from by omega))) bd_76 (fun v4 t4 i_t4 (e4 : s_at t3 ≤ s_at t4) (o4 : s_op t4 = s_op t3) b4 => ?_)
    obtain ⟨a4, p4, h4, g4, w4, -⟩ := id i_t4
    refine Ok_ife (show x1 < 2147483648 from by omega) (by decide) (fun q5 => ?_) (fun q5 => ?_)
    · refine Ok_put G i_t4 (by decide) (fun t6 i_t6 (e6 : s_at t6 = s_at t4) (o6 : s_op t6 = s_op t4) => ?_)
      obtain ⟨a6, p6, h6, g6, w6, -⟩ := id i_t6
      have k6 : K (s_at t6) = K (s_at t4) := congrArg K e6
      exact Ok_ret ⟨i_t6, show s_at s ≤ s_at t6 from by omega, show s_op t6 = s_op s from by omega, show 0 < 16387 from by omega, (fun q => by cases q)⟩
    · refine Ok_put G i_t4 (by decide) (fun t7 i_t7 (e7 : s_at t7 = s_at t4) (o7 : s_op t7 = s_op t4) => ?_)
      obtain ⟨a7, p7, h7, g7, w7, -⟩ := id i_t7
      have k7 : K (s_at t7) = K (s_at t4) := congrArg K e7
      exact Ok_ret ⟨i_t7, show s_at s ≤ s_at t7 from by omega, show s_op t7 = s_op s from by omega, show 0 < 16387 from by omega, (fun q => by cases q)⟩
  · refine Ok_ife (show x1 < 2147483648 from by omega) (by decide) (fun q8 => ?_) (fun q8 => ?_)
    · refine Ok_rc (R 75 (by decide) _ _ _ i_t1 (pkf pk_75) (pnf (by decide)) (by decide) (by decide) (rkl rk_75 (show 8 + 16 * (30 - (s_op t1)) < n from by omega))) bd_75 (fun v9 t9 i_t9 (e9 : s_at t1 ≤ s_at t9) (o9 : s_op t9 = s_op t1) b9 => ?_)
      obtain ⟨a9, p9, h9, g9, w9, -⟩ := id i_t9
      refine Ok_rc (R 76 (by decide) _ _ _ i_t9 (pkf pk_76) (pnf (by decide)) (by decide) (by decide) (rkl rk_76 (show 14 + 16 * (30 - (s_op t9)) < n from by omega))) bd_76 (fun v10 t10 i_t10 (e10 : s_at t9 ≤ s_at t10) (o10 : s_op t10 = s_op t9) b10 => ?_)
      obtain ⟨a10, p10, h10, g10, w10, -⟩ := id i_t10
      refine Ok_ife (show x1 < 2147483648 from by omega) (by decide) (fun q11 => ?_) (fun q11 => ?_)
      · refine Ok_put G i_t10 (by decide) (fun t12 i_t12 (e12 : s_at t12 = s_at t10) (o12 : s_op t12 = s_op t10) => ?_)
        obtain ⟨a12, p12, h12, g12, w12, -⟩ := id i_t12
        have k12 : K (s_at t12) = K (s_at t10) := congrArg K e12
        exact Ok_ret ⟨i_t12, show s_at s ≤ s_at t12 from by omega, show s_op t12 = s_op s from by omega, show 0 < 16387 from by omega, (fun q => by cases q)⟩
      · refine Ok_put G i_t10 (by decide) (fun t13 i_t13 (e13 : s_at t13 = s_at t10) (o13 : s_op t13 = s_op t10) => ?_)
        obtain ⟨a13, p13, h13, g13, w13, -⟩ := id i_t13
        have k13 : K (s_at t13) = K (s_at t10) := congrArg K e13
        exact Ok_ret ⟨i_t13, show s_at s ≤ s_at t13 from by omega, show s_op t13 = s_op s from by omega, show 0 < 16387 from by omega, (fun q => by cases q)⟩
    · refine Ok_rc (R 55 (by decide) _ _ _ i_t1 (pkf pk_55) (pnf (by decide)) (by decide) (by decide) (rkl rk_55 (show 6 + 16 * (30 - (s_op t1)) < n from by omega))) bd_55 (fun v14 t14 i_t14 (e14 : s_at t1 ≤ s_at t14) (o14 : s_op t14 = s_op t1) b14 => ?_)
      obtain ⟨a14, p14, h14, g14, w14, -⟩ := id i_t14
      refine Ok_rc (R 76 (by decide) _ _ _ i_t14 (pkf pk_76) (pnf (by decide)) (by decide) (by decide) (rkl rk_76 (show 14 + 16 * (30 - (s_op t14)) < n from by omega))) bd_76 (fun v15 t15 i_t15 (e15 : s_at t14 ≤ s_at t15) (o15 : s_op t15 = s_op t14) b15 => ?_)
      obtain ⟨a15, p15, h15, g15, w15, -⟩ := id i_t15
      refine Ok_ife (show x1 < 2147483648 from by omega) (by decide) (fun q16 => ?_) (fun q16 => ?_)
      · refine Ok_put G i_t15 (by decide) (fun t17 i_t17 (e17 : s_at t17 = s_at t15) (o17 : s_op t17 = s_op t15) => ?_)
        obtain ⟨a17, p17, h17, g17, w17, -⟩ := id i_t17
        have k17 : K (s_at t17) = K (s_at t15) := congrArg K e17
        exact Ok_ret ⟨i_t17, show s_at s ≤ s_at t17 from by omega, show s_op t17 = s_op s from by omega, show 0 < 16387 from by omega, (fun q => by cases q)⟩
      · refine Ok_put G i_t15 (by decide) (fun t18 i_t18 (e18 : s_at t18 = s_at t15) (o18 : s_op t18 = s_op t15) => ?_)
        obtain ⟨a18, p18, h18, g18, w18, -⟩ := id i_t18
        have k18 : K (s_at t18) = K (s_at t15) := congrArg K e18
        exact Ok_ret ⟨i_t18, show s_at s ≤ s_at t18 from by omega, show s_op t18 = s_op s from by omega, show 0 < 16387 from by omega, (fun q => by cases q)⟩
