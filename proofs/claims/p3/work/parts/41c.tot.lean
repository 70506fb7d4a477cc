/-! The methods of the parser, one by one. -/
theorem T_X1_params {cnt N : Nat} {K : Nat → Nat} (G : Kg cnt N K) {n : Nat} {rc : Nat → Nat → Nat → Ss → Rs Ss} (R : Sp cnt N K n rc) {s : Ss} (i_s : Iv cnt N s) (hm : 0 + 16 * (30 - s_op s) < n + 1) : Ok (Po cnt N K s (s_op s) 16387 false) (Iv cnt N) (b_X1_params K N rc s) := by
  obtain ⟨hc, hN, hk, hz9⟩ := id G
  obtain ⟨a0, p0, h0, g0, w0, -⟩ := id i_s
  unfold b_X1_params
  refine Ok_enter G i_s (by decide) (by decide) (fun t1 i_t1 (e1 : s_at t1 = s_at s + 1) (o1 : s_op t1 = s_op s + 1) => ?_)
  obtain ⟨a1, p1, h1, g1, w1, -⟩ := id i_t1
  refine Ok_imp (T_lp_X1_params_17 G R LF (s_at s) 0 0 0 1 _ i_t1 (show 16387 ≤ LF + 0 from by unfold LF; omega) (show 0 ≤ 16386 from by omega) (show 1 ≤ (s_op t1) from by omega) (show 0 ≤ 0 from by omega) (show s_at s < 16387 from by omega) (by decide) (by decide) (by decide) (by decide) (show 1 + 16 * (30 - (s_op t1)) < n from by omega)) (fun v2 t2 z2 => ?_)
  obtain ⟨i_t2, e2, o2, b2, x2⟩ := z2
  have e2 : s_at t1 ≤ s_at t2 := e2
  have o2 : s_op t2 = (s_op t1) - 1 := o2
  exact ⟨i_t2, by omega, by omega, by omega, (fun q => by cases q)⟩
theorem T_X1_param {cnt N : Nat} {K : Nat → Nat} (G : Kg cnt N K) {n : Nat} {rc : Nat → Nat → Nat → Ss → Rs Ss} (R : Sp cnt N K n rc) {x1 : Nat} {x2 : Nat} {s : Ss} (i_s : Iv cnt N s) (hx1 : x1 < 16387) (hx2 : x2 < 16387) (hm : 1 + 16 * (30 - s_op s) < n + 1) : Ok (Po cnt N K s (s_op s) 16387 false) (Iv cnt N) (b_X1_param K N rc x1 x2 s) := by
  obtain ⟨hc, hN, hk, hz9⟩ := id G
  obtain ⟨a0, p0, h0, g0, w0, -⟩ := id i_s
  unfold b_X1_param
  refine Ok_sees G (by decide) (fun (q1 : K (s_at s) = 1) => ?_) (fun (q1 : K (s_at s) ≠ 1) => ?_)
  · refine Ok_ifz1 ?_
    refine Ok_ife (show x1 < 2147483648 from by omega) (by decide) (fun q2 => ?_) (fun q2 => ?_)
    · refine Ok_ife (show x1 < 2147483648 from by omega) (by decide) (fun q3 => ?_) (fun q3 => ?_)
      · exact Ok_er i_s
      · refine Ok_sees G (by decide) (fun (q4 : K (s_at s) = 77) => ?_) (fun (q4 : K (s_at s) ≠ 77) => ?_)
        · refine Ok_ifz1 ?_
          refine Ok_putLeaf G i_s (show K (s_at s) ≠ 0 from by omega) (fun t5 i_t5 (e5 : s_at t5 = s_at s + 1) (o5 : s_op t5 = s_op s) => ?_)
          obtain ⟨a5, p5, h5, g5, w5, -⟩ := id i_t5
          refine Ok_rc (R 26 (by decide) _ _ _ i_t5 (pkf pk_26) (pnf (by decide)) (by decide) (by decide) (rkl rk_26 (show 0 + 16 * (30 - (s_op t5)) < n from by omega))) bd_26 (fun v6 t6 i_t6 (e6 : s_at t5 ≤ s_at t6) (o6 : s_op t6 = s_op t5) b6 => ?_)
          obtain ⟨a6, p6, h6, g6, w6, -⟩ := id i_t6
          refine Ok_put G i_t6 (by decide) (fun t7 i_t7 (e7 : s_at t7 = s_at t6) (o7 : s_op t7 = s_op t6) => ?_)
          obtain ⟨a7, p7, h7, g7, w7, -⟩ := id i_t7
          have k7 : K (s_at t7) = K (s_at t6) := congrArg K e7
          exact Ok_ret ⟨i_t7, show s_at s ≤ s_at t7 from by omega, show s_op t7 = s_op s from by omega, show 2 < 16387 from by omega, (fun q => by cases q)⟩
        · refine Ok_ifz0 ?_
          refine Ok_rc (R 26 (by decide) _ _ _ i_s (pkf pk_26) (pnf (by decide)) (by decide) (by decide) (rkl rk_26 (show 0 + 16 * (30 - (s_op s)) < n from by omega))) bd_26 (fun v8 t8 i_t8 (e8 : s_at s ≤ s_at t8) (o8 : s_op t8 = s_op s) b8 => ?_)
          obtain ⟨a8, p8, h8, g8, w8, -⟩ := id i_t8
          refine Ok_put G i_t8 (by decide) (fun t9 i_t9 (e9 : s_at t9 = s_at t8) (o9 : s_op t9 = s_op t8) => ?_)
          obtain ⟨a9, p9, h9, g9, w9, -⟩ := id i_t9
          have k9 : K (s_at t9) = K (s_at t8) := congrArg K e9
          exact Ok_ret ⟨i_t9, show s_at s ≤ s_at t9 from by omega, show s_op t9 = s_op s from by omega, show 2 < 16387 from by omega, (fun q => by cases q)⟩
    · refine Ok_name G i_s (fun t10 i_t10 (e10 : s_at t10 = s_at s + 1) (o10 : s_op t10 = s_op s) => ?_)
      obtain ⟨a10, p10, h10, g10, w10, -⟩ := id i_t10
      refine Ok_sees G (by decide) (fun (q11 : K (s_at t10) = 77) => ?_) (fun (q11 : K (s_at t10) ≠ 77) => ?_)
      · refine Ok_ifz1 ?_
        refine Ok_ifz (show x2 < 2147483648 from by omega) (fun q12 => ?_) (fun q12 => ?_)
        · refine Ok_sees G (by decide) (fun (q13 : K (s_at t10) = 77) => ?_) (fun (q13 : K (s_at t10) ≠ 77) => ?_)
          · refine Ok_ifz1 ?_
            refine Ok_putLeaf G i_t10 (show K (s_at t10) ≠ 0 from by omega) (fun t14 i_t14 (e14 : s_at t14 = s_at t10 + 1) (o14 : s_op t14 = s_op t10) => ?_)
            obtain ⟨a14, p14, h14, g14, w14, -⟩ := id i_t14
            refine Ok_rc (R 26 (by decide) _ _ _ i_t14 (pkf pk_26) (pnf (by decide)) (by decide) (by decide) (rkl rk_26 (show 0 + 16 * (30 - (s_op t14)) < n from by omega))) bd_26 (fun v15 t15 i_t15 (e15 : s_at t14 ≤ s_at t15) (o15 : s_op t15 = s_op t14) b15 => ?_)
            obtain ⟨a15, p15, h15, g15, w15, -⟩ := id i_t15
            refine Ok_put G i_t15 (by decide) (fun t16 i_t16 (e16 : s_at t16 = s_at t15) (o16 : s_op t16 = s_op t15) => ?_)
            obtain ⟨a16, p16, h16, g16, w16, -⟩ := id i_t16
            have k16 : K (s_at t16) = K (s_at t15) := congrArg K e16
            exact Ok_ret ⟨i_t16, show s_at s ≤ s_at t16 from by omega, show s_op t16 = s_op s from by omega, show 1 < 16387 from by omega, (fun q => by cases q)⟩
          · refine Ok_ifz0 ?_
            refine Ok_rc (R 26 (by decide) _ _ _ i_t10 (pkf pk_26) (pnf (by decide)) (by decide) (by decide) (rkl rk_26 (show 0 + 16 * (30 - (s_op t10)) < n from by omega))) bd_26 (fun v17 t17 i_t17 (e17 : s_at t10 ≤ s_at t17) (o17 : s_op t17 = s_op t10) b17 => ?_)
            obtain ⟨a17, p17, h17, g17, w17, -⟩ := id i_t17
            refine Ok_put G i_t17 (by decide) (fun t18 i_t18 (e18 : s_at t18 = s_at t17) (o18 : s_op t18 = s_op t17) => ?_)
            obtain ⟨a18, p18, h18, g18, w18, -⟩ := id i_t18
            have k18 : K (s_at t18) = K (s_at t17) := congrArg K e18
            exact Ok_ret ⟨i_t18, show s_at s ≤ s_at t18 from by omega, show s_op t18 = s_op s from by omega, show 1 < 16387 from by omega, (fun q => by cases q)⟩
        · refine Ok_sees G (by decide) (fun (q19 : K (s_at t10) = 77) => ?_) (fun (q19 : K (s_at t10) ≠ 77) => ?_)
          · refine Ok_ifz1 ?_
            exact Ok_er i_t10
          · refine Ok_ifz0 ?_
            refine Ok_sees G (by decide) (fun (q20 : K (s_at t10) = 77) => ?_) (fun (q20 : K (s_at t10) ≠ 77) => ?_)
            · refine Ok_ifz1 ?_
              refine Ok_putLeaf G i_t10 (show K (s_at t10) ≠ 0 from by omega) (fun t21 i_t21 (e21 : s_at t21 = s_at t10 + 1) (o21 : s_op t21 = s_op t10) => ?_)
              obtain ⟨a21, p21, h21, g21, w21, -⟩ := id i_t21
              refine Ok_rc (R 26 (by decide) _ _ _ i_t21 (pkf pk_26) (pnf (by decide)) (by decide) (by decide) (rkl rk_26 (show 0 + 16 * (30 - (s_op t21)) < n from by omega))) bd_26 (fun v22 t22 i_t22 (e22 : s_at t21 ≤ s_at t22) (o22 : s_op t22 = s_op t21) b22 => ?_)
              obtain ⟨a22, p22, h22, g22, w22, -⟩ := id i_t22
              refine Ok_put G i_t22 (by decide) (fun t23 i_t23 (e23 : s_at t23 = s_at t22) (o23 : s_op t23 = s_op t22) => ?_)
              obtain ⟨a23, p23, h23, g23, w23, -⟩ := id i_t23
              have k23 : K (s_at t23) = K (s_at t22) := congrArg K e23
              exact Ok_ret ⟨i_t23, show s_at s ≤ s_at t23 from by omega, show s_op t23 = s_op s from by omega, show 1 < 16387 from by omega, (fun q => by cases q)⟩
            · refine Ok_ifz0 ?_
              refine Ok_rc (R 26 (by decide) _ _ _ i_t10 (pkf pk_26) (pnf (by decide)) (by decide) (by decide) (rkl rk_26 (show 0 + 16 * (30 - (s_op t10)) < n from by omega))) bd_26 (fun v24 t24 i_t24 (e24 : s_at t10 ≤ s_at t24) (o24 : s_op t24 = s_op t10) b24 => ?_)
              obtain ⟨a24, p24, h24, g24, w24, -⟩ := id i_t24
              refine Ok_put G i_t24 (by decide) (fun t25 i_t25 (e25 : s_at t25 = s_at t24) (o25 : s_op t25 = s_op t24) => ?_)
              obtain ⟨a25, p25, h25, g25, w25, -⟩ := id i_t25
              have k25 : K (s_at t25) = K (s_at t24) := congrArg K e25
              exact Ok_ret ⟨i_t25, show s_at s ≤ s_at t25 from by omega, show s_op t25 = s_op s from by omega, show 1 < 16387 from by omega, (fun q => by cases q)⟩
      · refine Ok_ifz0 ?_
        refine Ok_ck (G.b _) ?_
        refine Ok_ifz (Nat.lt_trans (fb_beginsType _) (by decide)) (fun q26 => ?_) (fun q26 => ?_)
        · refine Ok_put G i_t10 (by decide) (fun t27 i_t27 (e27 : s_at t27 = s_at t10) (o27 : s_op t27 = s_op t10) => ?_)
          obtain ⟨a27, p27, h27, g27, w27, -⟩ := id i_t27
          have k27 : K (s_at t27) = K (s_at t10) := congrArg K e27
          exact Ok_ret ⟨i_t27, show s_at s ≤ s_at t27 from by omega, show s_op t27 = s_op s from by omega, show 0 < 16387 from by omega, (fun q => by cases q)⟩
        · have q26n := fn_beginsType q26
          refine Ok_ifz (show x2 < 2147483648 from by omega) (fun q28 => ?_) (fun q28 => ?_)
          · refine Ok_sees G (by decide) (fun (q29 : K (s_at t10) = 77) => ?_) (fun (q29 : K (s_at t10) ≠ 77) => ?_)
            · refine Ok_ifz1 ?_
              refine Ok_putLeaf G i_t10 (show K (s_at t10) ≠ 0 from by omega) (fun t30 i_t30 (e30 : s_at t30 = s_at t10 + 1) (o30 : s_op t30 = s_op t10) => ?_)
              obtain ⟨a30, p30, h30, g30, w30, -⟩ := id i_t30
              refine Ok_rc (R 26 (by decide) _ _ _ i_t30 (pkf pk_26) (pnf (by decide)) (by decide) (by decide) (rkl rk_26 (show 0 + 16 * (30 - (s_op t30)) < n from by omega))) bd_26 (fun v31 t31 i_t31 (e31 : s_at t30 ≤ s_at t31) (o31 : s_op t31 = s_op t30) b31 => ?_)
              obtain ⟨a31, p31, h31, g31, w31, -⟩ := id i_t31
              refine Ok_put G i_t31 (by decide) (fun t32 i_t32 (e32 : s_at t32 = s_at t31) (o32 : s_op t32 = s_op t31) => ?_)
              obtain ⟨a32, p32, h32, g32, w32, -⟩ := id i_t32
              have k32 : K (s_at t32) = K (s_at t31) := congrArg K e32
              exact Ok_ret ⟨i_t32, show s_at s ≤ s_at t32 from by omega, show s_op t32 = s_op s from by omega, show 1 < 16387 from by omega, (fun q => by cases q)⟩
            · refine Ok_ifz0 ?_
              refine Ok_rc (R 26 (by decide) _ _ _ i_t10 (pkf pk_26) (pnf (by decide)) (by decide) (by decide) (rkl rk_26 (show 0 + 16 * (30 - (s_op t10)) < n from by omega))) bd_26 (fun v33 t33 i_t33 (e33 : s_at t10 ≤ s_at t33) (o33 : s_op t33 = s_op t10) b33 => ?_)
              obtain ⟨a33, p33, h33, g33, w33, -⟩ := id i_t33
              refine Ok_put G i_t33 (by decide) (fun t34 i_t34 (e34 : s_at t34 = s_at t33) (o34 : s_op t34 = s_op t33) => ?_)
              obtain ⟨a34, p34, h34, g34, w34, -⟩ := id i_t34
              have k34 : K (s_at t34) = K (s_at t33) := congrArg K e34
              exact Ok_ret ⟨i_t34, show s_at s ≤ s_at t34 from by omega, show s_op t34 = s_op s from by omega, show 1 < 16387 from by omega, (fun q => by cases q)⟩
          · refine Ok_sees G (by decide) (fun (q35 : K (s_at t10) = 77) => ?_) (fun (q35 : K (s_at t10) ≠ 77) => ?_)
            · refine Ok_ifz1 ?_
              exact Ok_er i_t10
            · refine Ok_ifz0 ?_
              refine Ok_sees G (by decide) (fun (q36 : K (s_at t10) = 77) => ?_) (fun (q36 : K (s_at t10) ≠ 77) => ?_)
              · refine Ok_ifz1 ?_
                refine Ok_putLeaf G i_t10 (show K (s_at t10) ≠ 0 from by omega) (fun t37 i_t37 (e37 : s_at t37 = s_at t10 + 1) (o37 : s_op t37 = s_op t10) => ?_)
                obtain ⟨a37, p37, h37, g37, w37, -⟩ := id i_t37
                refine Ok_rc (R 26 (by decide) _ _ _ i_t37 (pkf pk_26) (pnf (by decide)) (by decide) (by decide) (rkl rk_26 (show 0 + 16 * (30 - (s_op t37)) < n from by omega))) bd_26 (fun v38 t38 i_t38 (e38 : s_at t37 ≤ s_at t38) (o38 : s_op t38 = s_op t37) b38 => ?_)
                obtain ⟨a38, p38, h38, g38, w38, -⟩ := id i_t38
                refine Ok_put G i_t38 (by decide) (fun t39 i_t39 (e39 : s_at t39 = s_at t38) (o39 : s_op t39 = s_op t38) => ?_)
                obtain ⟨a39, p39, h39, g39, w39, -⟩ := id i_t39
                have k39 : K (s_at t39) = K (s_at t38) := congrArg K e39
                exact Ok_ret ⟨i_t39, show s_at s ≤ s_at t39 from by omega, show s_op t39 = s_op s from by omega, show 1 < 16387 from by omega, (fun q => by cases q)⟩
              · refine Ok_ifz0 ?_
                refine Ok_rc (R 26 (by decide) _ _ _ i_t10 (pkf pk_26) (pnf (by decide)) (by decide) (by decide) (rkl rk_26 (show 0 + 16 * (30 - (s_op t10)) < n from by omega))) bd_26 (fun v40 t40 i_t40 (e40 : s_at t10 ≤ s_at t40) (o40 : s_op t40 = s_op t10) b40 => ?_)
                obtain ⟨a40, p40, h40, g40, w40, -⟩ := id i_t40
                refine Ok_put G i_t40 (by decide) (fun t41 i_t41 (e41 : s_at t41 = s_at t40) (o41 : s_op t41 = s_op t40) => ?_)
                obtain ⟨a41, p41, h41, g41, w41, -⟩ := id i_t41
                have k41 : K (s_at t41) = K (s_at t40) := congrArg K e41
                exact Ok_ret ⟨i_t41, show s_at s ≤ s_at t41 from by omega, show s_op t41 = s_op s from by omega, show 1 < 16387 from by omega, (fun q => by cases q)⟩
  · refine Ok_ifz0 ?_
    refine Ok_ife (show x1 < 2147483648 from by omega) (by decide) (fun q42 => ?_) (fun q42 => ?_)
    · exact Ok_er i_s
    · refine Ok_sees G (by decide) (fun (q43 : K (s_at s) = 77) => ?_) (fun (q43 : K (s_at s) ≠ 77) => ?_)
      · refine Ok_ifz1 ?_
        refine Ok_putLeaf G i_s (show K (s_at s) ≠ 0 from by omega) (fun t44 i_t44 (e44 : s_at t44 = s_at s + 1) (o44 : s_op t44 = s_op s) => ?_)
        obtain ⟨a44, p44, h44, g44, w44, -⟩ := id i_t44
        refine Ok_rc (R 26 (by decide) _ _ _ i_t44 (pkf pk_26) (pnf (by decide)) (by decide) (by decide) (rkl rk_26 (show 0 + 16 * (30 - (s_op t44)) < n from by omega))) bd_26 (fun v45 t45 i_t45 (e45 : s_at t44 ≤ s_at t45) (o45 : s_op t45 = s_op t44) b45 => ?_)
        obtain ⟨a45, p45, h45, g45, w45, -⟩ := id i_t45
        refine Ok_put G i_t45 (by decide) (fun t46 i_t46 (e46 : s_at t46 = s_at t45) (o46 : s_op t46 = s_op t45) => ?_)
        obtain ⟨a46, p46, h46, g46, w46, -⟩ := id i_t46
        have k46 : K (s_at t46) = K (s_at t45) := congrArg K e46
        exact Ok_ret ⟨i_t46, show s_at s ≤ s_at t46 from by omega, show s_op t46 = s_op s from by omega, show 2 < 16387 from by omega, (fun q => by cases q)⟩
      · refine Ok_ifz0 ?_
        refine Ok_rc (R 26 (by decide) _ _ _ i_s (pkf pk_26) (pnf (by decide)) (by decide) (by decide) (rkl rk_26 (show 0 + 16 * (30 - (s_op s)) < n from by omega))) bd_26 (fun v47 t47 i_t47 (e47 : s_at s ≤ s_at t47) (o47 : s_op t47 = s_op s) b47 => ?_)
        obtain ⟨a47, p47, h47, g47, w47, -⟩ := id i_t47
        refine Ok_put G i_t47 (by decide) (fun t48 i_t48 (e48 : s_at t48 = s_at t47) (o48 : s_op t48 = s_op t47) => ?_)
        obtain ⟨a48, p48, h48, g48, w48, -⟩ := id i_t48
        have k48 : K (s_at t48) = K (s_at t47) := congrArg K e48
        exact Ok_ret ⟨i_t48, show s_at s ≤ s_at t48 from by omega, show s_op t48 = s_op s from by omega, show 2 < 16387 from by omega, (fun q => by cases q)⟩
theorem T_X1_block {cnt N : Nat} {K : Nat → Nat} (G : Kg cnt N K) {n : Nat} {rc : Nat → Nat → Nat → Ss → Rs Ss} (R : Sp cnt N K n rc) {s : Ss} (i_s : Iv cnt N s) (hm : 0 + 16 * (30 - s_op s) < n + 1) : Ok (Po cnt N K s (s_op s) 16387 false) (Iv cnt N) (b_X1_block K N rc s) := by
  obtain ⟨hc, hN, hk, hz9⟩ := id G
  obtain ⟨a0, p0, h0, g0, w0, -⟩ := id i_s
  unfold b_X1_block
  refine Ok_enter G i_s (by decide) (by decide) (fun t1 i_t1 (e1 : s_at t1 = s_at s + 1) (o1 : s_op t1 = s_op s + 1) => ?_)
  obtain ⟨a1, p1, h1, g1, w1, -⟩ := id i_t1
  refine Ok_rc (R 48 (by decide) _ _ _ i_t1 (pkf pk_48) (pnf (by decide)) (by decide) (by decide) (rkl rk_48 (show 13 + 16 * (30 - (s_op t1)) < n from by omega))) bd_48 (fun v2 t2 i_t2 (e2 : s_at t1 ≤ s_at t2) (o2 : s_op t2 = s_op t1) b2 => ?_)
  obtain ⟨a2, p2, h2, g2, w2, -⟩ := id i_t2
  refine Ok_leave G i_t2 (by decide) (by decide) (show s_op t2 ≠ 0 from by omega) (fun t3 i_t3 (e3 : s_at t3 = s_at t2 + 1) (o3 : s_op t3 = s_op t2 - 1) => ?_)
  obtain ⟨a3, p3, h3, g3, w3, -⟩ := id i_t3
  refine Ok_put G i_t3 (show v2 < 20000 from by omega) (fun t4 i_t4 (e4 : s_at t4 = s_at t3) (o4 : s_op t4 = s_op t3) => ?_)
  obtain ⟨a4, p4, h4, g4, w4, -⟩ := id i_t4
  have k4 : K (s_at t4) = K (s_at t3) := congrArg K e4
  exact Ok_ret ⟨i_t4, show s_at s ≤ s_at t4 from by omega, show s_op t4 = s_op s from by omega, show 0 < 16387 from by omega, (fun q => by cases q)⟩
theorem T_lp_X1_stmts_6 {cnt N : Nat} {K : Nat → Nat} (G : Kg cnt N K) {n : Nat} {rc : Nat → Nat → Nat → Ss → Rs Ss} (R : Sp cnt N K n rc) : ∀ (f y1 y2 y3 : Nat) (s : Ss), Iv cnt N s → 16387 ≤ f + y3 → y3 ≤ 16386 → y1 ≤ y3 → y1 < 16387 → y2 < 16387 → y3 < 16387 → 12 + 16 * (30 - s_op s) < n → Ok (Po cnt N K s (s_op s) 16387 false) (Iv cnt N) (lp_X1_stmts_6 K N rc f y1 y2 y3 s) := by
  obtain ⟨hc, hN, hk, hz9⟩ := id G
  intro f
  induction f with
  | zero => intro y1 y2 y3 s i_s c1 c2 j0 hy1 hy2 hy3 hm; omega
  | succ f ih =>
    intro y1 y2 y3 s i_s c1 c2 j0 hy1 hy2 hy3 hm
    obtain ⟨a0, p0, h0, g0, w0, -⟩ := id i_s
    rw [lp_X1_stmts_6]
    refine Ok_ifl (show y3 < 2147483648 from by omega) (by decide) (fun q1 => ?_) (fun q1 => ?_)
    · refine Ok_ifz (show y2 < 2147483648 from by omega) (fun q2 => ?_) (fun q2 => ?_)
      · exact Ok_ret ⟨i_s, show s_at s ≤ s_at s from by omega, show s_op s = s_op s from by omega, show y1 < 16387 from by omega, (fun q => by cases q)⟩
      · refine Ok_rc (R 49 (by decide) _ _ _ i_s (pkf pk_49) (pnf (by decide)) (by decide) (by decide) (rkl rk_49 (show 12 + 16 * (30 - (s_op s)) < n from by omega))) bd_49 (fun v3 t3 i_t3 (e3 : s_at s ≤ s_at t3) (o3 : s_op t3 = s_op s) b3 => ?_)
        obtain ⟨a3, p3, h3, g3, w3, -⟩ := id i_t3
        refine Ok_ifz (show v3 < 2147483648 from by omega) (fun q4 => ?_) (fun q4 => ?_)
        · refine Ok_accept G i_t3 (by decide) (by decide) (fun t5 i_t5 (e5 : s_at t5 = s_at t3 + 1) (o5 : s_op t5 = s_op t3) => ?_) (fun (q6 : K (s_at t3) ≠ 85) => ?_)
          · obtain ⟨a5, p5, h5, g5, w5, -⟩ := id i_t5
            refine Ok_imp (ih y1 1 (y3 + 1) _ i_t5 (show 16387 ≤ f + (y3 + 1) from by omega) (show y3 + 1 ≤ 16386 from by omega) (show y1 ≤ (y3 + 1) from by omega) (show y1 < 16387 from by omega) (by decide) (show y3 + 1 < 16387 from by omega) (show 12 + 16 * (30 - (s_op t5)) < n from by omega)) (fun v7 t7 z7 => ?_)
            obtain ⟨i_t7, e7, o7, b7, x7⟩ := z7
            have e7 : s_at t5 ≤ s_at t7 := e7
            have o7 : s_op t7 = (s_op t5) := o7
            exact ⟨i_t7, by omega, by omega, by omega, (fun q => by cases q)⟩
          · refine Ok_imp (ih y1 0 (y3 + 1) _ i_t3 (show 16387 ≤ f + (y3 + 1) from by omega) (show y3 + 1 ≤ 16386 from by omega) (show y1 ≤ (y3 + 1) from by omega) (show y1 < 16387 from by omega) (by decide) (show y3 + 1 < 16387 from by omega) (show 12 + 16 * (30 - (s_op t3)) < n from by omega)) (fun v8 t8 z8 => ?_)
            obtain ⟨i_t8, e8, o8, b8, x8⟩ := z8
            have e8 : s_at t3 ≤ s_at t8 := e8
            have o8 : s_op t8 = (s_op t3) := o8
            exact ⟨i_t8, by omega, by omega, by omega, (fun q => by cases q)⟩
        · refine Ok_accept G i_t3 (by decide) (by decide) (fun t9 i_t9 (e9 : s_at t9 = s_at t3 + 1) (o9 : s_op t9 = s_op t3) => ?_) (fun (q10 : K (s_at t3) ≠ 85) => ?_)
          · obtain ⟨a9, p9, h9, g9, w9, -⟩ := id i_t9
            refine Ok_imp (ih (y1 + 1) 1 (y3 + 1) _ i_t9 (show 16387 ≤ f + (y3 + 1) from by omega) (show y3 + 1 ≤ 16386 from by omega) (show (y1 + 1) ≤ (y3 + 1) from by omega) (show y1 + 1 < 16387 from by omega) (by decide) (show y3 + 1 < 16387 from by omega) (show 12 + 16 * (30 - (s_op t9)) < n from by omega)) (fun v11 t11 z11 => ?_)
            obtain ⟨i_t11, e11, o11, b11, x11⟩ := z11
            have e11 : s_at t9 ≤ s_at t11 := e11
            have o11 : s_op t11 = (s_op t9) := o11
            exact ⟨i_t11, by omega, by omega, by omega, (fun q => by cases q)⟩
          · refine Ok_imp (ih (y1 + 1) 0 (y3 + 1) _ i_t3 (show 16387 ≤ f + (y3 + 1) from by omega) (show y3 + 1 ≤ 16386 from by omega) (show (y1 + 1) ≤ (y3 + 1) from by omega) (show y1 + 1 < 16387 from by omega) (by decide) (show y3 + 1 < 16387 from by omega) (show 12 + 16 * (30 - (s_op t3)) < n from by omega)) (fun v12 t12 z12 => ?_)
            obtain ⟨i_t12, e12, o12, b12, x12⟩ := z12
            have e12 : s_at t3 ≤ s_at t12 := e12
            have o12 : s_op t12 = (s_op t3) := o12
            exact ⟨i_t12, by omega, by omega, by omega, (fun q => by cases q)⟩
    · exact Ok_ret ⟨i_s, show s_at s ≤ s_at s from by omega, show s_op s = s_op s from by omega, show y1 < 16387 from by omega, (fun q => by cases q)⟩
theorem T_X1_stmts {cnt N : Nat} {K : Nat → Nat} (G : Kg cnt N K) {n : Nat} {rc : Nat → Nat → Nat → Ss → Rs Ss} (R : Sp cnt N K n rc) {s : Ss} (i_s : Iv cnt N s) (hm : 13 + 16 * (30 - s_op s) < n + 1) : Ok (Po cnt N K s (s_op s) 16387 false) (Iv cnt N) (b_X1_stmts K N rc s) := by
  obtain ⟨hc, hN, hk, hz9⟩ := id G
  obtain ⟨a0, p0, h0, g0, w0, -⟩ := id i_s
  unfold b_X1_stmts
  refine Ok_imp (T_lp_X1_stmts_6 G R LF 0 1 0 _ i_s (show 16387 ≤ LF + 0 from by unfold LF; omega) (show 0 ≤ 16386 from by omega) (show 0 ≤ 0 from by omega) (by decide) (by decide) (by decide) (show 12 + 16 * (30 - (s_op s)) < n from by omega)) (fun v1 t1 z1 => ?_)
  obtain ⟨i_t1, e1, o1, b1, x1⟩ := z1
  have e1 : s_at s ≤ s_at t1 := e1
  have o1 : s_op t1 = (s_op s) := o1
  exact ⟨i_t1, by omega, by omega, by omega, (fun q => by cases q)⟩
theorem T_X1_stmt {cnt N : Nat} {K : Nat → Nat} (G : Kg cnt N K) {n : Nat} {rc : Nat → Nat → Nat → Ss → Rs Ss} (R : Sp cnt N K n rc) {s : Ss} (i_s : Iv cnt N s) (hm : 12 + 16 * (30 - s_op s) < n + 1) : Ok (Po cnt N K s (s_op s) 2 false) (Iv cnt N) (b_X1_stmt K N rc s) := by
  obtain ⟨hc, hN, hk, hz9⟩ := id G
  obtain ⟨a0, p0, h0, g0, w0, -⟩ := id i_s
  unfold b_X1_stmt
  refine Ok_ck (G.b _) ?_
  refine Ok_ife (G.b _) (by decide) (fun q1 => ?_) (fun q1 => ?_)
  · refine Ok_rc (R 50 (by decide) _ _ _ i_s (pkt (show K (s_at s) ≠ 0 from by omega)) (pnf (by decide)) (by decide) (by decide) (rkl rk_50 (show 9 + 16 * (30 - (s_op s)) < n from by omega))) bd_50 (fun v2 t2 i_t2 (e2 : s_at s ≤ s_at t2) (o2 : s_op t2 = s_op s) b2 => ?_)
    obtain ⟨a2, p2, h2, g2, w2, -⟩ := id i_t2
    exact Ok_ret ⟨i_t2, show s_at s ≤ s_at t2 from by omega, show s_op t2 = s_op s from by omega, show 1 < 2 from by omega, (fun q => by cases q)⟩
  · refine Ok_ife (G.b _) (by decide) (fun q3 => ?_) (fun q3 => ?_)
    · refine Ok_rc (R 79 (by decide) _ _ _ i_s (pkt (show K (s_at s) ≠ 0 from by omega)) (pnf (by decide)) (by decide) (by decide) (rkl rk_79 (show 11 + 16 * (30 - (s_op s)) < n from by omega))) bd_79 (fun v4 t4 i_t4 (e4 : s_at s ≤ s_at t4) (o4 : s_op t4 = s_op s) b4 => ?_)
      obtain ⟨a4, p4, h4, g4, w4, -⟩ := id i_t4
      exact Ok_ret ⟨i_t4, show s_at s ≤ s_at t4 from by omega, show s_op t4 = s_op s from by omega, show 1 < 2 from by omega, (fun q => by cases q)⟩
    · refine Ok_ife (G.b _) (by decide) (fun q5 => ?_) (fun q5 => ?_)
      · refine Ok_rc (R 60 (by decide) _ _ _ i_s (pkt (show K (s_at s) ≠ 0 from by omega)) (pnf (by decide)) (by decide) (by decide) (rkl rk_60 (show 9 + 16 * (30 - (s_op s)) < n from by omega))) bd_60 (fun v6 t6 i_t6 (e6 : s_at s ≤ s_at t6) (o6 : s_op t6 = s_op s) b6 => ?_)
        obtain ⟨a6, p6, h6, g6, w6, -⟩ := id i_t6
        exact Ok_ret ⟨i_t6, show s_at s ≤ s_at t6 from by omega, show s_op t6 = s_op s from by omega, show 1 < 2 from by omega, (fun q => by cases q)⟩
      · refine Ok_ife (G.b _) (by decide) (fun q7 => ?_) (fun q7 => ?_)
        · refine Ok_rc (R 78 (by decide) _ _ _ i_s (pkt (show K (s_at s) ≠ 0 from by omega)) (pnf (by decide)) (by decide) (by decide) (rkl rk_78 (show 1 + 16 * (30 - (s_op s)) < n from by omega))) bd_78 (fun v8 t8 i_t8 (e8 : s_at s ≤ s_at t8) (o8 : s_op t8 = s_op s) b8 => ?_)
          obtain ⟨a8, p8, h8, g8, w8, -⟩ := id i_t8
          exact Ok_ret ⟨i_t8, show s_at s ≤ s_at t8 from by omega, show s_op t8 = s_op s from by omega, show 1 < 2 from by omega, (fun q => by cases q)⟩
        · refine Ok_ife (G.b _) (by decide) (fun q9 => ?_) (fun q9 => ?_)
          · refine Ok_rc (R 70 (by decide) _ _ _ i_s (pkt (show K (s_at s) ≠ 0 from by omega)) (pnf (by decide)) (by decide) (by decide) (rkl rk_70 (show 9 + 16 * (30 - (s_op s)) < n from by omega))) bd_70 (fun v10 t10 i_t10 (e10 : s_at s ≤ s_at t10) (o10 : s_op t10 = s_op s) b10 => ?_)
            obtain ⟨a10, p10, h10, g10, w10, -⟩ := id i_t10
            exact Ok_ret ⟨i_t10, show s_at s ≤ s_at t10 from by omega, show s_op t10 = s_op s from by omega, show 1 < 2 from by omega, (fun q => by cases q)⟩
          · refine Ok_ife (G.b _) (by decide) (fun q11 => ?_) (fun q11 => ?_)
            · refine Ok_rc (R 50 (by decide) _ _ _ i_s (pkt (show K (s_at s) ≠ 0 from by omega)) (pnf (by decide)) (by decide) (by decide) (rkl rk_50 (show 9 + 16 * (30 - (s_op s)) < n from by omega))) bd_50 (fun v12 t12 i_t12 (e12 : s_at s ≤ s_at t12) (o12 : s_op t12 = s_op s) b12 => ?_)
              obtain ⟨a12, p12, h12, g12, w12, -⟩ := id i_t12
              exact Ok_ret ⟨i_t12, show s_at s ≤ s_at t12 from by omega, show s_op t12 = s_op s from by omega, show 1 < 2 from by omega, (fun q => by cases q)⟩
            · refine Ok_ife (G.b _) (by decide) (fun q13 => ?_) (fun q13 => ?_)
              · refine Ok_rc (R 50 (by decide) _ _ _ i_s (pkt (show K (s_at s) ≠ 0 from by omega)) (pnf (by decide)) (by decide) (by decide) (rkl rk_50 (show 9 + 16 * (30 - (s_op s)) < n from by omega))) bd_50 (fun v14 t14 i_t14 (e14 : s_at s ≤ s_at t14) (o14 : s_op t14 = s_op s) b14 => ?_)
                obtain ⟨a14, p14, h14, g14, w14, -⟩ := id i_t14
                exact Ok_ret ⟨i_t14, show s_at s ≤ s_at t14 from by omega, show s_op t14 = s_op s from by omega, show 1 < 2 from by omega, (fun q => by cases q)⟩
              · refine Ok_ife (G.b _) (by decide) (fun q15 => ?_) (fun q15 => ?_)
                · refine Ok_rc (R 47 (by decide) _ _ _ i_s (pkf pk_47) (pnf (by decide)) (by decide) (by decide) (rkl rk_47 (show 0 + 16 * (30 - (s_op s)) < n from by omega))) bd_47 (fun v16 t16 i_t16 (e16 : s_at s ≤ s_at t16) (o16 : s_op t16 = s_op s) b16 => ?_)
                  obtain ⟨a16, p16, h16, g16, w16, -⟩ := id i_t16
                  exact Ok_ret ⟨i_t16, show s_at s ≤ s_at t16 from by omega, show s_op t16 = s_op s from by omega, show 1 < 2 from by omega, (fun q => by cases q)⟩
                · refine Ok_rc (R 83 (by decide) _ _ _ i_s (pkf pk_83) (pnf (by decide)) (by decide) (by decide) (rkl rk_83 (show 8 + 16 * (30 - (s_op s)) < n from by omega))) bd_83 (fun v17 t17 i_t17 (e17 : s_at s ≤ s_at t17) (o17 : s_op t17 = s_op s) b17 => ?_)
                  obtain ⟨a17, p17, h17, g17, w17, -⟩ := id i_t17
                  refine Ok_ifz (show v17 < 2147483648 from by omega) (fun q18 => ?_) (fun q18 => ?_)
                  · refine Ok_rc (R 88 (by decide) _ _ _ i_t17 (pkf pk_88) (pnf (by decide)) (by decide) (by decide) (rkl rk_88 (show 9 + 16 * (30 - (s_op t17)) < n from by omega))) bd_88 (fun v19 t19 i_t19 (e19 : s_at t17 ≤ s_at t19) (o19 : s_op t19 = s_op t17) b19 => ?_)
                    obtain ⟨a19, p19, h19, g19, w19, -⟩ := id i_t19
                    refine Ok_ifz (show v19 < 2147483648 from by omega) (fun q20 => ?_) (fun q20 => ?_)
                    · exact Ok_ret ⟨i_t19, show s_at s ≤ s_at t19 from by omega, show s_op t19 = s_op s from by omega, show 0 < 2 from by omega, (fun q => by cases q)⟩
                    · exact Ok_ret ⟨i_t19, show s_at s ≤ s_at t19 from by omega, show s_op t19 = s_op s from by omega, show 1 < 2 from by omega, (fun q => by cases q)⟩
                  · exact Ok_ret ⟨i_t17, show s_at s ≤ s_at t17 from by omega, show s_op t17 = s_op s from by omega, show 1 < 2 from by omega, (fun q => by cases q)⟩
theorem T_X1_decl {cnt N : Nat} {K : Nat → Nat} (G : Kg cnt N K) {n : Nat} {rc : Nat → Nat → Nat → Ss → Rs Ss} (R : Sp cnt N K n rc) {s : Ss} (i_s : Iv cnt N s) (hz : K (s_at s) ≠ 0) (hm : 9 + 16 * (30 - s_op s) < n + 1) : Ok (Po cnt N K s (s_op s) 16387 false) (Iv cnt N) (b_X1_decl K N rc s) := by
  obtain ⟨hc, hN, hk, hz9⟩ := id G
  obtain ⟨a0, p0, h0, g0, w0, -⟩ := id i_s
  unfold b_X1_decl
  refine Ok_take G i_s (show K (s_at s) ≠ 0 from by omega) (fun t1 i_t1 (e1 : s_at t1 = s_at s + 1) (o1 : s_op t1 = s_op s) => ?_)
  obtain ⟨a1, p1, h1, g1, w1, -⟩ := id i_t1
  refine Ok_sees G (by decide) (fun (q2 : K (s_at t1) = 78) => ?_) (fun (q2 : K (s_at t1) ≠ 78) => ?_)
  · refine Ok_ifz1 ?_
    refine Ok_rc (R 51 (by decide) _ _ _ i_t1 (pkf pk_51) (pnf (by decide)) (Nat.lt_trans (G.2.2.1 _) (by decide)) (by decide) (rkl rk_51 (show 0 + 16 * (30 - (s_op t1)) < n from by omega))) bd_51 (fun v3 t3 i_t3 (e3 : s_at t1 ≤ s_at t3) (o3 : s_op t3 = s_op t1) b3 => ?_)
    obtain ⟨a3, p3, h3, g3, w3, -⟩ := id i_t3
    refine Ok_ck (G.b _) ?_
    refine Ok_put G i_t3 (show v3 < 20000 from by omega) (fun t4 i_t4 (e4 : s_at t4 = s_at t3) (o4 : s_op t4 = s_op t3) => ?_)
    obtain ⟨a4, p4, h4, g4, w4, -⟩ := id i_t4
    have k4 : K (s_at t4) = K (s_at t3) := congrArg K e4
    exact Ok_ret ⟨i_t4, show s_at s ≤ s_at t4 from by omega, show s_op t4 = s_op s from by omega, show 0 < 16387 from by omega, (fun q => by cases q)⟩
  · refine Ok_ifz0 ?_
    refine Ok_rc (R 52 (by decide) _ _ _ i_t1 (pkf pk_52) (pnf (by decide)) (Nat.lt_trans (G.2.2.1 _) (by decide)) (by decide) (rkl rk_52 (show 8 + 16 * (30 - (s_op t1)) < n from by omega))) bd_52 (fun v5 t5 i_t5 (e5 : s_at t1 ≤ s_at t5) (o5 : s_op t5 = s_op t1) b5 => ?_)
    obtain ⟨a5, p5, h5, g5, w5, -⟩ := id i_t5
    refine Ok_ck (G.b _) ?_
    refine Ok_put G i_t5 (by decide) (fun t6 i_t6 (e6 : s_at t6 = s_at t5) (o6 : s_op t6 = s_op t5) => ?_)
    obtain ⟨a6, p6, h6, g6, w6, -⟩ := id i_t6
    have k6 : K (s_at t6) = K (s_at t5) := congrArg K e6
    exact Ok_ret ⟨i_t6, show s_at s ≤ s_at t6 from by omega, show s_op t6 = s_op s from by omega, show 0 < 16387 from by omega, (fun q => by cases q)⟩
theorem T_lp_X1_group_22 {cnt N : Nat} {K : Nat → Nat} (G : Kg cnt N K) {n : Nat} {rc : Nat → Nat → Nat → Ss → Rs Ss} (R : Sp cnt N K n rc) : ∀ (f y1 y2 y3 y4 : Nat) (s : Ss), Iv cnt N s → 16387 ≤ f + y3 → y3 ≤ 16386 → y2 < 2 → 1 ≤ s_op s → y1 < 16387 → y2 < 16387 → y3 < 16387 → y4 < 16387 → 8 + 16 * (30 - s_op s) < n → Ok (Po cnt N K s (s_op s - 1) 16387 false) (Iv cnt N) (lp_X1_group_22 K N rc f y1 y2 y3 y4 s) := by
  obtain ⟨hc, hN, hk, hz9⟩ := id G
  intro f
  induction f with
  | zero => intro y1 y2 y3 y4 s i_s c1 c2 j0 j1 hy1 hy2 hy3 hy4 hm; omega
  | succ f ih =>
    intro y1 y2 y3 y4 s i_s c1 c2 j0 j1 hy1 hy2 hy3 hy4 hm
    obtain ⟨a0, p0, h0, g0, w0, -⟩ := id i_s
    rw [lp_X1_group_22]
    refine Ok_ifl (show y3 < 2147483648 from by omega) (by decide) (fun q1 => ?_) (fun q1 => ?_)
    · refine Ok_ifz (show y4 < 2147483648 from by omega) (fun q2 => ?_) (fun q2 => ?_)
      · refine Ok_leave G i_s (by decide) (by decide) (show s_op s ≠ 0 from by omega) (fun t3 i_t3 (e3 : s_at t3 = s_at s + 1) (o3 : s_op t3 = s_op s - 1) => ?_)
        obtain ⟨a3, p3, h3, g3, w3, -⟩ := id i_t3
        refine Ok_ck (show y2 < 2 from by omega) ?_
        exact Ok_ret ⟨(Iv_ih i_t3 (show y2 < 2 from by omega)), show s_at s ≤ s_at t3 from by omega, show s_op t3 = s_op s - 1 from by omega, show y3 < 16387 from by omega, (fun q => by cases q)⟩
      · refine Ok_sees G (by decide) (fun (q4 : K (s_at s) = 1) => ?_) (fun (q4 : K (s_at s) ≠ 1) => ?_)
        · refine Ok_ifz1 ?_
          refine Ok_rc (R 52 (by decide) _ _ _ i_s (pkf pk_52) (pnf (by decide)) (show y1 < 16387 from by omega) (by decide) (rkl rk_52 (show 8 + 16 * (30 - (s_op s)) < n from by omega))) bd_52 (fun v5 t5 i_t5 (e5 : s_at s ≤ s_at t5) (o5 : s_op t5 = s_op s) b5 => ?_)
          obtain ⟨a5, p5, h5, g5, w5, -⟩ := id i_t5
          refine Ok_accept G i_t5 (by decide) (by decide) (fun t6 i_t6 (e6 : s_at t6 = s_at t5 + 1) (o6 : s_op t6 = s_op t5) => ?_) (fun (q7 : K (s_at t5) ≠ 85) => ?_)
          · obtain ⟨a6, p6, h6, g6, w6, -⟩ := id i_t6
            refine Ok_imp (ih y1 y2 (y3 + 1) 1 _ i_t6 (show 16387 ≤ f + (y3 + 1) from by omega) (show y3 + 1 ≤ 16386 from by omega) (show y2 < 2 from by omega) (show 1 ≤ (s_op t6) from by omega) (show y1 < 16387 from by omega) (show y2 < 16387 from by omega) (show y3 + 1 < 16387 from by omega) (by decide) (show 8 + 16 * (30 - (s_op t6)) < n from by omega)) (fun v8 t8 z8 => ?_)
            obtain ⟨i_t8, e8, o8, b8, x8⟩ := z8
            have e8 : s_at t6 ≤ s_at t8 := e8
            have o8 : s_op t8 = (s_op t6) - 1 := o8
            exact ⟨i_t8, by omega, by omega, by omega, (fun q => by cases q)⟩
          · refine Ok_imp (ih y1 y2 (y3 + 1) 0 _ i_t5 (show 16387 ≤ f + (y3 + 1) from by omega) (show y3 + 1 ≤ 16386 from by omega) (show y2 < 2 from by omega) (show 1 ≤ (s_op t5) from by omega) (show y1 < 16387 from by omega) (show y2 < 16387 from by omega) (show y3 + 1 < 16387 from by omega) (by decide) (show 8 + 16 * (30 - (s_op t5)) < n from by omega)) (fun v9 t9 z9 => ?_)
            obtain ⟨i_t9, e9, o9, b9, x9⟩ := z9
            have e9 : s_at t5 ≤ s_at t9 := e9
            have o9 : s_op t9 = (s_op t5) - 1 := o9
            exact ⟨i_t9, by omega, by omega, by omega, (fun q => by cases q)⟩
        · refine Ok_ifz0 ?_
          refine Ok_leave G i_s (by decide) (by decide) (show s_op s ≠ 0 from by omega) (fun t10 i_t10 (e10 : s_at t10 = s_at s + 1) (o10 : s_op t10 = s_op s - 1) => ?_)
          obtain ⟨a10, p10, h10, g10, w10, -⟩ := id i_t10
          refine Ok_ck (show y2 < 2 from by omega) ?_
          exact Ok_ret ⟨(Iv_ih i_t10 (show y2 < 2 from by omega)), show s_at s ≤ s_at t10 from by omega, show s_op t10 = s_op s - 1 from by omega, show y3 < 16387 from by omega, (fun q => by cases q)⟩
    · refine Ok_leave G i_s (by decide) (by decide) (show s_op s ≠ 0 from by omega) (fun t11 i_t11 (e11 : s_at t11 = s_at s + 1) (o11 : s_op t11 = s_op s - 1) => ?_)
      obtain ⟨a11, p11, h11, g11, w11, -⟩ := id i_t11
      refine Ok_ck (show y2 < 2 from by omega) ?_
      exact Ok_ret ⟨(Iv_ih i_t11 (show y2 < 2 from by omega)), show s_at s ≤ s_at t11 from by omega, show s_op t11 = s_op s - 1 from by omega, show y3 < 16387 from by omega, (fun q => by cases q)⟩
theorem T_X1_group {cnt N : Nat} {K : Nat → Nat} (G : Kg cnt N K) {n : Nat} {rc : Nat → Nat → Nat → Ss → Rs Ss} (R : Sp cnt N K n rc) {x1 : Nat} {s : Ss} (i_s : Iv cnt N s) (hx1 : x1 < 16387) (hm : 0 + 16 * (30 - s_op s) < n + 1) : Ok (Po cnt N K s (s_op s) 16387 false) (Iv cnt N) (b_X1_group K N rc x1 s) := by
  obtain ⟨hc, hN, hk, hz9⟩ := id G
  obtain ⟨a0, p0, h0, g0, w0, -⟩ := id i_s
  unfold b_X1_group
  refine Ok_enter G i_s (by decide) (by decide) (fun t1 i_t1 (e1 : s_at t1 = s_at s + 1) (o1 : s_op t1 = s_op s + 1) => ?_)
  obtain ⟨a1, p1, h1, g1, w1, -⟩ := id i_t1
  refine Ok_imp (T_lp_X1_group_22 G R LF x1 (s_ih s) 0 1 _ (Iv_ih i_t1 (show 0 < 2 from by omega)) (show 16387 ≤ LF + 0 from by unfold LF; omega) (show 0 ≤ 16386 from by omega) (show (s_ih s) < 2 from by omega) (show 1 ≤ (s_op t1) from by omega) (show x1 < 16387 from by omega) (show s_ih s < 16387 from by omega) (by decide) (by decide) (show 8 + 16 * (30 - (s_op t1)) < n from by omega)) (fun v2 t2 z2 => ?_)
  obtain ⟨i_t2, e2, o2, b2, x2⟩ := z2
  have e2 : s_at t1 ≤ s_at t2 := e2
  have o2 : s_op t2 = (s_op t1) - 1 := o2
  exact ⟨i_t2, by omega, by omega, by omega, (fun q => by cases q)⟩
theorem T_X1_spec {cnt N : Nat} {K : Nat → Nat} (G : Kg cnt N K) {n : Nat} {rc : Nat → Nat → Nat → Ss → Rs Ss} (R : Sp cnt N K n rc) {x1 : Nat} {s : Ss} (i_s : Iv cnt N s) (hx1 : x1 < 16387) (hm : 8 + 16 * (30 - s_op s) < n + 1) : Ok (Po cnt N K s (s_op s) 16387 false) (Iv cnt N) (b_X1_spec K N rc x1 s) := by
  obtain ⟨hc, hN, hk, hz9⟩ := id G
  obtain ⟨a0, p0, h0, g0, w0, -⟩ := id i_s
  unfold b_X1_spec
  refine Ok_ck (show x1 < 2147483648 from by omega) ?_
  refine Ok_ife (show x1 < 2147483648 from by omega) (by decide) (fun q1 => ?_) (fun q1 => ?_)
  · refine Ok_rc (R 53 (by decide) _ _ _ i_s (pkf pk_53) (pnf (by decide)) (by decide) (by decide) (rkl rk_53 (show 7 + 16 * (30 - (s_op s)) < n from by omega))) bd_53 (fun v2 t2 i_t2 (e2 : s_at s ≤ s_at t2) (o2 : s_op t2 = s_op s) b2 => ?_)
    obtain ⟨a2, p2, h2, g2, w2, -⟩ := id i_t2
    exact Ok_ret ⟨i_t2, show s_at s ≤ s_at t2 from by omega, show s_op t2 = s_op s from by omega, show 0 < 16387 from by omega, (fun q => by cases q)⟩
  · refine Ok_ife (show x1 < 2147483648 from by omega) (by decide) (fun q3 => ?_) (fun q3 => ?_)
    · refine Ok_rc (R 57 (by decide) _ _ _ i_s (pkf pk_57) (pnf (by decide)) (by decide) (by decide) (rkl rk_57 (show 1 + 16 * (30 - (s_op s)) < n from by omega))) bd_57 (fun v4 t4 i_t4 (e4 : s_at s ≤ s_at t4) (o4 : s_op t4 = s_op s) b4 => ?_)
      obtain ⟨a4, p4, h4, g4, w4, -⟩ := id i_t4
      exact Ok_ret ⟨i_t4, show s_at s ≤ s_at t4 from by omega, show s_op t4 = s_op s from by omega, show 0 < 16387 from by omega, (fun q => by cases q)⟩
    · refine Ok_rc (R 58 (by decide) _ _ _ i_s (pkf pk_58) (pnf (by decide)) (by decide) (by decide) (rkl rk_58 (show 7 + 16 * (30 - (s_op s)) < n from by omega))) bd_58 (fun v5 t5 i_t5 (e5 : s_at s ≤ s_at t5) (o5 : s_op t5 = s_op s) b5 => ?_)
      obtain ⟨a5, p5, h5, g5, w5, -⟩ := id i_t5
      exact Ok_ret ⟨i_t5, show s_at s ≤ s_at t5 from by omega, show s_op t5 = s_op s from by omega, show 0 < 16387 from by omega, (fun q => by cases q)⟩
theorem T_X1_constSpec {cnt N : Nat} {K : Nat → Nat} (G : Kg cnt N K) {n : Nat} {rc : Nat → Nat → Nat → Ss → Rs Ss} (R : Sp cnt N K n rc) {s : Ss} (i_s : Iv cnt N s) (hm : 7 + 16 * (30 - s_op s) < n + 1) : Ok (Po cnt N K s (s_op s) 16387 false) (Iv cnt N) (b_X1_constSpec K N rc s) := by
  obtain ⟨hc, hN, hk, hz9⟩ := id G
  obtain ⟨a0, p0, h0, g0, w0, -⟩ := id i_s
  unfold b_X1_constSpec
  refine Ok_rc (R 54 (by decide) _ _ _ i_s (pkf pk_54) (pnf (by decide)) (by decide) (by decide) (rkl rk_54 (show 0 + 16 * (30 - (s_op s)) < n from by omega))) bd_54 (fun v1 t1 i_t1 (e1 : s_at s ≤ s_at t1) (o1 : s_op t1 = s_op s) b1 => ?_)
  obtain ⟨a1, p1, h1, g1, w1, -⟩ := id i_t1
  refine Ok_ck (G.b _) ?_
  refine Ok_ifz (Nat.lt_trans (fb_beginsType _) (by decide)) (fun q2 => ?_) (fun q2 => ?_)
  · refine Ok_accept G i_t1 (by decide) (by decide) (fun t3 i_t3 (e3 : s_at t3 = s_at t1 + 1) (o3 : s_op t3 = s_op t1) => ?_) (fun (q4 : K (s_at t1) ≠ 70) => ?_)
    · obtain ⟨a3, p3, h3, g3, w3, -⟩ := id i_t3
      refine Ok_ifz1 ?_
      refine Ok_rc (R 55 (by decide) _ _ _ i_t3 (pkf pk_55) (pnf (by decide)) (by decide) (by decide) (rkl rk_55 (show 6 + 16 * (30 - (s_op t3)) < n from by omega))) bd_55 (fun v5 t5 i_t5 (e5 : s_at t3 ≤ s_at t5) (o5 : s_op t5 = s_op t3) b5 => ?_)
      obtain ⟨a5, p5, h5, g5, w5, -⟩ := id i_t5
      refine Ok_put G i_t5 (by decide) (fun t6 i_t6 (e6 : s_at t6 = s_at t5) (o6 : s_op t6 = s_op t5) => ?_)
      obtain ⟨a6, p6, h6, g6, w6, -⟩ := id i_t6
      have k6 : K (s_at t6) = K (s_at t5) := congrArg K e6
      exact Ok_ret ⟨i_t6, show s_at s ≤ s_at t6 from by omega, show s_op t6 = s_op s from by omega, show 0 < 16387 from by omega, (fun q => by cases q)⟩
    · refine Ok_ifz0 ?_
      refine Ok_put G i_t1 (by decide) (fun t7 i_t7 (e7 : s_at t7 = s_at t1) (o7 : s_op t7 = s_op t1) => ?_)
      obtain ⟨a7, p7, h7, g7, w7, -⟩ := id i_t7
      have k7 : K (s_at t7) = K (s_at t1) := congrArg K e7
      exact Ok_ret ⟨i_t7, show s_at s ≤ s_at t7 from by omega, show s_op t7 = s_op s from by omega, show 0 < 16387 from by omega, (fun q => by cases q)⟩
  · have q2n := fn_beginsType q2
    refine Ok_rc (R 26 (by decide) _ _ _ i_t1 (pkf pk_26) (pnf (by decide)) (by decide) (by decide) (rkl rk_26 (show 0 + 16 * (30 - (s_op t1)) < n from by omega))) bd_26 (fun v8 t8 i_t8 (e8 : s_at t1 ≤ s_at t8) (o8 : s_op t8 = s_op t1) b8 => ?_)
    obtain ⟨a8, p8, h8, g8, w8, -⟩ := id i_t8
    refine Ok_sees G (by decide) (fun (q9 : K (s_at t8) = 70) => ?_) (fun (q9 : K (s_at t8) ≠ 70) => ?_)
    · refine Ok_ifz1 ?_
      refine Ok_accept G i_t8 (by decide) (by decide) (fun t10 i_t10 (e10 : s_at t10 = s_at t8 + 1) (o10 : s_op t10 = s_op t8) => ?_) (fun (q11 : K (s_at t8) ≠ 70) => ?_)
      · obtain ⟨a10, p10, h10, g10, w10, -⟩ := id i_t10
        refine Ok_ifz1 ?_
        refine Ok_rc (R 55 (by decide) _ _ _ i_t10 (pkf pk_55) (pnf (by decide)) (by decide) (by decide) (rkl rk_55 (show 6 + 16 * (30 - (s_op t10)) < n from by omega))) bd_55 (fun v12 t12 i_t12 (e12 : s_at t10 ≤ s_at t12) (o12 : s_op t12 = s_op t10) b12 => ?_)
        obtain ⟨a12, p12, h12, g12, w12, -⟩ := id i_t12
        refine Ok_put G i_t12 (by decide) (fun t13 i_t13 (e13 : s_at t13 = s_at t12) (o13 : s_op t13 = s_op t12) => ?_)
        obtain ⟨a13, p13, h13, g13, w13, -⟩ := id i_t13
        have k13 : K (s_at t13) = K (s_at t12) := congrArg K e13
        exact Ok_ret ⟨i_t13, show s_at s ≤ s_at t13 from by omega, show s_op t13 = s_op s from by omega, show 0 < 16387 from by omega, (fun q => by cases q)⟩
      · refine Ok_ifz0 ?_
        refine Ok_put G i_t8 (by decide) (fun t14 i_t14 (e14 : s_at t14 = s_at t8) (o14 : s_op t14 = s_op t8) => ?_)
        obtain ⟨a14, p14, h14, g14, w14, -⟩ := id i_t14
        have k14 : K (s_at t14) = K (s_at t8) := congrArg K e14
        exact Ok_ret ⟨i_t14, show s_at s ≤ s_at t14 from by omega, show s_op t14 = s_op s from by omega, show 0 < 16387 from by omega, (fun q => by cases q)⟩
    · refine Ok_ifz0 ?_
      exact Ok_er i_t8
theorem T_lp_X1_names_11 {cnt N : Nat} {K : Nat → Nat} (G : Kg cnt N K) {n : Nat} {rc : Nat → Nat → Nat → Ss → Rs Ss} (R : Sp cnt N K n rc) : ∀ (f y1 y2 : Nat) (s : Ss), Iv cnt N s → 16387 ≤ f + y2 → y2 ≤ 16386 → y1 < 16387 → y2 < 16387 → Ok (Po cnt N K s (s_op s) 16387 false) (Iv cnt N) (lp_X1_names_11 K N rc f y1 y2 s) := by
  obtain ⟨hc, hN, hk, hz9⟩ := id G
  intro f
  induction f with
  | zero => intro y1 y2 s i_s c1 c2 hy1 hy2; omega
  | succ f ih =>
    intro y1 y2 s i_s c1 c2 hy1 hy2
    obtain ⟨a0, p0, h0, g0, w0, -⟩ := id i_s
    rw [lp_X1_names_11]
    refine Ok_ifl (show y2 < 2147483648 from by omega) (by decide) (fun q1 => ?_) (fun q1 => ?_)
    · refine Ok_accept G i_s (by decide) (by decide) (fun t2 i_t2 (e2 : s_at t2 = s_at s + 1) (o2 : s_op t2 = s_op s) => ?_) (fun (q3 : K (s_at s) ≠ 84) => ?_)
      · obtain ⟨a2, p2, h2, g2, w2, -⟩ := id i_t2
        refine Ok_ifz1 ?_
        refine Ok_name G i_t2 (fun t4 i_t4 (e4 : s_at t4 = s_at t2 + 1) (o4 : s_op t4 = s_op t2) => ?_)
        obtain ⟨a4, p4, h4, g4, w4, -⟩ := id i_t4
        refine Ok_imp (ih y1 (y2 + 1) _ i_t4 (show 16387 ≤ f + (y2 + 1) from by omega) (show y2 + 1 ≤ 16386 from by omega) (show y1 < 16387 from by omega) (show y2 + 1 < 16387 from by omega)) (fun v5 t5 z5 => ?_)
        obtain ⟨i_t5, e5, o5, b5, x5⟩ := z5
        have e5 : s_at t4 ≤ s_at t5 := e5
        have o5 : s_op t5 = (s_op t4) := o5
        exact ⟨i_t5, by omega, by omega, by omega, (fun q => by cases q)⟩
      · refine Ok_ifz0 ?_
        refine Ok_put G i_s (show y2 < 20000 from by omega) (fun t6 i_t6 (e6 : s_at t6 = s_at s) (o6 : s_op t6 = s_op s) => ?_)
        obtain ⟨a6, p6, h6, g6, w6, -⟩ := id i_t6
        have k6 : K (s_at t6) = K (s_at s) := congrArg K e6
        exact Ok_ret ⟨i_t6, show s_at s ≤ s_at t6 from by omega, show s_op t6 = s_op s from by omega, show 0 < 16387 from by omega, (fun q => by cases q)⟩
    · refine Ok_put G i_s (show y2 < 20000 from by omega) (fun t7 i_t7 (e7 : s_at t7 = s_at s) (o7 : s_op t7 = s_op s) => ?_)
      obtain ⟨a7, p7, h7, g7, w7, -⟩ := id i_t7
      have k7 : K (s_at t7) = K (s_at s) := congrArg K e7
      exact Ok_ret ⟨i_t7, show s_at s ≤ s_at t7 from by omega, show s_op t7 = s_op s from by omega, show 0 < 16387 from by omega, (fun q => by cases q)⟩
theorem T_X1_names {cnt N : Nat} {K : Nat → Nat} (G : Kg cnt N K) {n : Nat} {rc : Nat → Nat → Nat → Ss → Rs Ss} (R : Sp cnt N K n rc) {s : Ss} (i_s : Iv cnt N s) (hm : 0 + 16 * (30 - s_op s) < n + 1) : Ok (Po cnt N K s (s_op s) 16387 false) (Iv cnt N) (b_X1_names K N rc s) := by
  obtain ⟨hc, hN, hk, hz9⟩ := id G
  obtain ⟨a0, p0, h0, g0, w0, -⟩ := id i_s
  unfold b_X1_names
  refine Ok_name G i_s (fun t1 i_t1 (e1 : s_at t1 = s_at s + 1) (o1 : s_op t1 = s_op s) => ?_)
  obtain ⟨a1, p1, h1, g1, w1, -⟩ := id i_t1
  refine Ok_imp (T_lp_X1_names_11 G R LF (s_at s) 1 _ i_t1 (show 16387 ≤ LF + 1 from by unfold LF; omega) (show 1 ≤ 16386 from by omega) (show s_at s < 16387 from by omega) (by decide)) (fun v2 t2 z2 => ?_)
  obtain ⟨i_t2, e2, o2, b2, x2⟩ := z2
  have e2 : s_at t1 ≤ s_at t2 := e2
  have o2 : s_op t2 = (s_op t1) := o2
  exact ⟨i_t2, by omega, by omega, by omega, (fun q => by cases q)⟩
theorem T_X1_exprs {cnt N : Nat} {K : Nat → Nat} (G : Kg cnt N K) {n : Nat} {rc : Nat → Nat → Nat → Ss → Rs Ss} (R : Sp cnt N K n rc) {s : Ss} (i_s : Iv cnt N s) (hm : 6 + 16 * (30 - s_op s) < n + 1) : Ok (Po cnt N K s (s_op s) 16387 false) (Iv cnt N) (b_X1_exprs K N rc s) := by
  obtain ⟨hc, hN, hk, hz9⟩ := id G
  obtain ⟨a0, p0, h0, g0, w0, -⟩ := id i_s
  unfold b_X1_exprs
  refine Ok_rc (R 29 (by decide) _ _ _ i_s (pkf pk_29) (pnf (by decide)) (by decide) (by decide) (rkl rk_29 (show 4 + 16 * (30 - (s_op s)) < n from by omega))) bd_29 (fun v1 t1 i_t1 (e1 : s_at s ≤ s_at t1) (o1 : s_op t1 = s_op s) b1 => ?_)
  obtain ⟨a1, p1, h1, g1, w1, -⟩ := id i_t1
  refine Ok_rc (R 56 (by decide) _ _ _ i_t1 (pkf pk_56) (pnf (by decide)) (by decide) (show s_at s < 16387 from by omega) (rkl rk_56 (show 5 + 16 * (30 - (s_op t1)) < n from by omega))) bd_56 (fun v2 t2 i_t2 (e2 : s_at t1 ≤ s_at t2) (o2 : s_op t2 = s_op t1) b2 => ?_)
  obtain ⟨a2, p2, h2, g2, w2, -⟩ := id i_t2
  exact Ok_ret ⟨i_t2, show s_at s ≤ s_at t2 from by omega, show s_op t2 = s_op s from by omega, show 0 < 16387 from by omega, (fun q => by cases q)⟩
theorem T_lp_X1_restOfExprs_2 {cnt N : Nat} {K : Nat → Nat} (G : Kg cnt N K) {n : Nat} {rc : Nat → Nat → Nat → Ss → Rs Ss} (R : Sp cnt N K n rc) : ∀ (f y1 y2 y3 : Nat) (s : Ss), Iv cnt N s → 16387 ≤ f + y3 → y3 ≤ 16386 → y1 < 16387 → y2 < 16387 → y3 < 16387 → 4 + 16 * (30 - s_op s) < n → Ok (Po cnt N K s (s_op s) 16387 false) (Iv cnt N) (lp_X1_restOfExprs_2 K N rc f y1 y2 y3 s) := by
  obtain ⟨hc, hN, hk, hz9⟩ := id G
  intro f
  induction f with
  | zero => intro y1 y2 y3 s i_s c1 c2 hy1 hy2 hy3 hm; omega
  | succ f ih =>
    intro y1 y2 y3 s i_s c1 c2 hy1 hy2 hy3 hm
    obtain ⟨a0, p0, h0, g0, w0, -⟩ := id i_s
    rw [lp_X1_restOfExprs_2]
    refine Ok_ifl (show y3 < 2147483648 from by omega) (by decide) (fun q1 => ?_) (fun q1 => ?_)
    · refine Ok_ife (show y1 < 2147483648 from by omega) (by decide) (fun q2 => ?_) (fun q2 => ?_)
      · refine Ok_put G i_s (show y3 < 20000 from by omega) (fun t3 i_t3 (e3 : s_at t3 = s_at s) (o3 : s_op t3 = s_op s) => ?_)
        obtain ⟨a3, p3, h3, g3, w3, -⟩ := id i_t3
        have k3 : K (s_at t3) = K (s_at s) := congrArg K e3
        exact Ok_ret ⟨i_t3, show s_at s ≤ s_at t3 from by omega, show s_op t3 = s_op s from by omega, show 0 < 16387 from by omega, (fun q => by cases q)⟩
      · refine Ok_accept G i_s (by decide) (by decide) (fun t4 i_t4 (e4 : s_at t4 = s_at s + 1) (o4 : s_op t4 = s_op s) => ?_) (fun (q5 : K (s_at s) ≠ 84) => ?_)
        · obtain ⟨a4, p4, h4, g4, w4, -⟩ := id i_t4
          refine Ok_ifz1 ?_
          refine Ok_rc (R 29 (by decide) _ _ _ i_t4 (pkf pk_29) (pnf (by decide)) (by decide) (by decide) (rkl rk_29 (show 4 + 16 * (30 - (s_op t4)) < n from by omega))) bd_29 (fun v6 t6 i_t6 (e6 : s_at t4 ≤ s_at t6) (o6 : s_op t6 = s_op t4) b6 => ?_)
          obtain ⟨a6, p6, h6, g6, w6, -⟩ := id i_t6
          refine Ok_imp (ih y1 y2 (y3 + 1) _ i_t6 (show 16387 ≤ f + (y3 + 1) from by omega) (show y3 + 1 ≤ 16386 from by omega) (show y1 < 16387 from by omega) (show y2 < 16387 from by omega) (show y3 + 1 < 16387 from by omega) (show 4 + 16 * (30 - (s_op t6)) < n from by omega)) (fun v7 t7 z7 => ?_)
          obtain ⟨i_t7, e7, o7, b7, x7⟩ := z7
          have e7 : s_at t6 ≤ s_at t7 := e7
          have o7 : s_op t7 = (s_op t6) := o7
          exact ⟨i_t7, by omega, by omega, by omega, (fun q => by cases q)⟩
        · refine Ok_ifz0 ?_
          refine Ok_put G i_s (show y3 < 20000 from by omega) (fun t8 i_t8 (e8 : s_at t8 = s_at s) (o8 : s_op t8 = s_op s) => ?_)
          obtain ⟨a8, p8, h8, g8, w8, -⟩ := id i_t8
          have k8 : K (s_at t8) = K (s_at s) := congrArg K e8
          exact Ok_ret ⟨i_t8, show s_at s ≤ s_at t8 from by omega, show s_op t8 = s_op s from by omega, show 0 < 16387 from by omega, (fun q => by cases q)⟩
    · refine Ok_put G i_s (show y3 < 20000 from by omega) (fun t9 i_t9 (e9 : s_at t9 = s_at s) (o9 : s_op t9 = s_op s) => ?_)
      obtain ⟨a9, p9, h9, g9, w9, -⟩ := id i_t9
      have k9 : K (s_at t9) = K (s_at s) := congrArg K e9
      exact Ok_ret ⟨i_t9, show s_at s ≤ s_at t9 from by omega, show s_op t9 = s_op s from by omega, show 0 < 16387 from by omega, (fun q => by cases q)⟩
theorem T_X1_restOfExprs {cnt N : Nat} {K : Nat → Nat} (G : Kg cnt N K) {n : Nat} {rc : Nat → Nat → Nat → Ss → Rs Ss} (R : Sp cnt N K n rc) {x1 : Nat} {x2 : Nat} {s : Ss} (i_s : Iv cnt N s) (hx1 : x1 < 16387) (hx2 : x2 < 16387) (hm : 5 + 16 * (30 - s_op s) < n + 1) : Ok (Po cnt N K s (s_op s) 16387 false) (Iv cnt N) (b_X1_restOfExprs K N rc x1 x2 s) := by
  obtain ⟨hc, hN, hk, hz9⟩ := id G
  obtain ⟨a0, p0, h0, g0, w0, -⟩ := id i_s
  unfold b_X1_restOfExprs
  refine Ok_imp (T_lp_X1_restOfExprs_2 G R LF x1 x2 1 _ i_s (show 16387 ≤ LF + 1 from by unfold LF; omega) (show 1 ≤ 16386 from by omega) (show x1 < 16387 from by omega) (show x2 < 16387 from by omega) (by decide) (show 4 + 16 * (30 - (s_op s)) < n from by omega)) (fun v1 t1 z1 => ?_)
  obtain ⟨i_t1, e1, o1, b1, x1⟩ := z1
  have e1 : s_at s ≤ s_at t1 := e1
  have o1 : s_op t1 = (s_op s) := o1
  exact ⟨i_t1, by omega, by omega, by omega, (fun q => by cases q)⟩
theorem T_X1_typeSpec {cnt N : Nat} {K : Nat → Nat} (G : Kg cnt N K) {n : Nat} {rc : Nat → Nat → Nat → Ss → Rs Ss} (R : Sp cnt N K n rc) {s : Ss} (i_s : Iv cnt N s) (hm : 1 + 16 * (30 - s_op s) < n + 1) : Ok (Po cnt N K s (s_op s) 16387 false) (Iv cnt N) (b_X1_typeSpec K N rc s) := by
  obtain ⟨hc, hN, hk, hz9⟩ := id G
  obtain ⟨a0, p0, h0, g0, w0, -⟩ := id i_s
  unfold b_X1_typeSpec
  refine Ok_name G i_s (fun t1 i_t1 (e1 : s_at t1 = s_at s + 1) (o1 : s_op t1 = s_op s) => ?_)
  obtain ⟨a1, p1, h1, g1, w1, -⟩ := id i_t1
  refine Ok_rc (R 26 (by decide) _ _ _ i_t1 (pkf pk_26) (pnf (by decide)) (by decide) (by decide) (rkl rk_26 (show 0 + 16 * (30 - (s_op t1)) < n from by omega))) bd_26 (fun v2 t2 i_t2 (e2 : s_at t1 ≤ s_at t2) (o2 : s_op t2 = s_op t1) b2 => ?_)
  obtain ⟨a2, p2, h2, g2, w2, -⟩ := id i_t2
  refine Ok_put G i_t2 (by decide) (fun t3 i_t3 (e3 : s_at t3 = s_at t2) (o3 : s_op t3 = s_op t2) => ?_)
  obtain ⟨a3, p3, h3, g3, w3, -⟩ := id i_t3
  have k3 : K (s_at t3) = K (s_at t2) := congrArg K e3
  exact Ok_ret ⟨i_t3, show s_at s ≤ s_at t3 from by omega, show s_op t3 = s_op s from by omega, show 0 < 16387 from by omega, (fun q => by cases q)⟩
theorem T_X1_varSpec {cnt N : Nat} {K : Nat → Nat} (G : Kg cnt N K) {n : Nat} {rc : Nat → Nat → Nat → Ss → Rs Ss} (R : Sp cnt N K n rc) {s : Ss} (i_s : Iv cnt N s) (hm : 7 + 16 * (30 - s_op s) < n + 1) : Ok (Po cnt N K s (s_op s) 16387 false) (Iv cnt N) (b_X1_varSpec K N rc s) := by
  obtain ⟨hc, hN, hk, hz9⟩ := id G
  obtain ⟨a0, p0, h0, g0, w0, -⟩ := id i_s
  unfold b_X1_varSpec
  refine Ok_rc (R 54 (by decide) _ _ _ i_s (pkf pk_54) (pnf (by decide)) (by decide) (by decide) (rkl rk_54 (show 0 + 16 * (30 - (s_op s)) < n from by omega))) bd_54 (fun v1 t1 i_t1 (e1 : s_at s ≤ s_at t1) (o1 : s_op t1 = s_op s) b1 => ?_)
  obtain ⟨a1, p1, h1, g1, w1, -⟩ := id i_t1
  refine Ok_sees G (by decide) (fun (q2 : K (s_at t1) = 70) => ?_) (fun (q2 : K (s_at t1) ≠ 70) => ?_)
  · refine Ok_ifz1 ?_
    refine Ok_accept G i_t1 (by decide) (by decide) (fun t3 i_t3 (e3 : s_at t3 = s_at t1 + 1) (o3 : s_op t3 = s_op t1) => ?_) (fun (q4 : K (s_at t1) ≠ 70) => ?_)
    · obtain ⟨a3, p3, h3, g3, w3, -⟩ := id i_t3
      refine Ok_ifz1 ?_
      refine Ok_rc (R 55 (by decide) _ _ _ i_t3 (pkf pk_55) (pnf (by decide)) (by decide) (by decide) (rkl rk_55 (show 6 + 16 * (30 - (s_op t3)) < n from by omega))) bd_55 (fun v5 t5 i_t5 (e5 : s_at t3 ≤ s_at t5) (o5 : s_op t5 = s_op t3) b5 => ?_)
      obtain ⟨a5, p5, h5, g5, w5, -⟩ := id i_t5
      refine Ok_put G i_t5 (by decide) (fun t6 i_t6 (e6 : s_at t6 = s_at t5) (o6 : s_op t6 = s_op t5) => ?_)
      obtain ⟨a6, p6, h6, g6, w6, -⟩ := id i_t6
      have k6 : K (s_at t6) = K (s_at t5) := congrArg K e6
      exact Ok_ret ⟨i_t6, show s_at s ≤ s_at t6 from by omega, show s_op t6 = s_op s from by omega, show 0 < 16387 from by omega, (fun q => by cases q)⟩
    · refine Ok_ifz0 ?_
      refine Ok_put G i_t1 (by decide) (fun t7 i_t7 (e7 : s_at t7 = s_at t1) (o7 : s_op t7 = s_op t1) => ?_)
      obtain ⟨a7, p7, h7, g7, w7, -⟩ := id i_t7
      have k7 : K (s_at t7) = K (s_at t1) := congrArg K e7
      exact Ok_ret ⟨i_t7, show s_at s ≤ s_at t7 from by omega, show s_op t7 = s_op s from by omega, show 0 < 16387 from by omega, (fun q => by cases q)⟩
  · refine Ok_ifz0 ?_
    refine Ok_rc (R 26 (by decide) _ _ _ i_t1 (pkf pk_26) (pnf (by decide)) (by decide) (by decide) (rkl rk_26 (show 0 + 16 * (30 - (s_op t1)) < n from by omega))) bd_26 (fun v8 t8 i_t8 (e8 : s_at t1 ≤ s_at t8) (o8 : s_op t8 = s_op t1) b8 => ?_)
    obtain ⟨a8, p8, h8, g8, w8, -⟩ := id i_t8
    refine Ok_accept G i_t8 (by decide) (by decide) (fun t9 i_t9 (e9 : s_at t9 = s_at t8 + 1) (o9 : s_op t9 = s_op t8) => ?_) (fun (q10 : K (s_at t8) ≠ 70) => ?_)
    · obtain ⟨a9, p9, h9, g9, w9, -⟩ := id i_t9
      refine Ok_ifz1 ?_
      refine Ok_rc (R 55 (by decide) _ _ _ i_t9 (pkf pk_55) (pnf (by decide)) (by decide) (by decide) (rkl rk_55 (show 6 + 16 * (30 - (s_op t9)) < n from by omega))) bd_55 (fun v11 t11 i_t11 (e11 : s_at t9 ≤ s_at t11) (o11 : s_op t11 = s_op t9) b11 => ?_)
      obtain ⟨a11, p11, h11, g11, w11, -⟩ := id i_t11
      refine Ok_put G i_t11 (by decide) (fun t12 i_t12 (e12 : s_at t12 = s_at t11) (o12 : s_op t12 = s_op t11) => ?_)
      obtain ⟨a12, p12, h12, g12, w12, -⟩ := id i_t12
      have k12 : K (s_at t12) = K (s_at t11) := congrArg K e12
      exact Ok_ret ⟨i_t12, show s_at s ≤ s_at t12 from by omega, show s_op t12 = s_op s from by omega, show 0 < 16387 from by omega, (fun q => by cases q)⟩
    · refine Ok_ifz0 ?_
      refine Ok_put G i_t8 (by decide) (fun t13 i_t13 (e13 : s_at t13 = s_at t8) (o13 : s_op t13 = s_op t8) => ?_)
      obtain ⟨a13, p13, h13, g13, w13, -⟩ := id i_t13
      have k13 : K (s_at t13) = K (s_at t8) := congrArg K e13
      exact Ok_ret ⟨i_t13, show s_at s ≤ s_at t13 from by omega, show s_op t13 = s_op s from by omega, show 0 < 16387 from by omega, (fun q => by cases q)⟩
theorem T_X1_ifStmt {cnt N : Nat} {K : Nat → Nat} (G : Kg cnt N K) {n : Nat} {rc : Nat → Nat → Nat → Ss → Rs Ss} (R : Sp cnt N K n rc) {s : Ss} (i_s : Iv cnt N s) (hz : K (s_at s) ≠ 0) (hm : 9 + 16 * (30 - s_op s) < n + 1) : Ok (Po cnt N K s (s_op s) 16387 false) (Iv cnt N) (b_X1_ifStmt K N rc s) := by
  obtain ⟨hc, hN, hk, hz9⟩ := id G
  obtain ⟨a0, p0, h0, g0, w0, -⟩ := id i_s
  unfold b_X1_ifStmt
  refine Ok_take G i_s (show K (s_at s) ≠ 0 from by omega) (fun t1 i_t1 (e1 : s_at t1 = s_at s + 1) (o1 : s_op t1 = s_op s) => ?_)
  obtain ⟨a1, p1, h1, g1, w1, -⟩ := id i_t1
  refine Ok_rcF (R 61 (by decide) _ _ _ (Iv_ih i_t1 (show 1 < 2 from by omega)) (pkf pk_61) (pnf (by decide)) (by decide) (by decide) (rkl rk_61 (show 8 + 16 * (30 - (s_op t1)) < n from by omega))) bd_61 br_61 (fun v2 t2 i_t2 (e2 : s_at t1 ≤ s_at t2) (o2 : s_op t2 = s_op t1) b2 x2 => ?_)
  obtain ⟨a2, p2, h2, g2, w2, -⟩ := id i_t2
  refine Ok_ife (show v2 < 2147483648 from by omega) (by decide) (fun q3 => ?_) (fun q3 => ?_)
  · refine Ok_rc (R 29 (by decide) _ _ _ i_t2 (pkf pk_29) (pnf (by decide)) (by decide) (by decide) (rkl rk_29 (show 4 + 16 * (30 - (s_op t2)) < n from by omega))) bd_29 (fun v4 t4 i_t4 (e4 : s_at t2 ≤ s_at t4) (o4 : s_op t4 = s_op t2) b4 => ?_)
    obtain ⟨a4, p4, h4, g4, w4, -⟩ := id i_t4
    refine Ok_ck (show (s_ih t1) < 2 from by omega) ?_
    refine Ok_rc (R 47 (by decide) _ _ _ (Iv_ih i_t4 (show s_ih t1 < 2 from by omega)) (pkf pk_47) (pnf (by decide)) (by decide) (by decide) (rkl rk_47 (show 0 + 16 * (30 - (s_op t4)) < n from by omega))) bd_47 (fun v5 t5 i_t5 (e5 : s_at t4 ≤ s_at t5) (o5 : s_op t5 = s_op t4) b5 => ?_)
    obtain ⟨a5, p5, h5, g5, w5, -⟩ := id i_t5
    refine Ok_sees G (by decide) (fun (q6 : K (s_at t5) = 17) => ?_) (fun (q6 : K (s_at t5) ≠ 17) => ?_)
    · refine Ok_ifz1 ?_
      refine Ok_rc (R 69 (by decide) _ _ _ i_t5 (pkf pk_69) (pnf (by decide)) (by decide) (by decide) (rkl rk_69 (show 0 + 16 * (30 - (s_op t5)) < n from by omega))) bd_69 (fun v7 t7 i_t7 (e7 : s_at t5 ≤ s_at t7) (o7 : s_op t7 = s_op t5) b7 => ?_)
      obtain ⟨a7, p7, h7, g7, w7, -⟩ := id i_t7
      refine Ok_put G i_t7 (by decide) (fun t8 i_t8 (e8 : s_at t8 = s_at t7) (o8 : s_op t8 = s_op t7) => ?_)
      obtain ⟨a8, p8, h8, g8, w8, -⟩ := id i_t8
      have k8 : K (s_at t8) = K (s_at t7) := congrArg K e8
      exact Ok_ret ⟨i_t8, show s_at s ≤ s_at t8 from by omega, show s_op t8 = s_op s from by omega, show 0 < 16387 from by omega, (fun q => by cases q)⟩
    · refine Ok_ifz0 ?_
      refine Ok_put G i_t5 (by decide) (fun t9 i_t9 (e9 : s_at t9 = s_at t5) (o9 : s_op t9 = s_op t5) => ?_)
      obtain ⟨a9, p9, h9, g9, w9, -⟩ := id i_t9
      have k9 : K (s_at t9) = K (s_at t5) := congrArg K e9
      exact Ok_ret ⟨i_t9, show s_at s ≤ s_at t9 from by omega, show s_op t9 = s_op s from by omega, show 0 < 16387 from by omega, (fun q => by cases q)⟩
  · refine Ok_ck (show (s_ih t1) < 2 from by omega) ?_
    refine Ok_rc (R 47 (by decide) _ _ _ (Iv_ih i_t2 (show s_ih t1 < 2 from by omega)) (pkf pk_47) (pnf (by decide)) (by decide) (by decide) (rkl rk_47 (show 0 + 16 * (30 - (s_op t2)) < n from by omega))) bd_47 (fun v10 t10 i_t10 (e10 : s_at t2 ≤ s_at t10) (o10 : s_op t10 = s_op t2) b10 => ?_)
    obtain ⟨a10, p10, h10, g10, w10, -⟩ := id i_t10
    refine Ok_sees G (by decide) (fun (q11 : K (s_at t10) = 17) => ?_) (fun (q11 : K (s_at t10) ≠ 17) => ?_)
    · refine Ok_ifz1 ?_
      refine Ok_rc (R 69 (by decide) _ _ _ i_t10 (pkf pk_69) (pnf (by decide)) (by decide) (by decide) (rkl rk_69 (show 0 + 16 * (30 - (s_op t10)) < n from by omega))) bd_69 (fun v12 t12 i_t12 (e12 : s_at t10 ≤ s_at t12) (o12 : s_op t12 = s_op t10) b12 => ?_)
      obtain ⟨a12, p12, h12, g12, w12, -⟩ := id i_t12
      refine Ok_put G i_t12 (by decide) (fun t13 i_t13 (e13 : s_at t13 = s_at t12) (o13 : s_op t13 = s_op t12) => ?_)
      obtain ⟨a13, p13, h13, g13, w13, -⟩ := id i_t13
      have k13 : K (s_at t13) = K (s_at t12) := congrArg K e13
      exact Ok_ret ⟨i_t13, show s_at s ≤ s_at t13 from by omega, show s_op t13 = s_op s from by omega, show 0 < 16387 from by omega, (fun q => by cases q)⟩
    · refine Ok_ifz0 ?_
      refine Ok_put G i_t10 (by decide) (fun t14 i_t14 (e14 : s_at t14 = s_at t10) (o14 : s_op t14 = s_op t10) => ?_)
      obtain ⟨a14, p14, h14, g14, w14, -⟩ := id i_t14
      have k14 : K (s_at t14) = K (s_at t10) := congrArg K e14
      exact Ok_ret ⟨i_t14, show s_at s ≤ s_at t14 from by omega, show s_op t14 = s_op s from by omega, show 0 < 16387 from by omega, (fun q => by cases q)⟩
theorem T_X1_opening {cnt N : Nat} {K : Nat → Nat} (G : Kg cnt N K) {n : Nat} {rc : Nat → Nat → Nat → Ss → Rs Ss} (R : Sp cnt N K n rc) {x1 : Nat} {x2 : Nat} {s : Ss} (i_s : Iv cnt N s) (hx1 : x1 < 16387) (hx2 : x2 < 16387) (hm : 8 + 16 * (30 - s_op s) < n + 1) : Ok (Po cnt N K s (s_op s) 16387 true) (Iv cnt N) (b_X1_opening K N rc x1 x2 s) := by
  obtain ⟨hc, hN, hk, hz9⟩ := id G
  obtain ⟨a0, p0, h0, g0, w0, -⟩ := id i_s
  unfold b_X1_opening
  refine Ok_sees G (by decide) (fun (q1 : K (s_at s) = 85) => ?_) (fun (q1 : K (s_at s) ≠ 85) => ?_)
  · refine Ok_ifz1 ?_
    refine Ok_expect G i_s (by decide) (by decide) (fun t2 i_t2 (e2 : s_at t2 = s_at s + 1) (o2 : s_op t2 = s_op s) => ?_)
    obtain ⟨a2, p2, h2, g2, w2, -⟩ := id i_t2
    refine Ok_put G i_t2 (by decide) (fun t3 i_t3 (e3 : s_at t3 = s_at t2) (o3 : s_op t3 = s_op t2) => ?_)
    obtain ⟨a3, p3, h3, g3, w3, -⟩ := id i_t3
    have k3 : K (s_at t3) = K (s_at t2) := congrArg K e3
    exact Ok_ret ⟨i_t3, show s_at s ≤ s_at t3 from by omega, show s_op t3 = s_op s from by omega, show 1 < 16387 from by omega, (fun _ => show 1 ≠ 2 ∨ K (s_at t3) ≠ 0 from by omega)⟩
  · refine Ok_ifz0 ?_
    refine Ok_rcF (R 62 (by decide) _ _ _ i_s (pkf pk_62) (pnf (by decide)) (show x1 < 16387 from by omega) (by decide) (rkl rk_62 (show 7 + 16 * (30 - (s_op s)) < n from by omega))) bd_62 br_62 (fun v4 t4 i_t4 (e4 : s_at s ≤ s_at t4) (o4 : s_op t4 = s_op s) b4 x4 => ?_)
    obtain ⟨a4, p4, h4, g4, w4, -⟩ := id i_t4
    refine Ok_ifz (show v4 < 2147483648 from by omega) (fun q5 => ?_) (fun q5 => ?_)
    · refine Ok_sees G (by decide) (fun (q6 : K (s_at t4) = 85) => ?_) (fun (q6 : K (s_at t4) ≠ 85) => ?_)
      · refine Ok_ifz1 ?_
        refine Ok_put G i_t4 (by decide) (fun t7 i_t7 (e7 : s_at t7 = s_at t4) (o7 : s_op t7 = s_op t4) => ?_)
        obtain ⟨a7, p7, h7, g7, w7, -⟩ := id i_t7
        have k7 : K (s_at t7) = K (s_at t4) := congrArg K e7
        refine Ok_expect G i_t7 (by decide) (by decide) (fun t8 i_t8 (e8 : s_at t8 = s_at t7 + 1) (o8 : s_op t8 = s_op t7) => ?_)
        obtain ⟨a8, p8, h8, g8, w8, -⟩ := id i_t8
        refine Ok_put G i_t8 (by decide) (fun t9 i_t9 (e9 : s_at t9 = s_at t8) (o9 : s_op t9 = s_op t8) => ?_)
        obtain ⟨a9, p9, h9, g9, w9, -⟩ := id i_t9
        have k9 : K (s_at t9) = K (s_at t8) := congrArg K e9
        exact Ok_ret ⟨i_t9, show s_at s ≤ s_at t9 from by omega, show s_op t9 = s_op s from by omega, show 1 < 16387 from by omega, (fun _ => show 1 ≠ 2 ∨ K (s_at t9) ≠ 0 from by omega)⟩
      · refine Ok_ifz0 ?_
        refine Ok_ife (show v4 < 2147483648 from by omega) (by decide) (fun q10 => ?_) (fun q10 => ?_)
        · refine Ok_expect G i_t4 (by decide) (by decide) (fun t11 i_t11 (e11 : s_at t11 = s_at t4 + 1) (o11 : s_op t11 = s_op t4) => ?_)
          obtain ⟨a11, p11, h11, g11, w11, -⟩ := id i_t11
          refine Ok_put G i_t11 (by decide) (fun t12 i_t12 (e12 : s_at t12 = s_at t11) (o12 : s_op t12 = s_op t11) => ?_)
          obtain ⟨a12, p12, h12, g12, w12, -⟩ := id i_t12
          have k12 : K (s_at t12) = K (s_at t11) := congrArg K e12
          exact Ok_ret ⟨i_t12, show s_at s ≤ s_at t12 from by omega, show s_op t12 = s_op s from by omega, show 1 < 16387 from by omega, (fun _ => show 1 ≠ 2 ∨ K (s_at t12) ≠ 0 from by omega)⟩
        · exact Ok_ret ⟨i_t4, show s_at s ≤ s_at t4 from by omega, show s_op t4 = s_op s from by omega, show v4 < 16387 from by omega, (fun _ => show v4 ≠ 2 ∨ K (s_at t4) ≠ 0 from by omega)⟩
    · refine Ok_ife (show v4 < 2147483648 from by omega) (by decide) (fun q13 => ?_) (fun q13 => ?_)
      · refine Ok_expect G i_t4 (by decide) (by decide) (fun t14 i_t14 (e14 : s_at t14 = s_at t4 + 1) (o14 : s_op t14 = s_op t4) => ?_)
        obtain ⟨a14, p14, h14, g14, w14, -⟩ := id i_t14
        refine Ok_put G i_t14 (by decide) (fun t15 i_t15 (e15 : s_at t15 = s_at t14) (o15 : s_op t15 = s_op t14) => ?_)
        obtain ⟨a15, p15, h15, g15, w15, -⟩ := id i_t15
        have k15 : K (s_at t15) = K (s_at t14) := congrArg K e15
        exact Ok_ret ⟨i_t15, show s_at s ≤ s_at t15 from by omega, show s_op t15 = s_op s from by omega, show 1 < 16387 from by omega, (fun _ => show 1 ≠ 2 ∨ K (s_at t15) ≠ 0 from by omega)⟩
      · exact Ok_ret ⟨i_t4, show s_at s ≤ s_at t4 from by omega, show s_op t4 = s_op s from by omega, show v4 < 16387 from by omega, (fun _ => show v4 ≠ 2 ∨ K (s_at t4) ≠ 0 from by omega)⟩
