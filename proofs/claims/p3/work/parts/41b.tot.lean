/-! The methods of the parser, one by one. -/
theorem T_X1_unary {cnt N : Nat} {K : Nat → Nat} (G : Kg cnt N K) {n : Nat} {rc : Nat → Nat → Nat → Ss → Rs Ss} (R : Sp cnt N K n rc) {x1 : Nat} {s : Ss} (i_s : Iv cnt N s) (hx1 : x1 < 16387) (hm : 3 + 16 * (30 - s_op s) < n + 1) : Ok (Po cnt N K s (s_op s) 16387 false) (Iv cnt N) (b_X1_unary K N rc x1 s) := by
  obtain ⟨hc, hN, hk, hz9⟩ := id G
  obtain ⟨a0, p0, h0, g0, w0, -⟩ := id i_s
  unfold b_X1_unary
  refine Ok_imp (T_lp_X1_unary_7 G R LF x1 (s_at s) 0 _ i_s (show 16387 ≤ LF + 0 from by unfold LF; omega) (show 0 ≤ 16386 from by omega) (show 0 ≤ (s_op s) from by omega) (show x1 < 16387 from by omega) (show s_at s < 16387 from by omega) (by decide) (show 2 + 16 * (30 - (s_op s)) < n from by omega)) (fun v1 t1 z1 => ?_)
  obtain ⟨i_t1, e1, o1, b1, x1⟩ := z1
  have e1 : s_at s ≤ s_at t1 := e1
  have o1 : s_op t1 = (s_op s) - 0 := o1
  exact ⟨i_t1, by omega, by omega, by omega, (fun q => by cases q)⟩
theorem T_lp_X1_primary_8 {cnt N : Nat} {K : Nat → Nat} (G : Kg cnt N K) {n : Nat} {rc : Nat → Nat → Nat → Ss → Rs Ss} (R : Sp cnt N K n rc) : ∀ (f y1 y2 y3 : Nat) (s : Ss), Iv cnt N s → 16387 ≤ f + y3 → y3 ≤ 16386 → y1 < 16387 → y2 < 16387 → y3 < 16387 → 1 + 16 * (30 - s_op s) < n → Ok (Po cnt N K s (s_op s) 16387 false) (Iv cnt N) (lp_X1_primary_8 K N rc f y1 y2 y3 s) := by
  obtain ⟨hc, hN, hk, hz9⟩ := id G
  intro f
  induction f with
  | zero => intro y1 y2 y3 s i_s c1 c2 hy1 hy2 hy3 hm; omega
  | succ f ih =>
    intro y1 y2 y3 s i_s c1 c2 hy1 hy2 hy3 hm
    obtain ⟨a0, p0, h0, g0, w0, -⟩ := id i_s
    rw [lp_X1_primary_8]
    refine Ok_ifl (show y3 < 2147483648 from by omega) (by decide) (fun q1 => ?_) (fun q1 => ?_)
    · refine Ok_ifz (show y2 < 2147483648 from by omega) (fun q2 => ?_) (fun q2 => ?_)
      · exact Ok_ret ⟨i_s, show s_at s ≤ s_at s from by omega, show s_op s = s_op s from by omega, show 0 < 16387 from by omega, (fun q => by cases q)⟩
      · refine Ok_rc (R 91 (by decide) _ _ _ i_s (pkf pk_91) (pnf (by decide)) (show y1 < 16387 from by omega) (by decide) (rkl rk_91 (show 1 + 16 * (30 - (s_op s)) < n from by omega))) bd_91 (fun v3 t3 i_t3 (e3 : s_at s ≤ s_at t3) (o3 : s_op t3 = s_op s) b3 => ?_)
        obtain ⟨a3, p3, h3, g3, w3, -⟩ := id i_t3
        refine Ok_imp (ih y1 v3 (y3 + 1) _ i_t3 (show 16387 ≤ f + (y3 + 1) from by omega) (show y3 + 1 ≤ 16386 from by omega) (show y1 < 16387 from by omega) (show v3 < 16387 from by omega) (show y3 + 1 < 16387 from by omega) (show 1 + 16 * (30 - (s_op t3)) < n from by omega)) (fun v4 t4 z4 => ?_)
        obtain ⟨i_t4, e4, o4, b4, x4⟩ := z4
        have e4 : s_at t3 ≤ s_at t4 := e4
        have o4 : s_op t4 = (s_op t3) := o4
        exact ⟨i_t4, by omega, by omega, by omega, (fun q => by cases q)⟩
    · exact Ok_ret ⟨i_s, show s_at s ≤ s_at s from by omega, show s_op s = s_op s from by omega, show 0 < 16387 from by omega, (fun q => by cases q)⟩
theorem T_X1_primary {cnt N : Nat} {K : Nat → Nat} (G : Kg cnt N K) {n : Nat} {rc : Nat → Nat → Nat → Ss → Rs Ss} (R : Sp cnt N K n rc) {x1 : Nat} {s : Ss} (i_s : Iv cnt N s) (hx1 : x1 < 16387) (hm : 2 + 16 * (30 - s_op s) < n + 1) : Ok (Po cnt N K s (s_op s) 16387 false) (Iv cnt N) (b_X1_primary K N rc x1 s) := by
  obtain ⟨hc, hN, hk, hz9⟩ := id G
  obtain ⟨a0, p0, h0, g0, w0, -⟩ := id i_s
  unfold b_X1_primary
  refine Ok_rc (R 35 (by decide) _ _ _ i_s (pkf pk_35) (pnf (by decide)) (by decide) (by decide) (rkl rk_35 (show 1 + 16 * (30 - (s_op s)) < n from by omega))) bd_35 (fun v1 t1 i_t1 (e1 : s_at s ≤ s_at t1) (o1 : s_op t1 = s_op s) b1 => ?_)
  obtain ⟨a1, p1, h1, g1, w1, -⟩ := id i_t1
  refine Ok_imp (T_lp_X1_primary_8 G R LF x1 1 0 _ i_t1 (show 16387 ≤ LF + 0 from by unfold LF; omega) (show 0 ≤ 16386 from by omega) (show x1 < 16387 from by omega) (by decide) (by decide) (show 1 + 16 * (30 - (s_op t1)) < n from by omega)) (fun v2 t2 z2 => ?_)
  obtain ⟨i_t2, e2, o2, b2, x2⟩ := z2
  have e2 : s_at t1 ≤ s_at t2 := e2
  have o2 : s_op t2 = (s_op t1) := o2
  exact ⟨i_t2, by omega, by omega, by omega, (fun q => by cases q)⟩
theorem T_X1_operand {cnt N : Nat} {K : Nat → Nat} (G : Kg cnt N K) {n : Nat} {rc : Nat → Nat → Nat → Ss → Rs Ss} (R : Sp cnt N K n rc) {s : Ss} (i_s : Iv cnt N s) (hm : 1 + 16 * (30 - s_op s) < n + 1) : Ok (Po cnt N K s (s_op s) 16387 false) (Iv cnt N) (b_X1_operand K N rc s) := by
  obtain ⟨hc, hN, hk, hz9⟩ := id G
  obtain ⟨a0, p0, h0, g0, w0, -⟩ := id i_s
  unfold b_X1_operand
  refine Ok_ck (G.b _) ?_
  refine Ok_ife (G.b _) (by decide) (fun q1 => ?_) (fun q1 => ?_)
  · refine Ok_name G i_s (fun t2 i_t2 (e2 : s_at t2 = s_at s + 1) (o2 : s_op t2 = s_op s) => ?_)
    obtain ⟨a2, p2, h2, g2, w2, -⟩ := id i_t2
    refine Ok_ifz (show s_ih t2 < 2147483648 from by omega) (fun q3 => ?_) (fun q3 => ?_)
    · refine Ok_sees G (by decide) (fun (q4 : K (s_at t2) = 82) => ?_) (fun (q4 : K (s_at t2) ≠ 82) => ?_)
      · refine Ok_ifz1 ?_
        refine Ok_rc (R 37 (by decide) _ _ _ i_t2 (pkf pk_37) (pnf (by decide)) (by decide) (by decide) (rkl rk_37 (show 0 + 16 * (30 - (s_op t2)) < n from by omega))) bd_37 (fun v5 t5 i_t5 (e5 : s_at t2 ≤ s_at t5) (o5 : s_op t5 = s_op t2) b5 => ?_)
        obtain ⟨a5, p5, h5, g5, w5, -⟩ := id i_t5
        exact Ok_ret ⟨i_t5, show s_at s ≤ s_at t5 from by omega, show s_op t5 = s_op s from by omega, show 0 < 16387 from by omega, (fun q => by cases q)⟩
      · refine Ok_ifz0 ?_
        exact Ok_ret ⟨i_t2, show s_at s ≤ s_at t2 from by omega, show s_op t2 = s_op s from by omega, show 0 < 16387 from by omega, (fun q => by cases q)⟩
    · exact Ok_ret ⟨i_t2, show s_at s ≤ s_at t2 from by omega, show s_op t2 = s_op s from by omega, show 0 < 16387 from by omega, (fun q => by cases q)⟩
  · refine Ok_ife (G.b _) (by decide) (fun q6 => ?_) (fun q6 => ?_)
    · refine Ok_putLeaf G i_s (show K (s_at s) ≠ 0 from by omega) (fun t7 i_t7 (e7 : s_at t7 = s_at s + 1) (o7 : s_op t7 = s_op s) => ?_)
      obtain ⟨a7, p7, h7, g7, w7, -⟩ := id i_t7
      exact Ok_ret ⟨i_t7, show s_at s ≤ s_at t7 from by omega, show s_op t7 = s_op s from by omega, show 0 < 16387 from by omega, (fun q => by cases q)⟩
    · refine Ok_ife (G.b _) (by decide) (fun q8 => ?_) (fun q8 => ?_)
      · refine Ok_putLeaf G i_s (show K (s_at s) ≠ 0 from by omega) (fun t9 i_t9 (e9 : s_at t9 = s_at s + 1) (o9 : s_op t9 = s_op s) => ?_)
        obtain ⟨a9, p9, h9, g9, w9, -⟩ := id i_t9
        exact Ok_ret ⟨i_t9, show s_at s ≤ s_at t9 from by omega, show s_op t9 = s_op s from by omega, show 0 < 16387 from by omega, (fun q => by cases q)⟩
      · refine Ok_ife (G.b _) (by decide) (fun q10 => ?_) (fun q10 => ?_)
        · refine Ok_putLeaf G i_s (show K (s_at s) ≠ 0 from by omega) (fun t11 i_t11 (e11 : s_at t11 = s_at s + 1) (o11 : s_op t11 = s_op s) => ?_)
          obtain ⟨a11, p11, h11, g11, w11, -⟩ := id i_t11
          exact Ok_ret ⟨i_t11, show s_at s ≤ s_at t11 from by omega, show s_op t11 = s_op s from by omega, show 0 < 16387 from by omega, (fun q => by cases q)⟩
        · refine Ok_ife (G.b _) (by decide) (fun q12 => ?_) (fun q12 => ?_)
          · refine Ok_putLeaf G i_s (show K (s_at s) ≠ 0 from by omega) (fun t13 i_t13 (e13 : s_at t13 = s_at s + 1) (o13 : s_op t13 = s_op s) => ?_)
            obtain ⟨a13, p13, h13, g13, w13, -⟩ := id i_t13
            exact Ok_ret ⟨i_t13, show s_at s ≤ s_at t13 from by omega, show s_op t13 = s_op s from by omega, show 0 < 16387 from by omega, (fun q => by cases q)⟩
          · refine Ok_ife (G.b _) (by decide) (fun q14 => ?_) (fun q14 => ?_)
            · refine Ok_rc (R 26 (by decide) _ _ _ i_s (pkf pk_26) (pnf (by decide)) (by decide) (by decide) (rkl rk_26 (show 0 + 16 * (30 - (s_op s)) < n from by omega))) bd_26 (fun v15 t15 i_t15 (e15 : s_at s ≤ s_at t15) (o15 : s_op t15 = s_op s) b15 => ?_)
              obtain ⟨a15, p15, h15, g15, w15, -⟩ := id i_t15
              exact Ok_ret ⟨i_t15, show s_at s ≤ s_at t15 from by omega, show s_op t15 = s_op s from by omega, show 0 < 16387 from by omega, (fun q => by cases q)⟩
            · refine Ok_ife (G.b _) (by decide) (fun q16 => ?_) (fun q16 => ?_)
              · refine Ok_rc (R 43 (by decide) _ _ _ i_s (pkt (show K (s_at s) ≠ 0 from by omega)) (pnf (by decide)) (by decide) (by decide) (rkl rk_43 (show 0 + 16 * (30 - (s_op s)) < n from by omega))) bd_43 (fun v17 t17 i_t17 (e17 : s_at s ≤ s_at t17) (o17 : s_op t17 = s_op s) b17 => ?_)
                obtain ⟨a17, p17, h17, g17, w17, -⟩ := id i_t17
                exact Ok_ret ⟨i_t17, show s_at s ≤ s_at t17 from by omega, show s_op t17 = s_op s from by omega, show 0 < 16387 from by omega, (fun q => by cases q)⟩
              · refine Ok_ife (G.b _) (by decide) (fun q18 => ?_) (fun q18 => ?_)
                · refine Ok_rc (R 26 (by decide) _ _ _ i_s (pkf pk_26) (pnf (by decide)) (by decide) (by decide) (rkl rk_26 (show 0 + 16 * (30 - (s_op s)) < n from by omega))) bd_26 (fun v19 t19 i_t19 (e19 : s_at s ≤ s_at t19) (o19 : s_op t19 = s_op s) b19 => ?_)
                  obtain ⟨a19, p19, h19, g19, w19, -⟩ := id i_t19
                  exact Ok_ret ⟨i_t19, show s_at s ≤ s_at t19 from by omega, show s_op t19 = s_op s from by omega, show 0 < 16387 from by omega, (fun q => by cases q)⟩
                · refine Ok_ife (G.b _) (by decide) (fun q20 => ?_) (fun q20 => ?_)
                  · refine Ok_sees G (by decide) (fun (q21 : K (s_at s) = 80) => ?_) (fun (q21 : K (s_at s) ≠ 80) => ?_)
                    · refine Ok_ifz1 ?_
                      refine Ok_next G i_s ?_
                      refine Ok_ife (G.b _) (by decide) (fun q22 => ?_) (fun q22 => ?_)
                      · refine Ok_rc (R 90 (by decide) _ _ _ i_s (pkt (show K (s_at s) ≠ 0 from by omega)) (pkt (show K (s_at s + 1) ≠ 0 from by omega)) (by decide) (by decide) (rkl rk_90 (show 0 + 16 * (30 - (s_op s)) < n from by omega))) bd_90 (fun v23 t23 i_t23 (e23 : s_at s ≤ s_at t23) (o23 : s_op t23 = s_op s) b23 => ?_)
                        obtain ⟨a23, p23, h23, g23, w23, -⟩ := id i_t23
                        refine Ok_rc (R 37 (by decide) _ _ _ i_t23 (pkf pk_37) (pnf (by decide)) (by decide) (by decide) (rkl rk_37 (show 0 + 16 * (30 - (s_op t23)) < n from by omega))) bd_37 (fun v24 t24 i_t24 (e24 : s_at t23 ≤ s_at t24) (o24 : s_op t24 = s_op t23) b24 => ?_)
                        obtain ⟨a24, p24, h24, g24, w24, -⟩ := id i_t24
                        exact Ok_ret ⟨i_t24, show s_at s ≤ s_at t24 from by omega, show s_op t24 = s_op s from by omega, show 0 < 16387 from by omega, (fun q => by cases q)⟩
                      · refine Ok_rc (R 26 (by decide) _ _ _ i_s (pkf pk_26) (pnf (by decide)) (by decide) (by decide) (rkl rk_26 (show 0 + 16 * (30 - (s_op s)) < n from by omega))) bd_26 (fun v25 t25 i_t25 (e25 : s_at s ≤ s_at t25) (o25 : s_op t25 = s_op s) b25 => ?_)
                        obtain ⟨a25, p25, h25, g25, w25, -⟩ := id i_t25
                        refine Ok_sees G (by decide) (fun (q26 : K (s_at t25) = 82) => ?_) (fun (q26 : K (s_at t25) ≠ 82) => ?_)
                        · refine Ok_ifz1 ?_
                          refine Ok_rc (R 37 (by decide) _ _ _ i_t25 (pkf pk_37) (pnf (by decide)) (by decide) (by decide) (rkl rk_37 (show 0 + 16 * (30 - (s_op t25)) < n from by omega))) bd_37 (fun v27 t27 i_t27 (e27 : s_at t25 ≤ s_at t27) (o27 : s_op t27 = s_op t25) b27 => ?_)
                          obtain ⟨a27, p27, h27, g27, w27, -⟩ := id i_t27
                          exact Ok_ret ⟨i_t27, show s_at s ≤ s_at t27 from by omega, show s_op t27 = s_op s from by omega, show 0 < 16387 from by omega, (fun q => by cases q)⟩
                        · refine Ok_ifz0 ?_
                          exact Ok_ret ⟨i_t25, show s_at s ≤ s_at t25 from by omega, show s_op t25 = s_op s from by omega, show 0 < 16387 from by omega, (fun q => by cases q)⟩
                    · refine Ok_ifz0 ?_
                      refine Ok_rc (R 26 (by decide) _ _ _ i_s (pkf pk_26) (pnf (by decide)) (by decide) (by decide) (rkl rk_26 (show 0 + 16 * (30 - (s_op s)) < n from by omega))) bd_26 (fun v28 t28 i_t28 (e28 : s_at s ≤ s_at t28) (o28 : s_op t28 = s_op s) b28 => ?_)
                      obtain ⟨a28, p28, h28, g28, w28, -⟩ := id i_t28
                      refine Ok_sees G (by decide) (fun (q29 : K (s_at t28) = 82) => ?_) (fun (q29 : K (s_at t28) ≠ 82) => ?_)
                      · refine Ok_ifz1 ?_
                        refine Ok_rc (R 37 (by decide) _ _ _ i_t28 (pkf pk_37) (pnf (by decide)) (by decide) (by decide) (rkl rk_37 (show 0 + 16 * (30 - (s_op t28)) < n from by omega))) bd_37 (fun v30 t30 i_t30 (e30 : s_at t28 ≤ s_at t30) (o30 : s_op t30 = s_op t28) b30 => ?_)
                        obtain ⟨a30, p30, h30, g30, w30, -⟩ := id i_t30
                        exact Ok_ret ⟨i_t30, show s_at s ≤ s_at t30 from by omega, show s_op t30 = s_op s from by omega, show 0 < 16387 from by omega, (fun q => by cases q)⟩
                      · refine Ok_ifz0 ?_
                        exact Ok_ret ⟨i_t28, show s_at s ≤ s_at t28 from by omega, show s_op t28 = s_op s from by omega, show 0 < 16387 from by omega, (fun q => by cases q)⟩
                  · refine Ok_ife (G.b _) (by decide) (fun q31 => ?_) (fun q31 => ?_)
                    · refine Ok_sees G (by decide) (fun (q32 : K (s_at s) = 80) => ?_) (fun (q32 : K (s_at s) ≠ 80) => ?_)
                      · refine Ok_ifz1 ?_
                        refine Ok_next G i_s ?_
                        refine Ok_ife (G.b _) (by decide) (fun q33 => ?_) (fun q33 => ?_)
                        · refine Ok_rc (R 90 (by decide) _ _ _ i_s (pkt (show K (s_at s) ≠ 0 from by omega)) (pkt (show K (s_at s + 1) ≠ 0 from by omega)) (by decide) (by decide) (rkl rk_90 (show 0 + 16 * (30 - (s_op s)) < n from by omega))) bd_90 (fun v34 t34 i_t34 (e34 : s_at s ≤ s_at t34) (o34 : s_op t34 = s_op s) b34 => ?_)
                          obtain ⟨a34, p34, h34, g34, w34, -⟩ := id i_t34
                          refine Ok_rc (R 37 (by decide) _ _ _ i_t34 (pkf pk_37) (pnf (by decide)) (by decide) (by decide) (rkl rk_37 (show 0 + 16 * (30 - (s_op t34)) < n from by omega))) bd_37 (fun v35 t35 i_t35 (e35 : s_at t34 ≤ s_at t35) (o35 : s_op t35 = s_op t34) b35 => ?_)
                          obtain ⟨a35, p35, h35, g35, w35, -⟩ := id i_t35
                          exact Ok_ret ⟨i_t35, show s_at s ≤ s_at t35 from by omega, show s_op t35 = s_op s from by omega, show 0 < 16387 from by omega, (fun q => by cases q)⟩
                        · refine Ok_rc (R 26 (by decide) _ _ _ i_s (pkf pk_26) (pnf (by decide)) (by decide) (by decide) (rkl rk_26 (show 0 + 16 * (30 - (s_op s)) < n from by omega))) bd_26 (fun v36 t36 i_t36 (e36 : s_at s ≤ s_at t36) (o36 : s_op t36 = s_op s) b36 => ?_)
                          obtain ⟨a36, p36, h36, g36, w36, -⟩ := id i_t36
                          refine Ok_sees G (by decide) (fun (q37 : K (s_at t36) = 82) => ?_) (fun (q37 : K (s_at t36) ≠ 82) => ?_)
                          · refine Ok_ifz1 ?_
                            refine Ok_rc (R 37 (by decide) _ _ _ i_t36 (pkf pk_37) (pnf (by decide)) (by decide) (by decide) (rkl rk_37 (show 0 + 16 * (30 - (s_op t36)) < n from by omega))) bd_37 (fun v38 t38 i_t38 (e38 : s_at t36 ≤ s_at t38) (o38 : s_op t38 = s_op t36) b38 => ?_)
                            obtain ⟨a38, p38, h38, g38, w38, -⟩ := id i_t38
                            exact Ok_ret ⟨i_t38, show s_at s ≤ s_at t38 from by omega, show s_op t38 = s_op s from by omega, show 0 < 16387 from by omega, (fun q => by cases q)⟩
                          · refine Ok_ifz0 ?_
                            exact Ok_ret ⟨i_t36, show s_at s ≤ s_at t36 from by omega, show s_op t36 = s_op s from by omega, show 0 < 16387 from by omega, (fun q => by cases q)⟩
                      · refine Ok_ifz0 ?_
                        refine Ok_rc (R 26 (by decide) _ _ _ i_s (pkf pk_26) (pnf (by decide)) (by decide) (by decide) (rkl rk_26 (show 0 + 16 * (30 - (s_op s)) < n from by omega))) bd_26 (fun v39 t39 i_t39 (e39 : s_at s ≤ s_at t39) (o39 : s_op t39 = s_op s) b39 => ?_)
                        obtain ⟨a39, p39, h39, g39, w39, -⟩ := id i_t39
                        refine Ok_sees G (by decide) (fun (q40 : K (s_at t39) = 82) => ?_) (fun (q40 : K (s_at t39) ≠ 82) => ?_)
                        · refine Ok_ifz1 ?_
                          refine Ok_rc (R 37 (by decide) _ _ _ i_t39 (pkf pk_37) (pnf (by decide)) (by decide) (by decide) (rkl rk_37 (show 0 + 16 * (30 - (s_op t39)) < n from by omega))) bd_37 (fun v41 t41 i_t41 (e41 : s_at t39 ≤ s_at t41) (o41 : s_op t41 = s_op t39) b41 => ?_)
                          obtain ⟨a41, p41, h41, g41, w41, -⟩ := id i_t41
                          exact Ok_ret ⟨i_t41, show s_at s ≤ s_at t41 from by omega, show s_op t41 = s_op s from by omega, show 0 < 16387 from by omega, (fun q => by cases q)⟩
                        · refine Ok_ifz0 ?_
                          exact Ok_ret ⟨i_t39, show s_at s ≤ s_at t39 from by omega, show s_op t39 = s_op s from by omega, show 0 < 16387 from by omega, (fun q => by cases q)⟩
                    · refine Ok_ife (G.b _) (by decide) (fun q42 => ?_) (fun q42 => ?_)
                      · refine Ok_rc (R 26 (by decide) _ _ _ i_s (pkf pk_26) (pnf (by decide)) (by decide) (by decide) (rkl rk_26 (show 0 + 16 * (30 - (s_op s)) < n from by omega))) bd_26 (fun v43 t43 i_t43 (e43 : s_at s ≤ s_at t43) (o43 : s_op t43 = s_op s) b43 => ?_)
                        obtain ⟨a43, p43, h43, g43, w43, -⟩ := id i_t43
                        exact Ok_ret ⟨i_t43, show s_at s ≤ s_at t43 from by omega, show s_op t43 = s_op s from by omega, show 0 < 16387 from by omega, (fun q => by cases q)⟩
                      · refine Ok_ife (G.b _) (by decide) (fun q44 => ?_) (fun q44 => ?_)
                        · refine Ok_rc (R 42 (by decide) _ _ _ i_s (pkf pk_42) (pnf (by decide)) (by decide) (by decide) (rkl rk_42 (show 0 + 16 * (30 - (s_op s)) < n from by omega))) bd_42 (fun v45 t45 i_t45 (e45 : s_at s ≤ s_at t45) (o45 : s_op t45 = s_op s) b45 => ?_)
                          obtain ⟨a45, p45, h45, g45, w45, -⟩ := id i_t45
                          exact Ok_ret ⟨i_t45, show s_at s ≤ s_at t45 from by omega, show s_op t45 = s_op s from by omega, show 0 < 16387 from by omega, (fun q => by cases q)⟩
                        · refine Ok_ife (G.b _) (by decide) (fun q46 => ?_) (fun q46 => ?_)
                          · refine Ok_sees G (by decide) (fun (q47 : K (s_at s) = 80) => ?_) (fun (q47 : K (s_at s) ≠ 80) => ?_)
                            · refine Ok_ifz1 ?_
                              refine Ok_next G i_s ?_
                              refine Ok_ife (G.b _) (by decide) (fun q48 => ?_) (fun q48 => ?_)
                              · refine Ok_rc (R 90 (by decide) _ _ _ i_s (pkt (show K (s_at s) ≠ 0 from by omega)) (pkt (show K (s_at s + 1) ≠ 0 from by omega)) (by decide) (by decide) (rkl rk_90 (show 0 + 16 * (30 - (s_op s)) < n from by omega))) bd_90 (fun v49 t49 i_t49 (e49 : s_at s ≤ s_at t49) (o49 : s_op t49 = s_op s) b49 => ?_)
                                obtain ⟨a49, p49, h49, g49, w49, -⟩ := id i_t49
                                refine Ok_rc (R 37 (by decide) _ _ _ i_t49 (pkf pk_37) (pnf (by decide)) (by decide) (by decide) (rkl rk_37 (show 0 + 16 * (30 - (s_op t49)) < n from by omega))) bd_37 (fun v50 t50 i_t50 (e50 : s_at t49 ≤ s_at t50) (o50 : s_op t50 = s_op t49) b50 => ?_)
                                obtain ⟨a50, p50, h50, g50, w50, -⟩ := id i_t50
                                exact Ok_ret ⟨i_t50, show s_at s ≤ s_at t50 from by omega, show s_op t50 = s_op s from by omega, show 0 < 16387 from by omega, (fun q => by cases q)⟩
                              · refine Ok_rc (R 26 (by decide) _ _ _ i_s (pkf pk_26) (pnf (by decide)) (by decide) (by decide) (rkl rk_26 (show 0 + 16 * (30 - (s_op s)) < n from by omega))) bd_26 (fun v51 t51 i_t51 (e51 : s_at s ≤ s_at t51) (o51 : s_op t51 = s_op s) b51 => ?_)
                                obtain ⟨a51, p51, h51, g51, w51, -⟩ := id i_t51
                                refine Ok_sees G (by decide) (fun (q52 : K (s_at t51) = 82) => ?_) (fun (q52 : K (s_at t51) ≠ 82) => ?_)
                                · refine Ok_ifz1 ?_
                                  refine Ok_rc (R 37 (by decide) _ _ _ i_t51 (pkf pk_37) (pnf (by decide)) (by decide) (by decide) (rkl rk_37 (show 0 + 16 * (30 - (s_op t51)) < n from by omega))) bd_37 (fun v53 t53 i_t53 (e53 : s_at t51 ≤ s_at t53) (o53 : s_op t53 = s_op t51) b53 => ?_)
                                  obtain ⟨a53, p53, h53, g53, w53, -⟩ := id i_t53
                                  exact Ok_ret ⟨i_t53, show s_at s ≤ s_at t53 from by omega, show s_op t53 = s_op s from by omega, show 0 < 16387 from by omega, (fun q => by cases q)⟩
                                · refine Ok_ifz0 ?_
                                  exact Ok_ret ⟨i_t51, show s_at s ≤ s_at t51 from by omega, show s_op t51 = s_op s from by omega, show 0 < 16387 from by omega, (fun q => by cases q)⟩
                            · refine Ok_ifz0 ?_
                              refine Ok_rc (R 26 (by decide) _ _ _ i_s (pkf pk_26) (pnf (by decide)) (by decide) (by decide) (rkl rk_26 (show 0 + 16 * (30 - (s_op s)) < n from by omega))) bd_26 (fun v54 t54 i_t54 (e54 : s_at s ≤ s_at t54) (o54 : s_op t54 = s_op s) b54 => ?_)
                              obtain ⟨a54, p54, h54, g54, w54, -⟩ := id i_t54
                              refine Ok_sees G (by decide) (fun (q55 : K (s_at t54) = 82) => ?_) (fun (q55 : K (s_at t54) ≠ 82) => ?_)
                              · refine Ok_ifz1 ?_
                                refine Ok_rc (R 37 (by decide) _ _ _ i_t54 (pkf pk_37) (pnf (by decide)) (by decide) (by decide) (rkl rk_37 (show 0 + 16 * (30 - (s_op t54)) < n from by omega))) bd_37 (fun v56 t56 i_t56 (e56 : s_at t54 ≤ s_at t56) (o56 : s_op t56 = s_op t54) b56 => ?_)
                                obtain ⟨a56, p56, h56, g56, w56, -⟩ := id i_t56
                                exact Ok_ret ⟨i_t56, show s_at s ≤ s_at t56 from by omega, show s_op t56 = s_op s from by omega, show 0 < 16387 from by omega, (fun q => by cases q)⟩
                              · refine Ok_ifz0 ?_
                                exact Ok_ret ⟨i_t54, show s_at s ≤ s_at t54 from by omega, show s_op t54 = s_op s from by omega, show 0 < 16387 from by omega, (fun q => by cases q)⟩
                          · exact Ok_er i_s
theorem T_lp_X1_elements_24 {cnt N : Nat} {K : Nat → Nat} (G : Kg cnt N K) {n : Nat} {rc : Nat → Nat → Nat → Ss → Rs Ss} (R : Sp cnt N K n rc) : ∀ (f y1 y3 y4 y5 y6 : Nat) (s : Ss), Iv cnt N s → 16387 ≤ f + y5 → y5 ≤ 16386 → y3 < 2 → 1 ≤ s_op s → y1 < 16387 → y3 < 16387 → y4 < 16387 → y5 < 16387 → y6 < 16387 → 5 + 16 * (30 - s_op s) < n → Ok (Po cnt N K s (s_op s - 1) 16387 false) (Iv cnt N) (lp_X1_elements_24 K N rc f y1 y3 y4 y5 y6 s) := by
  obtain ⟨hc, hN, hk, hz9⟩ := id G
  intro f
  induction f with
  | zero => intro y1 y3 y4 y5 y6 s i_s c1 c2 j0 j1 hy1 hy3 hy4 hy5 hy6 hm; omega
  | succ f ih =>
    intro y1 y3 y4 y5 y6 s i_s c1 c2 j0 j1 hy1 hy3 hy4 hy5 hy6 hm
    obtain ⟨a0, p0, h0, g0, w0, -⟩ := id i_s
    rw [lp_X1_elements_24]
    refine Ok_ifl (show y5 < 2147483648 from by omega) (by decide) (fun q1 => ?_) (fun q1 => ?_)
    · refine Ok_ifz (show y6 < 2147483648 from by omega) (fun q2 => ?_) (fun q2 => ?_)
      · refine Ok_leave G i_s (by decide) (by decide) (show s_op s ≠ 0 from by omega) (fun t3 i_t3 (e3 : s_at t3 = s_at s + 1) (o3 : s_op t3 = s_op s - 1) => ?_)
        obtain ⟨a3, p3, h3, g3, w3, -⟩ := id i_t3
        refine Ok_ck (show y3 < 2 from by omega) ?_
        refine Ok_put G (Iv_ih i_t3 (show y3 < 2 from by omega)) (show y5 < 20000 from by omega) (fun t4 i_t4 (e4 : s_at t4 = s_at t3) (o4 : s_op t4 = s_op t3) => ?_)
        obtain ⟨a4, p4, h4, g4, w4, -⟩ := id i_t4
        have k4 : K (s_at t4) = K (s_at t3) := congrArg K e4
        exact Ok_ret ⟨i_t4, show s_at s ≤ s_at t4 from by omega, show s_op t4 = s_op s - 1 from by omega, show 0 < 16387 from by omega, (fun q => by cases q)⟩
      · refine Ok_sees G (by decide) (fun (q5 : K (s_at s) = 83) => ?_) (fun (q5 : K (s_at s) ≠ 83) => ?_)
        · refine Ok_ifz1 ?_
          refine Ok_leave G i_s (by decide) (by decide) (show s_op s ≠ 0 from by omega) (fun t6 i_t6 (e6 : s_at t6 = s_at s + 1) (o6 : s_op t6 = s_op s - 1) => ?_)
          obtain ⟨a6, p6, h6, g6, w6, -⟩ := id i_t6
          refine Ok_ck (show y3 < 2 from by omega) ?_
          refine Ok_put G (Iv_ih i_t6 (show y3 < 2 from by omega)) (show y5 < 20000 from by omega) (fun t7 i_t7 (e7 : s_at t7 = s_at t6) (o7 : s_op t7 = s_op t6) => ?_)
          obtain ⟨a7, p7, h7, g7, w7, -⟩ := id i_t7
          have k7 : K (s_at t7) = K (s_at t6) := congrArg K e7
          exact Ok_ret ⟨i_t7, show s_at s ≤ s_at t7 from by omega, show s_op t7 = s_op s - 1 from by omega, show 0 < 16387 from by omega, (fun q => by cases q)⟩
        · refine Ok_ifz0 ?_
          refine Ok_rc (R 38 (by decide) _ _ _ i_s (pkf pk_38) (pnf (by decide)) (by decide) (by decide) (rkl rk_38 (show 5 + 16 * (30 - (s_op s)) < n from by omega))) bd_38 (fun v8 t8 i_t8 (e8 : s_at s ≤ s_at t8) (o8 : s_op t8 = s_op s) b8 => ?_)
          obtain ⟨a8, p8, h8, g8, w8, -⟩ := id i_t8
          refine Ok_accept G i_t8 (by decide) (by decide) (fun t9 i_t9 (e9 : s_at t9 = s_at t8 + 1) (o9 : s_op t9 = s_op t8) => ?_) (fun (q10 : K (s_at t8) ≠ 87) => ?_)
          · obtain ⟨a9, p9, h9, g9, w9, -⟩ := id i_t9
            refine Ok_ifz1 ?_
            refine Ok_rc (R 38 (by decide) _ _ _ i_t9 (pkf pk_38) (pnf (by decide)) (by decide) (by decide) (rkl rk_38 (show 5 + 16 * (30 - (s_op t9)) < n from by omega))) bd_38 (fun v11 t11 i_t11 (e11 : s_at t9 ≤ s_at t11) (o11 : s_op t11 = s_op t9) b11 => ?_)
            obtain ⟨a11, p11, h11, g11, w11, -⟩ := id i_t11
            refine Ok_ifz1 ?_
            refine Ok_put G i_t11 (by decide) (fun t12 i_t12 (e12 : s_at t12 = s_at t11) (o12 : s_op t12 = s_op t11) => ?_)
            obtain ⟨a12, p12, h12, g12, w12, -⟩ := id i_t12
            have k12 : K (s_at t12) = K (s_at t11) := congrArg K e12
            refine Ok_accept G i_t12 (by decide) (by decide) (fun t13 i_t13 (e13 : s_at t13 = s_at t12 + 1) (o13 : s_op t13 = s_op t12) => ?_) (fun (q14 : K (s_at t12) ≠ 84) => ?_)
            · obtain ⟨a13, p13, h13, g13, w13, -⟩ := id i_t13
              refine Ok_imp (ih y1 y3 y4 (y5 + 1) 1 _ i_t13 (show 16387 ≤ f + (y5 + 1) from by omega) (show y5 + 1 ≤ 16386 from by omega) (show y3 < 2 from by omega) (show 1 ≤ (s_op t13) from by omega) (show y1 < 16387 from by omega) (show y3 < 16387 from by omega) (show y4 < 16387 from by omega) (show y5 + 1 < 16387 from by omega) (by decide) (show 5 + 16 * (30 - (s_op t13)) < n from by omega)) (fun v15 t15 z15 => ?_)
              obtain ⟨i_t15, e15, o15, b15, x15⟩ := z15
              have e15 : s_at t13 ≤ s_at t15 := e15
              have o15 : s_op t15 = (s_op t13) - 1 := o15
              exact ⟨i_t15, by omega, by omega, by omega, (fun q => by cases q)⟩
            · refine Ok_imp (ih y1 y3 y4 (y5 + 1) 0 _ i_t12 (show 16387 ≤ f + (y5 + 1) from by omega) (show y5 + 1 ≤ 16386 from by omega) (show y3 < 2 from by omega) (show 1 ≤ (s_op t12) from by omega) (show y1 < 16387 from by omega) (show y3 < 16387 from by omega) (show y4 < 16387 from by omega) (show y5 + 1 < 16387 from by omega) (by decide) (show 5 + 16 * (30 - (s_op t12)) < n from by omega)) (fun v16 t16 z16 => ?_)
              obtain ⟨i_t16, e16, o16, b16, x16⟩ := z16
              have e16 : s_at t12 ≤ s_at t16 := e16
              have o16 : s_op t16 = (s_op t12) - 1 := o16
              exact ⟨i_t16, by omega, by omega, by omega, (fun q => by cases q)⟩
          · refine Ok_ifz0 ?_
            refine Ok_ifz0 ?_
            refine Ok_put G i_t8 (by decide) (fun t17 i_t17 (e17 : s_at t17 = s_at t8) (o17 : s_op t17 = s_op t8) => ?_)
            obtain ⟨a17, p17, h17, g17, w17, -⟩ := id i_t17
            have k17 : K (s_at t17) = K (s_at t8) := congrArg K e17
            refine Ok_accept G i_t17 (by decide) (by decide) (fun t18 i_t18 (e18 : s_at t18 = s_at t17 + 1) (o18 : s_op t18 = s_op t17) => ?_) (fun (q19 : K (s_at t17) ≠ 84) => ?_)
            · obtain ⟨a18, p18, h18, g18, w18, -⟩ := id i_t18
              refine Ok_imp (ih y1 y3 y4 (y5 + 1) 1 _ i_t18 (show 16387 ≤ f + (y5 + 1) from by omega) (show y5 + 1 ≤ 16386 from by omega) (show y3 < 2 from by omega) (show 1 ≤ (s_op t18) from by omega) (show y1 < 16387 from by omega) (show y3 < 16387 from by omega) (show y4 < 16387 from by omega) (show y5 + 1 < 16387 from by omega) (by decide) (show 5 + 16 * (30 - (s_op t18)) < n from by omega)) (fun v20 t20 z20 => ?_)
              obtain ⟨i_t20, e20, o20, b20, x20⟩ := z20
              have e20 : s_at t18 ≤ s_at t20 := e20
              have o20 : s_op t20 = (s_op t18) - 1 := o20
              exact ⟨i_t20, by omega, by omega, by omega, (fun q => by cases q)⟩
            · refine Ok_imp (ih y1 y3 y4 (y5 + 1) 0 _ i_t17 (show 16387 ≤ f + (y5 + 1) from by omega) (show y5 + 1 ≤ 16386 from by omega) (show y3 < 2 from by omega) (show 1 ≤ (s_op t17) from by omega) (show y1 < 16387 from by omega) (show y3 < 16387 from by omega) (show y4 < 16387 from by omega) (show y5 + 1 < 16387 from by omega) (by decide) (show 5 + 16 * (30 - (s_op t17)) < n from by omega)) (fun v21 t21 z21 => ?_)
              obtain ⟨i_t21, e21, o21, b21, x21⟩ := z21
              have e21 : s_at t17 ≤ s_at t21 := e21
              have o21 : s_op t21 = (s_op t17) - 1 := o21
              exact ⟨i_t21, by omega, by omega, by omega, (fun q => by cases q)⟩
    · refine Ok_leave G i_s (by decide) (by decide) (show s_op s ≠ 0 from by omega) (fun t22 i_t22 (e22 : s_at t22 = s_at s + 1) (o22 : s_op t22 = s_op s - 1) => ?_)
      obtain ⟨a22, p22, h22, g22, w22, -⟩ := id i_t22
      refine Ok_ck (show y3 < 2 from by omega) ?_
      refine Ok_put G (Iv_ih i_t22 (show y3 < 2 from by omega)) (show y5 < 20000 from by omega) (fun t23 i_t23 (e23 : s_at t23 = s_at t22) (o23 : s_op t23 = s_op t22) => ?_)
      obtain ⟨a23, p23, h23, g23, w23, -⟩ := id i_t23
      have k23 : K (s_at t23) = K (s_at t22) := congrArg K e23
      exact Ok_ret ⟨i_t23, show s_at s ≤ s_at t23 from by omega, show s_op t23 = s_op s - 1 from by omega, show 0 < 16387 from by omega, (fun q => by cases q)⟩
theorem T_X1_elements {cnt N : Nat} {K : Nat → Nat} (G : Kg cnt N K) {n : Nat} {rc : Nat → Nat → Nat → Ss → Rs Ss} (R : Sp cnt N K n rc) {x1 : Nat} {x2 : Nat} {s : Ss} (i_s : Iv cnt N s) (hx1 : x1 < 16387) (hx2 : x2 < 16387) (hm : 0 + 16 * (30 - s_op s) < n + 1) : Ok (Po cnt N K s (s_op s) 16387 false) (Iv cnt N) (b_X1_elements K N rc x1 x2 s) := by
  obtain ⟨hc, hN, hk, hz9⟩ := id G
  obtain ⟨a0, p0, h0, g0, w0, -⟩ := id i_s
  unfold b_X1_elements
  refine Ok_enter G i_s (by decide) (by decide) (fun t1 i_t1 (e1 : s_at t1 = s_at s + 1) (o1 : s_op t1 = s_op s + 1) => ?_)
  obtain ⟨a1, p1, h1, g1, w1, -⟩ := id i_t1
  refine Ok_imp (T_lp_X1_elements_24 G R LF x1 (s_ih s) (s_at s) x2 1 _ (Iv_ih i_t1 (show 0 < 2 from by omega)) (show 16387 ≤ LF + x2 from by unfold LF; omega) (show x2 ≤ 16386 from by omega) (show (s_ih s) < 2 from by omega) (show 1 ≤ (s_op t1) from by omega) (show x1 < 16387 from by omega) (show s_ih s < 16387 from by omega) (show s_at s < 16387 from by omega) (show x2 < 16387 from by omega) (by decide) (show 5 + 16 * (30 - (s_op t1)) < n from by omega)) (fun v2 t2 z2 => ?_)
  obtain ⟨i_t2, e2, o2, b2, x2⟩ := z2
  have e2 : s_at t1 ≤ s_at t2 := e2
  have o2 : s_op t2 = (s_op t1) - 1 := o2
  exact ⟨i_t2, by omega, by omega, by omega, (fun q => by cases q)⟩
theorem T_X1_value {cnt N : Nat} {K : Nat → Nat} (G : Kg cnt N K) {n : Nat} {rc : Nat → Nat → Nat → Ss → Rs Ss} (R : Sp cnt N K n rc) {s : Ss} (i_s : Iv cnt N s) (hm : 5 + 16 * (30 - s_op s) < n + 1) : Ok (Po cnt N K s (s_op s) 16387 false) (Iv cnt N) (b_X1_value K N rc s) := by
  obtain ⟨hc, hN, hk, hz9⟩ := id G
  obtain ⟨a0, p0, h0, g0, w0, -⟩ := id i_s
  unfold b_X1_value
  refine Ok_sees G (by decide) (fun (q1 : K (s_at s) = 82) => ?_) (fun (q1 : K (s_at s) ≠ 82) => ?_)
  · refine Ok_ifz1 ?_
    refine Ok_rc (R 37 (by decide) _ _ _ i_s (pkf pk_37) (pnf (by decide)) (by decide) (by decide) (rkl rk_37 (show 0 + 16 * (30 - (s_op s)) < n from by omega))) bd_37 (fun v2 t2 i_t2 (e2 : s_at s ≤ s_at t2) (o2 : s_op t2 = s_op s) b2 => ?_)
    obtain ⟨a2, p2, h2, g2, w2, -⟩ := id i_t2
    exact Ok_ret ⟨i_t2, show s_at s ≤ s_at t2 from by omega, show s_op t2 = s_op s from by omega, show 0 < 16387 from by omega, (fun q => by cases q)⟩
  · refine Ok_ifz0 ?_
    refine Ok_rc (R 29 (by decide) _ _ _ i_s (pkf pk_29) (pnf (by decide)) (by decide) (by decide) (rkl rk_29 (show 4 + 16 * (30 - (s_op s)) < n from by omega))) bd_29 (fun v3 t3 i_t3 (e3 : s_at s ≤ s_at t3) (o3 : s_op t3 = s_op s) b3 => ?_)
    obtain ⟨a3, p3, h3, g3, w3, -⟩ := id i_t3
    exact Ok_ret ⟨i_t3, show s_at s ≤ s_at t3 from by omega, show s_op t3 = s_op s from by omega, show 0 < 16387 from by omega, (fun q => by cases q)⟩
theorem T_X1_paren {cnt N : Nat} {K : Nat → Nat} (G : Kg cnt N K) {n : Nat} {rc : Nat → Nat → Nat → Ss → Rs Ss} (R : Sp cnt N K n rc) {s : Ss} (i_s : Iv cnt N s) (hm : 0 + 16 * (30 - s_op s) < n + 1) : Ok (Po cnt N K s (s_op s) 16387 false) (Iv cnt N) (b_X1_paren K N rc s) := by
  obtain ⟨hc, hN, hk, hz9⟩ := id G
  obtain ⟨a0, p0, h0, g0, w0, -⟩ := id i_s
  unfold b_X1_paren
  refine Ok_enter G i_s (by decide) (by decide) (fun t1 i_t1 (e1 : s_at t1 = s_at s + 1) (o1 : s_op t1 = s_op s + 1) => ?_)
  obtain ⟨a1, p1, h1, g1, w1, -⟩ := id i_t1
  refine Ok_rc (R 29 (by decide) _ _ _ (Iv_ih i_t1 (show 0 < 2 from by omega)) (pkf pk_29) (pnf (by decide)) (by decide) (by decide) (rkl rk_29 (show 4 + 16 * (30 - (s_op t1)) < n from by omega))) bd_29 (fun v2 t2 i_t2 (e2 : s_at t1 ≤ s_at t2) (o2 : s_op t2 = s_op t1) b2 => ?_)
  obtain ⟨a2, p2, h2, g2, w2, -⟩ := id i_t2
  refine Ok_leave G i_t2 (by decide) (by decide) (show s_op t2 ≠ 0 from by omega) (fun t3 i_t3 (e3 : s_at t3 = s_at t2 + 1) (o3 : s_op t3 = s_op t2 - 1) => ?_)
  obtain ⟨a3, p3, h3, g3, w3, -⟩ := id i_t3
  refine Ok_ck (show (s_ih s) < 2 from by omega) ?_
  refine Ok_put G (Iv_ih i_t3 (show s_ih s < 2 from by omega)) (by decide) (fun t4 i_t4 (e4 : s_at t4 = s_at t3) (o4 : s_op t4 = s_op t3) => ?_)
  obtain ⟨a4, p4, h4, g4, w4, -⟩ := id i_t4
  have k4 : K (s_at t4) = K (s_at t3) := congrArg K e4
  exact Ok_ret ⟨i_t4, show s_at s ≤ s_at t4 from by omega, show s_op t4 = s_op s from by omega, show 0 < 16387 from by omega, (fun q => by cases q)⟩
theorem T_X1_functionOrType {cnt N : Nat} {K : Nat → Nat} (G : Kg cnt N K) {n : Nat} {rc : Nat → Nat → Nat → Ss → Rs Ss} (R : Sp cnt N K n rc) {s : Ss} (i_s : Iv cnt N s) (hz : K (s_at s) ≠ 0) (hm : 0 + 16 * (30 - s_op s) < n + 1) : Ok (Po cnt N K s (s_op s) 16387 false) (Iv cnt N) (b_X1_functionOrType K N rc s) := by
  obtain ⟨hc, hN, hk, hz9⟩ := id G
  obtain ⟨a0, p0, h0, g0, w0, -⟩ := id i_s
  unfold b_X1_functionOrType
  refine Ok_opn i_s (fun t1 i_t1 (e1 : s_at t1 = s_at s) (o1 : s_op t1 = s_op s + 1) => ?_)
  obtain ⟨a1, p1, h1, g1, w1, -⟩ := id i_t1
  have k1 : K (s_at t1) = K (s_at s) := congrArg K e1
  refine Ok_take G i_t1 (show K (s_at t1) ≠ 0 from by omega) (fun t2 i_t2 (e2 : s_at t2 = s_at t1 + 1) (o2 : s_op t2 = s_op t1) => ?_)
  obtain ⟨a2, p2, h2, g2, w2, -⟩ := id i_t2
  refine Ok_rc (R 44 (by decide) _ _ _ i_t2 (pkf pk_44) (pnf (by decide)) (by decide) (by decide) (rkl rk_44 (show 1 + 16 * (30 - (s_op t2)) < n from by omega))) bd_44 (fun v3 t3 i_t3 (e3 : s_at t2 ≤ s_at t3) (o3 : s_op t3 = s_op t2) b3 => ?_)
  obtain ⟨a3, p3, h3, g3, w3, -⟩ := id i_t3
  refine Ok_sees G (by decide) (fun (q4 : K (s_at t3) = 82) => ?_) (fun (q4 : K (s_at t3) ≠ 82) => ?_)
  · refine Ok_ifz1 ?_
    refine Ok_rc (R 47 (by decide) _ _ _ i_t3 (pkf pk_47) (pnf (by decide)) (by decide) (by decide) (rkl rk_47 (show 0 + 16 * (30 - (s_op t3)) < n from by omega))) bd_47 (fun v5 t5 i_t5 (e5 : s_at t3 ≤ s_at t5) (o5 : s_op t5 = s_op t3) b5 => ?_)
    obtain ⟨a5, p5, h5, g5, w5, -⟩ := id i_t5
    refine Ok_put G i_t5 (by decide) (fun t6 i_t6 (e6 : s_at t6 = s_at t5) (o6 : s_op t6 = s_op t5) => ?_)
    obtain ⟨a6, p6, h6, g6, w6, -⟩ := id i_t6
    have k6 : K (s_at t6) = K (s_at t5) := congrArg K e6
    refine Ok_close i_t6 (show s_op t6 ≠ 0 from by omega) (fun t7 i_t7 (e7 : s_at t7 = s_at t6) (o7 : s_op t7 = s_op t6 - 1) => ?_)
    obtain ⟨a7, p7, h7, g7, w7, -⟩ := id i_t7
    have k7 : K (s_at t7) = K (s_at t6) := congrArg K e7
    exact Ok_ret ⟨i_t7, show s_at s ≤ s_at t7 from by omega, show s_op t7 = s_op s from by omega, show 0 < 16387 from by omega, (fun q => by cases q)⟩
  · refine Ok_ifz0 ?_
    refine Ok_put G i_t3 (by decide) (fun t8 i_t8 (e8 : s_at t8 = s_at t3) (o8 : s_op t8 = s_op t3) => ?_)
    obtain ⟨a8, p8, h8, g8, w8, -⟩ := id i_t8
    have k8 : K (s_at t8) = K (s_at t3) := congrArg K e8
    refine Ok_close i_t8 (show s_op t8 ≠ 0 from by omega) (fun t9 i_t9 (e9 : s_at t9 = s_at t8) (o9 : s_op t9 = s_op t8 - 1) => ?_)
    obtain ⟨a9, p9, h9, g9, w9, -⟩ := id i_t9
    have k9 : K (s_at t9) = K (s_at t8) := congrArg K e9
    exact Ok_ret ⟨i_t9, show s_at s ≤ s_at t9 from by omega, show s_op t9 = s_op s from by omega, show 0 < 16387 from by omega, (fun q => by cases q)⟩
theorem T_X1_signature {cnt N : Nat} {K : Nat → Nat} (G : Kg cnt N K) {n : Nat} {rc : Nat → Nat → Nat → Ss → Rs Ss} (R : Sp cnt N K n rc) {s : Ss} (i_s : Iv cnt N s) (hm : 1 + 16 * (30 - s_op s) < n + 1) : Ok (Po cnt N K s (s_op s) 16387 false) (Iv cnt N) (b_X1_signature K N rc s) := by
  obtain ⟨hc, hN, hk, hz9⟩ := id G
  obtain ⟨a0, p0, h0, g0, w0, -⟩ := id i_s
  unfold b_X1_signature
  refine Ok_rc (R 45 (by decide) _ _ _ i_s (pkf pk_45) (pnf (by decide)) (by decide) (by decide) (rkl rk_45 (show 0 + 16 * (30 - (s_op s)) < n from by omega))) bd_45 (fun v1 t1 i_t1 (e1 : s_at s ≤ s_at t1) (o1 : s_op t1 = s_op s) b1 => ?_)
  obtain ⟨a1, p1, h1, g1, w1, -⟩ := id i_t1
  refine Ok_sees G (by decide) (fun (q2 : K (s_at t1) = 78) => ?_) (fun (q2 : K (s_at t1) ≠ 78) => ?_)
  · refine Ok_ifz1 ?_
    refine Ok_rc (R 45 (by decide) _ _ _ i_t1 (pkf pk_45) (pnf (by decide)) (by decide) (by decide) (rkl rk_45 (show 0 + 16 * (30 - (s_op t1)) < n from by omega))) bd_45 (fun v3 t3 i_t3 (e3 : s_at t1 ≤ s_at t3) (o3 : s_op t3 = s_op t1) b3 => ?_)
    obtain ⟨a3, p3, h3, g3, w3, -⟩ := id i_t3
    refine Ok_put G i_t3 (by decide) (fun t4 i_t4 (e4 : s_at t4 = s_at t3) (o4 : s_op t4 = s_op t3) => ?_)
    obtain ⟨a4, p4, h4, g4, w4, -⟩ := id i_t4
    have k4 : K (s_at t4) = K (s_at t3) := congrArg K e4
    exact Ok_ret ⟨i_t4, show s_at s ≤ s_at t4 from by omega, show s_op t4 = s_op s from by omega, show 0 < 16387 from by omega, (fun q => by cases q)⟩
  · refine Ok_ifz0 ?_
    refine Ok_sees G (by decide) (fun (q5 : K (s_at t1) = 64) => ?_) (fun (q5 : K (s_at t1) ≠ 64) => ?_)
    · refine Ok_ifz1 ?_
      refine Ok_put G i_t1 (by decide) (fun t6 i_t6 (e6 : s_at t6 = s_at t1) (o6 : s_op t6 = s_op t1) => ?_)
      obtain ⟨a6, p6, h6, g6, w6, -⟩ := id i_t6
      have k6 : K (s_at t6) = K (s_at t1) := congrArg K e6
      exact Ok_ret ⟨i_t6, show s_at s ≤ s_at t6 from by omega, show s_op t6 = s_op s from by omega, show 0 < 16387 from by omega, (fun q => by cases q)⟩
    · refine Ok_ifz0 ?_
      refine Ok_ck (G.b _) ?_
      refine Ok_ifz (Nat.lt_trans (fb_beginsType _) (by decide)) (fun q7 => ?_) (fun q7 => ?_)
      · refine Ok_put G i_t1 (by decide) (fun t8 i_t8 (e8 : s_at t8 = s_at t1) (o8 : s_op t8 = s_op t1) => ?_)
        obtain ⟨a8, p8, h8, g8, w8, -⟩ := id i_t8
        have k8 : K (s_at t8) = K (s_at t1) := congrArg K e8
        exact Ok_ret ⟨i_t8, show s_at s ≤ s_at t8 from by omega, show s_op t8 = s_op s from by omega, show 0 < 16387 from by omega, (fun q => by cases q)⟩
      · have q7n := fn_beginsType q7
        refine Ok_rc (R 26 (by decide) _ _ _ i_t1 (pkf pk_26) (pnf (by decide)) (by decide) (by decide) (rkl rk_26 (show 0 + 16 * (30 - (s_op t1)) < n from by omega))) bd_26 (fun v9 t9 i_t9 (e9 : s_at t1 ≤ s_at t9) (o9 : s_op t9 = s_op t1) b9 => ?_)
        obtain ⟨a9, p9, h9, g9, w9, -⟩ := id i_t9
        refine Ok_put G i_t9 (by decide) (fun t10 i_t10 (e10 : s_at t10 = s_at t9) (o10 : s_op t10 = s_op t9) => ?_)
        obtain ⟨a10, p10, h10, g10, w10, -⟩ := id i_t10
        have k10 : K (s_at t10) = K (s_at t9) := congrArg K e10
        exact Ok_ret ⟨i_t10, show s_at s ≤ s_at t10 from by omega, show s_op t10 = s_op s from by omega, show 0 < 16387 from by omega, (fun q => by cases q)⟩
theorem T_lp_X1_params_17 {cnt N : Nat} {K : Nat → Nat} (G : Kg cnt N K) {n : Nat} {rc : Nat → Nat → Nat → Ss → Rs Ss} (R : Sp cnt N K n rc) : ∀ (f y1 y2 y3 y4 y5 : Nat) (s : Ss), Iv cnt N s → 16387 ≤ f + y4 → y4 ≤ 16386 → 1 ≤ s_op s → y3 ≤ y4 → y1 < 16387 → y2 < 16387 → y3 < 16387 → y4 < 16387 → y5 < 16387 → 1 + 16 * (30 - s_op s) < n → Ok (Po cnt N K s (s_op s - 1) 16387 false) (Iv cnt N) (lp_X1_params_17 K N rc f y1 y2 y3 y4 y5 s) := by
  obtain ⟨hc, hN, hk, hz9⟩ := id G
  intro f
  induction f with
  | zero => intro y1 y2 y3 y4 y5 s i_s c1 c2 j0 j1 hy1 hy2 hy3 hy4 hy5 hm; omega
  | succ f ih =>
    intro y1 y2 y3 y4 y5 s i_s c1 c2 j0 j1 hy1 hy2 hy3 hy4 hy5 hm
    obtain ⟨a0, p0, h0, g0, w0, -⟩ := id i_s
    rw [lp_X1_params_17]
    refine Ok_ifl (show y4 < 2147483648 from by omega) (by decide) (fun q1 => ?_) (fun q1 => ?_)
    · refine Ok_ifz (show y5 < 2147483648 from by omega) (fun q2 => ?_) (fun q2 => ?_)
      · refine Ok_ife (show y2 < 2147483648 from by omega) (by decide) (fun q3 => ?_) (fun q3 => ?_)
        · refine Ok_ifz (show y3 < 2147483648 from by omega) (fun q4 => ?_) (fun q4 => ?_)
          · refine Ok_leave G i_s (by decide) (by decide) (show s_op s ≠ 0 from by omega) (fun t5 i_t5 (e5 : s_at t5 = s_at s + 1) (o5 : s_op t5 = s_op s - 1) => ?_)
            obtain ⟨a5, p5, h5, g5, w5, -⟩ := id i_t5
            refine Ok_put G i_t5 (show y4 < 20000 from by omega) (fun t6 i_t6 (e6 : s_at t6 = s_at t5) (o6 : s_op t6 = s_op t5) => ?_)
            obtain ⟨a6, p6, h6, g6, w6, -⟩ := id i_t6
            have k6 : K (s_at t6) = K (s_at t5) := congrArg K e6
            exact Ok_ret ⟨i_t6, show s_at s ≤ s_at t6 from by omega, show s_op t6 = s_op s - 1 from by omega, show 0 < 16387 from by omega, (fun q => by cases q)⟩
          · exact Ok_er i_s
        · refine Ok_leave G i_s (by decide) (by decide) (show s_op s ≠ 0 from by omega) (fun t7 i_t7 (e7 : s_at t7 = s_at s + 1) (o7 : s_op t7 = s_op s - 1) => ?_)
          obtain ⟨a7, p7, h7, g7, w7, -⟩ := id i_t7
          refine Ok_put G i_t7 (show y4 < 20000 from by omega) (fun t8 i_t8 (e8 : s_at t8 = s_at t7) (o8 : s_op t8 = s_op t7) => ?_)
          obtain ⟨a8, p8, h8, g8, w8, -⟩ := id i_t8
          have k8 : K (s_at t8) = K (s_at t7) := congrArg K e8
          exact Ok_ret ⟨i_t8, show s_at s ≤ s_at t8 from by omega, show s_op t8 = s_op s - 1 from by omega, show 0 < 16387 from by omega, (fun q => by cases q)⟩
      · refine Ok_sees G (by decide) (fun (q9 : K (s_at s) = 79) => ?_) (fun (q9 : K (s_at s) ≠ 79) => ?_)
        · refine Ok_ifz1 ?_
          refine Ok_ife (show y2 < 2147483648 from by omega) (by decide) (fun q10 => ?_) (fun q10 => ?_)
          · refine Ok_ifz (show y3 < 2147483648 from by omega) (fun q11 => ?_) (fun q11 => ?_)
            · refine Ok_leave G i_s (by decide) (by decide) (show s_op s ≠ 0 from by omega) (fun t12 i_t12 (e12 : s_at t12 = s_at s + 1) (o12 : s_op t12 = s_op s - 1) => ?_)
              obtain ⟨a12, p12, h12, g12, w12, -⟩ := id i_t12
              refine Ok_put G i_t12 (show y4 < 20000 from by omega) (fun t13 i_t13 (e13 : s_at t13 = s_at t12) (o13 : s_op t13 = s_op t12) => ?_)
              obtain ⟨a13, p13, h13, g13, w13, -⟩ := id i_t13
              have k13 : K (s_at t13) = K (s_at t12) := congrArg K e13
              exact Ok_ret ⟨i_t13, show s_at s ≤ s_at t13 from by omega, show s_op t13 = s_op s - 1 from by omega, show 0 < 16387 from by omega, (fun q => by cases q)⟩
            · exact Ok_er i_s
          · refine Ok_leave G i_s (by decide) (by decide) (show s_op s ≠ 0 from by omega) (fun t14 i_t14 (e14 : s_at t14 = s_at s + 1) (o14 : s_op t14 = s_op s - 1) => ?_)
            obtain ⟨a14, p14, h14, g14, w14, -⟩ := id i_t14
            refine Ok_put G i_t14 (show y4 < 20000 from by omega) (fun t15 i_t15 (e15 : s_at t15 = s_at t14) (o15 : s_op t15 = s_op t14) => ?_)
            obtain ⟨a15, p15, h15, g15, w15, -⟩ := id i_t15
            have k15 : K (s_at t15) = K (s_at t14) := congrArg K e15
            exact Ok_ret ⟨i_t15, show s_at s ≤ s_at t15 from by omega, show s_op t15 = s_op s - 1 from by omega, show 0 < 16387 from by omega, (fun q => by cases q)⟩
        · refine Ok_ifz0 ?_
          refine Ok_sees G (by decide) (fun (q16 : K (s_at s) = 1) => ?_) (fun (q16 : K (s_at s) ≠ 1) => ?_)
          · refine Ok_ifz1 ?_
            refine Ok_next G i_s ?_
            refine Ok_ife (G.b _) (by decide) (fun q17 => ?_) (fun q17 => ?_)
            · refine Ok_rc (R 46 (by decide) _ _ _ i_s (pkf pk_46) (pnf (by decide)) (show y2 < 16387 from by omega) (show y3 < 16387 from by omega) (rkl rk_46 (show 1 + 16 * (30 - (s_op s)) < n from by omega))) bd_46 (fun v18 t18 i_t18 (e18 : s_at s ≤ s_at t18) (o18 : s_op t18 = s_op s) b18 => ?_)
              obtain ⟨a18, p18, h18, g18, w18, -⟩ := id i_t18
              refine Ok_ifz (show v18 < 2147483648 from by omega) (fun q19 => ?_) (fun q19 => ?_)
              · refine Ok_accept G i_t18 (by decide) (by decide) (fun t20 i_t20 (e20 : s_at t20 = s_at t18 + 1) (o20 : s_op t20 = s_op t18) => ?_) (fun (q21 : K (s_at t18) ≠ 84) => ?_)
                · obtain ⟨a20, p20, h20, g20, w20, -⟩ := id i_t20
                  refine Ok_ifz1 ?_
                  refine Ok_imp (ih y1 y2 (y3 + 1) (y4 + 1) 0 _ i_t20 (show 16387 ≤ f + (y4 + 1) from by omega) (show y4 + 1 ≤ 16386 from by omega) (show 1 ≤ (s_op t20) from by omega) (show (y3 + 1) ≤ (y4 + 1) from by omega) (show y1 < 16387 from by omega) (show y2 < 16387 from by omega) (show y3 + 1 < 16387 from by omega) (show y4 + 1 < 16387 from by omega) (by decide) (show 1 + 16 * (30 - (s_op t20)) < n from by omega)) (fun v22 t22 z22 => ?_)
                  obtain ⟨i_t22, e22, o22, b22, x22⟩ := z22
                  have e22 : s_at t20 ≤ s_at t22 := e22
                  have o22 : s_op t22 = (s_op t20) - 1 := o22
                  exact ⟨i_t22, by omega, by omega, by omega, (fun q => by cases q)⟩
                · refine Ok_ifz0 ?_
                  refine Ok_imp (ih y1 y2 (y3 + 1) (y4 + 1) 0 _ i_t18 (show 16387 ≤ f + (y4 + 1) from by omega) (show y4 + 1 ≤ 16386 from by omega) (show 1 ≤ (s_op t18) from by omega) (show (y3 + 1) ≤ (y4 + 1) from by omega) (show y1 < 16387 from by omega) (show y2 < 16387 from by omega) (show y3 + 1 < 16387 from by omega) (show y4 + 1 < 16387 from by omega) (by decide) (show 1 + 16 * (30 - (s_op t18)) < n from by omega)) (fun v23 t23 z23 => ?_)
                  obtain ⟨i_t23, e23, o23, b23, x23⟩ := z23
                  have e23 : s_at t18 ≤ s_at t23 := e23
                  have o23 : s_op t23 = (s_op t18) - 1 := o23
                  exact ⟨i_t23, by omega, by omega, by omega, (fun q => by cases q)⟩
              · refine Ok_accept G i_t18 (by decide) (by decide) (fun t24 i_t24 (e24 : s_at t24 = s_at t18 + 1) (o24 : s_op t24 = s_op t18) => ?_) (fun (q25 : K (s_at t18) ≠ 84) => ?_)
                · obtain ⟨a24, p24, h24, g24, w24, -⟩ := id i_t24
                  refine Ok_ifz1 ?_
                  refine Ok_imp (ih y1 v18 0 (y4 + 1) 0 _ i_t24 (show 16387 ≤ f + (y4 + 1) from by omega) (show y4 + 1 ≤ 16386 from by omega) (show 1 ≤ (s_op t24) from by omega) (show 0 ≤ (y4 + 1) from by omega) (show y1 < 16387 from by omega) (show v18 < 16387 from by omega) (by decide) (show y4 + 1 < 16387 from by omega) (by decide) (show 1 + 16 * (30 - (s_op t24)) < n from by omega)) (fun v26 t26 z26 => ?_)
                  obtain ⟨i_t26, e26, o26, b26, x26⟩ := z26
                  have e26 : s_at t24 ≤ s_at t26 := e26
                  have o26 : s_op t26 = (s_op t24) - 1 := o26
                  exact ⟨i_t26, by omega, by omega, by omega, (fun q => by cases q)⟩
                · refine Ok_ifz0 ?_
                  refine Ok_imp (ih y1 v18 0 (y4 + 1) 0 _ i_t18 (show 16387 ≤ f + (y4 + 1) from by omega) (show y4 + 1 ≤ 16386 from by omega) (show 1 ≤ (s_op t18) from by omega) (show 0 ≤ (y4 + 1) from by omega) (show y1 < 16387 from by omega) (show v18 < 16387 from by omega) (by decide) (show y4 + 1 < 16387 from by omega) (by decide) (show 1 + 16 * (30 - (s_op t18)) < n from by omega)) (fun v27 t27 z27 => ?_)
                  obtain ⟨i_t27, e27, o27, b27, x27⟩ := z27
                  have e27 : s_at t18 ≤ s_at t27 := e27
                  have o27 : s_op t27 = (s_op t18) - 1 := o27
                  exact ⟨i_t27, by omega, by omega, by omega, (fun q => by cases q)⟩
            · refine Ok_rc (R 46 (by decide) _ _ _ i_s (pkf pk_46) (pnf (by decide)) (show y2 < 16387 from by omega) (show y3 < 16387 from by omega) (rkl rk_46 (show 1 + 16 * (30 - (s_op s)) < n from by omega))) bd_46 (fun v28 t28 i_t28 (e28 : s_at s ≤ s_at t28) (o28 : s_op t28 = s_op s) b28 => ?_)
              obtain ⟨a28, p28, h28, g28, w28, -⟩ := id i_t28
              refine Ok_ifz (show v28 < 2147483648 from by omega) (fun q29 => ?_) (fun q29 => ?_)
              · refine Ok_accept G i_t28 (by decide) (by decide) (fun t30 i_t30 (e30 : s_at t30 = s_at t28 + 1) (o30 : s_op t30 = s_op t28) => ?_) (fun (q31 : K (s_at t28) ≠ 84) => ?_)
                · obtain ⟨a30, p30, h30, g30, w30, -⟩ := id i_t30
                  refine Ok_ifz1 ?_
                  refine Ok_imp (ih y1 y2 (y3 + 1) (y4 + 1) 1 _ i_t30 (show 16387 ≤ f + (y4 + 1) from by omega) (show y4 + 1 ≤ 16386 from by omega) (show 1 ≤ (s_op t30) from by omega) (show (y3 + 1) ≤ (y4 + 1) from by omega) (show y1 < 16387 from by omega) (show y2 < 16387 from by omega) (show y3 + 1 < 16387 from by omega) (show y4 + 1 < 16387 from by omega) (by decide) (show 1 + 16 * (30 - (s_op t30)) < n from by omega)) (fun v32 t32 z32 => ?_)
                  obtain ⟨i_t32, e32, o32, b32, x32⟩ := z32
                  have e32 : s_at t30 ≤ s_at t32 := e32
                  have o32 : s_op t32 = (s_op t30) - 1 := o32
                  exact ⟨i_t32, by omega, by omega, by omega, (fun q => by cases q)⟩
                · refine Ok_ifz0 ?_
                  refine Ok_imp (ih y1 y2 (y3 + 1) (y4 + 1) 0 _ i_t28 (show 16387 ≤ f + (y4 + 1) from by omega) (show y4 + 1 ≤ 16386 from by omega) (show 1 ≤ (s_op t28) from by omega) (show (y3 + 1) ≤ (y4 + 1) from by omega) (show y1 < 16387 from by omega) (show y2 < 16387 from by omega) (show y3 + 1 < 16387 from by omega) (show y4 + 1 < 16387 from by omega) (by decide) (show 1 + 16 * (30 - (s_op t28)) < n from by omega)) (fun v33 t33 z33 => ?_)
                  obtain ⟨i_t33, e33, o33, b33, x33⟩ := z33
                  have e33 : s_at t28 ≤ s_at t33 := e33
                  have o33 : s_op t33 = (s_op t28) - 1 := o33
                  exact ⟨i_t33, by omega, by omega, by omega, (fun q => by cases q)⟩
              · refine Ok_accept G i_t28 (by decide) (by decide) (fun t34 i_t34 (e34 : s_at t34 = s_at t28 + 1) (o34 : s_op t34 = s_op t28) => ?_) (fun (q35 : K (s_at t28) ≠ 84) => ?_)
                · obtain ⟨a34, p34, h34, g34, w34, -⟩ := id i_t34
                  refine Ok_ifz1 ?_
                  refine Ok_imp (ih y1 v28 0 (y4 + 1) 1 _ i_t34 (show 16387 ≤ f + (y4 + 1) from by omega) (show y4 + 1 ≤ 16386 from by omega) (show 1 ≤ (s_op t34) from by omega) (show 0 ≤ (y4 + 1) from by omega) (show y1 < 16387 from by omega) (show v28 < 16387 from by omega) (by decide) (show y4 + 1 < 16387 from by omega) (by decide) (show 1 + 16 * (30 - (s_op t34)) < n from by omega)) (fun v36 t36 z36 => ?_)
                  obtain ⟨i_t36, e36, o36, b36, x36⟩ := z36
                  have e36 : s_at t34 ≤ s_at t36 := e36
                  have o36 : s_op t36 = (s_op t34) - 1 := o36
                  exact ⟨i_t36, by omega, by omega, by omega, (fun q => by cases q)⟩
                · refine Ok_ifz0 ?_
                  refine Ok_imp (ih y1 v28 0 (y4 + 1) 0 _ i_t28 (show 16387 ≤ f + (y4 + 1) from by omega) (show y4 + 1 ≤ 16386 from by omega) (show 1 ≤ (s_op t28) from by omega) (show 0 ≤ (y4 + 1) from by omega) (show y1 < 16387 from by omega) (show v28 < 16387 from by omega) (by decide) (show y4 + 1 < 16387 from by omega) (by decide) (show 1 + 16 * (30 - (s_op t28)) < n from by omega)) (fun v37 t37 z37 => ?_)
                  obtain ⟨i_t37, e37, o37, b37, x37⟩ := z37
                  have e37 : s_at t28 ≤ s_at t37 := e37
                  have o37 : s_op t37 = (s_op t28) - 1 := o37
                  exact ⟨i_t37, by omega, by omega, by omega, (fun q => by cases q)⟩
          · refine Ok_ifz0 ?_
            refine Ok_ife (G.b _) (by decide) (fun q38 => ?_) (fun q38 => ?_)
            · refine Ok_rc (R 46 (by decide) _ _ _ i_s (pkf pk_46) (pnf (by decide)) (show y2 < 16387 from by omega) (show y3 < 16387 from by omega) (rkl rk_46 (show 1 + 16 * (30 - (s_op s)) < n from by omega))) bd_46 (fun v39 t39 i_t39 (e39 : s_at s ≤ s_at t39) (o39 : s_op t39 = s_op s) b39 => ?_)
              obtain ⟨a39, p39, h39, g39, w39, -⟩ := id i_t39
              refine Ok_ifz (show v39 < 2147483648 from by omega) (fun q40 => ?_) (fun q40 => ?_)
              · refine Ok_accept G i_t39 (by decide) (by decide) (fun t41 i_t41 (e41 : s_at t41 = s_at t39 + 1) (o41 : s_op t41 = s_op t39) => ?_) (fun (q42 : K (s_at t39) ≠ 84) => ?_)
                · obtain ⟨a41, p41, h41, g41, w41, -⟩ := id i_t41
                  refine Ok_ifz1 ?_
                  refine Ok_imp (ih y1 y2 (y3 + 1) (y4 + 1) 0 _ i_t41 (show 16387 ≤ f + (y4 + 1) from by omega) (show y4 + 1 ≤ 16386 from by omega) (show 1 ≤ (s_op t41) from by omega) (show (y3 + 1) ≤ (y4 + 1) from by omega) (show y1 < 16387 from by omega) (show y2 < 16387 from by omega) (show y3 + 1 < 16387 from by omega) (show y4 + 1 < 16387 from by omega) (by decide) (show 1 + 16 * (30 - (s_op t41)) < n from by omega)) (fun v43 t43 z43 => ?_)
                  obtain ⟨i_t43, e43, o43, b43, x43⟩ := z43
                  have e43 : s_at t41 ≤ s_at t43 := e43
                  have o43 : s_op t43 = (s_op t41) - 1 := o43
                  exact ⟨i_t43, by omega, by omega, by omega, (fun q => by cases q)⟩
                · refine Ok_ifz0 ?_
                  refine Ok_imp (ih y1 y2 (y3 + 1) (y4 + 1) 0 _ i_t39 (show 16387 ≤ f + (y4 + 1) from by omega) (show y4 + 1 ≤ 16386 from by omega) (show 1 ≤ (s_op t39) from by omega) (show (y3 + 1) ≤ (y4 + 1) from by omega) (show y1 < 16387 from by omega) (show y2 < 16387 from by omega) (show y3 + 1 < 16387 from by omega) (show y4 + 1 < 16387 from by omega) (by decide) (show 1 + 16 * (30 - (s_op t39)) < n from by omega)) (fun v44 t44 z44 => ?_)
                  obtain ⟨i_t44, e44, o44, b44, x44⟩ := z44
                  have e44 : s_at t39 ≤ s_at t44 := e44
                  have o44 : s_op t44 = (s_op t39) - 1 := o44
                  exact ⟨i_t44, by omega, by omega, by omega, (fun q => by cases q)⟩
              · refine Ok_accept G i_t39 (by decide) (by decide) (fun t45 i_t45 (e45 : s_at t45 = s_at t39 + 1) (o45 : s_op t45 = s_op t39) => ?_) (fun (q46 : K (s_at t39) ≠ 84) => ?_)
                · obtain ⟨a45, p45, h45, g45, w45, -⟩ := id i_t45
                  refine Ok_ifz1 ?_
                  refine Ok_imp (ih y1 v39 0 (y4 + 1) 0 _ i_t45 (show 16387 ≤ f + (y4 + 1) from by omega) (show y4 + 1 ≤ 16386 from by omega) (show 1 ≤ (s_op t45) from by omega) (show 0 ≤ (y4 + 1) from by omega) (show y1 < 16387 from by omega) (show v39 < 16387 from by omega) (by decide) (show y4 + 1 < 16387 from by omega) (by decide) (show 1 + 16 * (30 - (s_op t45)) < n from by omega)) (fun v47 t47 z47 => ?_)
                  obtain ⟨i_t47, e47, o47, b47, x47⟩ := z47
                  have e47 : s_at t45 ≤ s_at t47 := e47
                  have o47 : s_op t47 = (s_op t45) - 1 := o47
                  exact ⟨i_t47, by omega, by omega, by omega, (fun q => by cases q)⟩
                · refine Ok_ifz0 ?_
                  refine Ok_imp (ih y1 v39 0 (y4 + 1) 0 _ i_t39 (show 16387 ≤ f + (y4 + 1) from by omega) (show y4 + 1 ≤ 16386 from by omega) (show 1 ≤ (s_op t39) from by omega) (show 0 ≤ (y4 + 1) from by omega) (show y1 < 16387 from by omega) (show v39 < 16387 from by omega) (by decide) (show y4 + 1 < 16387 from by omega) (by decide) (show 1 + 16 * (30 - (s_op t39)) < n from by omega)) (fun v48 t48 z48 => ?_)
                  obtain ⟨i_t48, e48, o48, b48, x48⟩ := z48
                  have e48 : s_at t39 ≤ s_at t48 := e48
                  have o48 : s_op t48 = (s_op t39) - 1 := o48
                  exact ⟨i_t48, by omega, by omega, by omega, (fun q => by cases q)⟩
            · refine Ok_rc (R 46 (by decide) _ _ _ i_s (pkf pk_46) (pnf (by decide)) (show y2 < 16387 from by omega) (show y3 < 16387 from by omega) (rkl rk_46 (show 1 + 16 * (30 - (s_op s)) < n from by omega))) bd_46 (fun v49 t49 i_t49 (e49 : s_at s ≤ s_at t49) (o49 : s_op t49 = s_op s) b49 => ?_)
              obtain ⟨a49, p49, h49, g49, w49, -⟩ := id i_t49
              refine Ok_ifz (show v49 < 2147483648 from by omega) (fun q50 => ?_) (fun q50 => ?_)
              · refine Ok_accept G i_t49 (by decide) (by decide) (fun t51 i_t51 (e51 : s_at t51 = s_at t49 + 1) (o51 : s_op t51 = s_op t49) => ?_) (fun (q52 : K (s_at t49) ≠ 84) => ?_)
                · obtain ⟨a51, p51, h51, g51, w51, -⟩ := id i_t51
                  refine Ok_ifz1 ?_
                  refine Ok_imp (ih y1 y2 (y3 + 1) (y4 + 1) 1 _ i_t51 (show 16387 ≤ f + (y4 + 1) from by omega) (show y4 + 1 ≤ 16386 from by omega) (show 1 ≤ (s_op t51) from by omega) (show (y3 + 1) ≤ (y4 + 1) from by omega) (show y1 < 16387 from by omega) (show y2 < 16387 from by omega) (show y3 + 1 < 16387 from by omega) (show y4 + 1 < 16387 from by omega) (by decide) (show 1 + 16 * (30 - (s_op t51)) < n from by omega)) (fun v53 t53 z53 => ?_)
                  obtain ⟨i_t53, e53, o53, b53, x53⟩ := z53
                  have e53 : s_at t51 ≤ s_at t53 := e53
                  have o53 : s_op t53 = (s_op t51) - 1 := o53
                  exact ⟨i_t53, by omega, by omega, by omega, (fun q => by cases q)⟩
                · refine Ok_ifz0 ?_
                  refine Ok_imp (ih y1 y2 (y3 + 1) (y4 + 1) 0 _ i_t49 (show 16387 ≤ f + (y4 + 1) from by omega) (show y4 + 1 ≤ 16386 from by omega) (show 1 ≤ (s_op t49) from by omega) (show (y3 + 1) ≤ (y4 + 1) from by omega) (show y1 < 16387 from by omega) (show y2 < 16387 from by omega) (show y3 + 1 < 16387 from by omega) (show y4 + 1 < 16387 from by omega) (by decide) (show 1 + 16 * (30 - (s_op t49)) < n from by omega)) (fun v54 t54 z54 => ?_)
                  obtain ⟨i_t54, e54, o54, b54, x54⟩ := z54
                  have e54 : s_at t49 ≤ s_at t54 := e54
                  have o54 : s_op t54 = (s_op t49) - 1 := o54
                  exact ⟨i_t54, by omega, by omega, by omega, (fun q => by cases q)⟩
              · refine Ok_accept G i_t49 (by decide) (by decide) (fun t55 i_t55 (e55 : s_at t55 = s_at t49 + 1) (o55 : s_op t55 = s_op t49) => ?_) (fun (q56 : K (s_at t49) ≠ 84) => ?_)
                · obtain ⟨a55, p55, h55, g55, w55, -⟩ := id i_t55
                  refine Ok_ifz1 ?_
                  refine Ok_imp (ih y1 v49 0 (y4 + 1) 1 _ i_t55 (show 16387 ≤ f + (y4 + 1) from by omega) (show y4 + 1 ≤ 16386 from by omega) (show 1 ≤ (s_op t55) from by omega) (show 0 ≤ (y4 + 1) from by omega) (show y1 < 16387 from by omega) (show v49 < 16387 from by omega) (by decide) (show y4 + 1 < 16387 from by omega) (by decide) (show 1 + 16 * (30 - (s_op t55)) < n from by omega)) (fun v57 t57 z57 => ?_)
                  obtain ⟨i_t57, e57, o57, b57, x57⟩ := z57
                  have e57 : s_at t55 ≤ s_at t57 := e57
                  have o57 : s_op t57 = (s_op t55) - 1 := o57
                  exact ⟨i_t57, by omega, by omega, by omega, (fun q => by cases q)⟩
                · refine Ok_ifz0 ?_
                  refine Ok_imp (ih y1 v49 0 (y4 + 1) 0 _ i_t49 (show 16387 ≤ f + (y4 + 1) from by omega) (show y4 + 1 ≤ 16386 from by omega) (show 1 ≤ (s_op t49) from by omega) (show 0 ≤ (y4 + 1) from by omega) (show y1 < 16387 from by omega) (show v49 < 16387 from by omega) (by decide) (show y4 + 1 < 16387 from by omega) (by decide) (show 1 + 16 * (30 - (s_op t49)) < n from by omega)) (fun v58 t58 z58 => ?_)
                  obtain ⟨i_t58, e58, o58, b58, x58⟩ := z58
                  have e58 : s_at t49 ≤ s_at t58 := e58
                  have o58 : s_op t58 = (s_op t49) - 1 := o58
                  exact ⟨i_t58, by omega, by omega, by omega, (fun q => by cases q)⟩
    · refine Ok_ife (show y2 < 2147483648 from by omega) (by decide) (fun q59 => ?_) (fun q59 => ?_)
      · refine Ok_ifz (show y3 < 2147483648 from by omega) (fun q60 => ?_) (fun q60 => ?_)
        · refine Ok_leave G i_s (by decide) (by decide) (show s_op s ≠ 0 from by omega) (fun t61 i_t61 (e61 : s_at t61 = s_at s + 1) (o61 : s_op t61 = s_op s - 1) => ?_)
          obtain ⟨a61, p61, h61, g61, w61, -⟩ := id i_t61
          refine Ok_put G i_t61 (show y4 < 20000 from by omega) (fun t62 i_t62 (e62 : s_at t62 = s_at t61) (o62 : s_op t62 = s_op t61) => ?_)
          obtain ⟨a62, p62, h62, g62, w62, -⟩ := id i_t62
          have k62 : K (s_at t62) = K (s_at t61) := congrArg K e62
          exact Ok_ret ⟨i_t62, show s_at s ≤ s_at t62 from by omega, show s_op t62 = s_op s - 1 from by omega, show 0 < 16387 from by omega, (fun q => by cases q)⟩
        · exact Ok_er i_s
      · refine Ok_leave G i_s (by decide) (by decide) (show s_op s ≠ 0 from by omega) (fun t63 i_t63 (e63 : s_at t63 = s_at s + 1) (o63 : s_op t63 = s_op s - 1) => ?_)
        obtain ⟨a63, p63, h63, g63, w63, -⟩ := id i_t63
        refine Ok_put G i_t63 (show y4 < 20000 from by omega) (fun t64 i_t64 (e64 : s_at t64 = s_at t63) (o64 : s_op t64 = s_op t63) => ?_)
        obtain ⟨a64, p64, h64, g64, w64, -⟩ := id i_t64
        have k64 : K (s_at t64) = K (s_at t63) := congrArg K e64
        exact Ok_ret ⟨i_t64, show s_at s ≤ s_at t64 from by omega, show s_op t64 = s_op s - 1 from by omega, show 0 < 16387 from by omega, (fun q => by cases q)⟩
