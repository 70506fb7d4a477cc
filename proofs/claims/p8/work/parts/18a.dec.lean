theorem dX0_exists_0 : decode cX0_exists 0 = .ok (.iload_n 0, 1) := by decide +kernel
theorem dX0_exists_1 : decode cX0_exists 1 = .ok (.iconst 1, 1) := by decide +kernel
theorem dX0_exists_2 : decode cX0_exists 2 = .ok (.if_icmp .lt 8, 3) := by decide +kernel
theorem dX0_exists_5 : decode cX0_exists 5 = .ok (.iload_n 0, 1) := by decide +kernel
theorem dX0_exists_6 : decode cX0_exists 6 = .ok (.iconst 5, 1) := by decide +kernel
theorem dX0_exists_7 : decode cX0_exists 7 = .ok (.if_icmp .le 27, 3) := by decide +kernel
theorem dX0_exists_10 : decode cX0_exists 10 = .ok (.iload_n 0, 1) := by decide +kernel
theorem dX0_exists_11 : decode cX0_exists 11 = .ok (.bipush 10, 2) := by decide +kernel
theorem dX0_exists_13 : decode cX0_exists 13 = .ok (.if_icmp .lt 9, 3) := by decide +kernel
theorem dX0_exists_16 : decode cX0_exists 16 = .ok (.iload_n 0, 1) := by decide +kernel
theorem dX0_exists_17 : decode cX0_exists 17 = .ok (.bipush 34, 2) := by decide +kernel
theorem dX0_exists_19 : decode cX0_exists 19 = .ok (.if_icmp .le 15, 3) := by decide +kernel
theorem dX0_exists_22 : decode cX0_exists 22 = .ok (.iload_n 0, 1) := by decide +kernel
theorem dX0_exists_23 : decode cX0_exists 23 = .ok (.bipush 40, 2) := by decide +kernel
theorem dX0_exists_25 : decode cX0_exists 25 = .ok (.if_icmp .lt 13, 3) := by decide +kernel
theorem dX0_exists_28 : decode cX0_exists 28 = .ok (.iload_n 0, 1) := by decide +kernel
theorem dX0_exists_29 : decode cX0_exists 29 = .ok (.bipush 87, 2) := by decide +kernel
theorem dX0_exists_31 : decode cX0_exists 31 = .ok (.if_icmp .gt 7, 3) := by decide +kernel
theorem dX0_exists_34 : decode cX0_exists 34 = .ok (.iconst 1, 1) := by decide +kernel
theorem dX0_exists_35 : decode cX0_exists 35 = .ok (.goto 4, 3) := by decide +kernel
theorem dX0_exists_38 : decode cX0_exists 38 = .ok (.iconst 0, 1) := by decide +kernel
theorem dX0_exists_39 : decode cX0_exists 39 = .ok (.ireturn, 1) := by decide +kernel
theorem dX0_beginsDecl_0 : decode cX0_beginsDecl 0 = .ok (.iload_n 0, 1) := by decide +kernel
theorem dX0_beginsDecl_1 : decode cX0_beginsDecl 1 = .ok (.bipush 13, 2) := by decide +kernel
theorem dX0_beginsDecl_3 : decode cX0_beginsDecl 3 = .ok (.if_icmp .eq 15, 3) := by decide +kernel
theorem dX0_beginsDecl_6 : decode cX0_beginsDecl 6 = .ok (.iload_n 0, 1) := by decide +kernel
theorem dX0_beginsDecl_7 : decode cX0_beginsDecl 7 = .ok (.bipush 33, 2) := by decide +kernel
theorem dX0_beginsDecl_9 : decode cX0_beginsDecl 9 = .ok (.if_icmp .eq 9, 3) := by decide +kernel
theorem dX0_beginsDecl_12 : decode cX0_beginsDecl 12 = .ok (.iload_n 0, 1) := by decide +kernel
theorem dX0_beginsDecl_13 : decode cX0_beginsDecl 13 = .ok (.bipush 34, 2) := by decide +kernel
theorem dX0_beginsDecl_15 : decode cX0_beginsDecl 15 = .ok (.if_icmp .ne 7, 3) := by decide +kernel
theorem dX0_beginsDecl_18 : decode cX0_beginsDecl 18 = .ok (.iconst 1, 1) := by decide +kernel
theorem dX0_beginsDecl_19 : decode cX0_beginsDecl 19 = .ok (.goto 4, 3) := by decide +kernel
theorem dX0_beginsDecl_22 : decode cX0_beginsDecl 22 = .ok (.iconst 0, 1) := by decide +kernel
theorem dX0_beginsDecl_23 : decode cX0_beginsDecl 23 = .ok (.ireturn, 1) := by decide +kernel
theorem dX0_beginsType_0 : decode cX0_beginsType 0 = .ok (.iload_n 0, 1) := by decide +kernel
theorem dX0_beginsType_1 : decode cX0_beginsType 1 = .ok (.lookupswitch 93 #[(1, 91), (12, 91), (20, 91), (25, 91), (26, 91), (31, 91), (42, 91), (64, 91), (78, 91), (80, 91)], 91) := by decide +kernel
theorem dX0_beginsType_92 : decode cX0_beginsType 92 = .ok (.iconst 1, 1) := by decide +kernel
theorem dX0_beginsType_93 : decode cX0_beginsType 93 = .ok (.ireturn, 1) := by decide +kernel
theorem dX0_beginsType_94 : decode cX0_beginsType 94 = .ok (.iconst 0, 1) := by decide +kernel
theorem dX0_beginsType_95 : decode cX0_beginsType 95 = .ok (.ireturn, 1) := by decide +kernel
theorem dX0_beginsExpr_0 : decode cX0_beginsExpr 0 = .ok (.iload_n 0, 1) := by decide +kernel
theorem dX0_beginsExpr_1 : decode cX0_beginsExpr 1 = .ok (.iconst 1, 1) := by decide +kernel
theorem dX0_beginsExpr_2 : decode cX0_beginsExpr 2 = .ok (.if_icmp .lt 8, 3) := by decide +kernel
theorem dX0_beginsExpr_5 : decode cX0_beginsExpr 5 = .ok (.iload_n 0, 1) := by decide +kernel
theorem dX0_beginsExpr_6 : decode cX0_beginsExpr 6 = .ok (.iconst 5, 1) := by decide +kernel
theorem dX0_beginsExpr_7 : decode cX0_beginsExpr 7 = .ok (.if_icmp .le 17, 3) := by decide +kernel
theorem dX0_beginsExpr_10 : decode cX0_beginsExpr 10 = .ok (.iload_n 0, 1) := by decide +kernel
theorem dX0_beginsExpr_11 : decode cX0_beginsExpr 11 = .ok (.invokestatic 9, 3) := by decide +kernel
theorem dX0_beginsExpr_14 : decode cX0_beginsExpr 14 = .ok (.ifCond .ne 10, 3) := by decide +kernel
theorem dX0_beginsExpr_17 : decode cX0_beginsExpr 17 = .ok (.iload_n 0, 1) := by decide +kernel
theorem dX0_beginsExpr_18 : decode cX0_beginsExpr 18 = .ok (.invokestatic 13, 3) := by decide +kernel
theorem dX0_beginsExpr_21 : decode cX0_beginsExpr 21 = .ok (.ifCond .eq 7, 3) := by decide +kernel
theorem dX0_beginsExpr_24 : decode cX0_beginsExpr 24 = .ok (.iconst 1, 1) := by decide +kernel
theorem dX0_beginsExpr_25 : decode cX0_beginsExpr 25 = .ok (.goto 4, 3) := by decide +kernel
theorem dX0_beginsExpr_28 : decode cX0_beginsExpr 28 = .ok (.iconst 0, 1) := by decide +kernel
theorem dX0_beginsExpr_29 : decode cX0_beginsExpr 29 = .ok (.ireturn, 1) := by decide +kernel
theorem dX0_isUnarySign_0 : decode cX0_isUnarySign 0 = .ok (.iload_n 0, 1) := by decide +kernel
theorem dX0_isUnarySign_1 : decode cX0_isUnarySign 1 = .ok (.lookupswitch 69 #[(40, 67), (41, 67), (42, 67), (45, 67), (47, 67), (64, 67), (71, 67)], 67) := by decide +kernel
theorem dX0_isUnarySign_68 : decode cX0_isUnarySign 68 = .ok (.iconst 1, 1) := by decide +kernel
theorem dX0_isUnarySign_69 : decode cX0_isUnarySign 69 = .ok (.ireturn, 1) := by decide +kernel
theorem dX0_isUnarySign_70 : decode cX0_isUnarySign 70 = .ok (.iconst 0, 1) := by decide +kernel
theorem dX0_isUnarySign_71 : decode cX0_isUnarySign 71 = .ok (.ireturn, 1) := by decide +kernel
theorem dX0_isOpAssign_0 : decode cX0_isOpAssign 0 = .ok (.iload_n 0, 1) := by decide +kernel
theorem dX0_isOpAssign_1 : decode cX0_isOpAssign 1 = .ok (.bipush 51, 2) := by decide +kernel
theorem dX0_isOpAssign_3 : decode cX0_isOpAssign 3 = .ok (.if_icmp .lt 13, 3) := by decide +kernel
theorem dX0_isOpAssign_6 : decode cX0_isOpAssign 6 = .ok (.iload_n 0, 1) := by decide +kernel
theorem dX0_isOpAssign_7 : decode cX0_isOpAssign 7 = .ok (.bipush 61, 2) := by decide +kernel
theorem dX0_isOpAssign_9 : decode cX0_isOpAssign 9 = .ok (.if_icmp .gt 7, 3) := by decide +kernel
theorem dX0_isOpAssign_12 : decode cX0_isOpAssign 12 = .ok (.iconst 1, 1) := by decide +kernel
theorem dX0_isOpAssign_13 : decode cX0_isOpAssign 13 = .ok (.goto 4, 3) := by decide +kernel
theorem dX0_isOpAssign_16 : decode cX0_isOpAssign 16 = .ok (.iconst 0, 1) := by decide +kernel
theorem dX0_isOpAssign_17 : decode cX0_isOpAssign 17 = .ok (.ireturn, 1) := by decide +kernel
theorem dX0_binding_0 : decode cX0_binding 0 = .ok (.iload_n 0, 1) := by decide +kernel
theorem dX0_binding_1 : decode cX0_binding 1 = .ok (.tableswitch 169 40 75 #[165, 165, 167, 167, 167, 167, 165, 165, 167, 167, 167, 169, 169, 169, 169, 169, 169, 169, 169, 169, 169, 169, 161, 159, 169, 169, 169, 163, 163, 163, 169, 169, 169, 163, 163, 163], 159) := by decide +kernel
theorem dX0_binding_160 : decode cX0_binding 160 = .ok (.iconst 1, 1) := by decide +kernel
theorem dX0_binding_161 : decode cX0_binding 161 = .ok (.ireturn, 1) := by decide +kernel
theorem dX0_binding_162 : decode cX0_binding 162 = .ok (.iconst 2, 1) := by decide +kernel
theorem dX0_binding_163 : decode cX0_binding 163 = .ok (.ireturn, 1) := by decide +kernel
theorem dX0_binding_164 : decode cX0_binding 164 = .ok (.iconst 3, 1) := by decide +kernel
theorem dX0_binding_165 : decode cX0_binding 165 = .ok (.ireturn, 1) := by decide +kernel
theorem dX0_binding_166 : decode cX0_binding 166 = .ok (.iconst 4, 1) := by decide +kernel
theorem dX0_binding_167 : decode cX0_binding 167 = .ok (.ireturn, 1) := by decide +kernel
theorem dX0_binding_168 : decode cX0_binding 168 = .ok (.iconst 5, 1) := by decide +kernel
theorem dX0_binding_169 : decode cX0_binding 169 = .ok (.ireturn, 1) := by decide +kernel
theorem dX0_binding_170 : decode cX0_binding 170 = .ok (.iconst 0, 1) := by decide +kernel
theorem dX0_binding_171 : decode cX0_binding 171 = .ok (.ireturn, 1) := by decide +kernel
theorem dX1_init_0 : decode cX1_init 0 = .ok (.aload_n 0, 1) := by decide +kernel
theorem dX1_init_1 : decode cX1_init 1 = .ok (.invokespecial 5, 3) := by decide +kernel
theorem dX1_init_4 : decode cX1_init 4 = .ok (.aload_n 0, 1) := by decide +kernel
theorem dX1_init_5 : decode cX1_init 5 = .ok (.aload_n 1, 1) := by decide +kernel
theorem dX1_init_6 : decode cX1_init 6 = .ok (.putfield 11, 3) := by decide +kernel
theorem dX1_init_9 : decode cX1_init 9 = .ok (.aload_n 0, 1) := by decide +kernel
theorem dX1_init_10 : decode cX1_init 10 = .ok (.aload_n 2, 1) := by decide +kernel
theorem dX1_init_11 : decode cX1_init 11 = .ok (.putfield 17, 3) := by decide +kernel
theorem dX1_init_14 : decode cX1_init 14 = .ok (.aload_n 0, 1) := by decide +kernel
theorem dX1_init_15 : decode cX1_init 15 = .ok (.sipush 155, 3) := by decide +kernel
theorem dX1_init_18 : decode cX1_init 18 = .ok (.newarray .int, 2) := by decide +kernel
theorem dX1_init_20 : decode cX1_init 20 = .ok (.putfield 21, 3) := by decide +kernel
theorem dX1_init_23 : decode cX1_init 23 = .ok (.aload_n 0, 1) := by decide +kernel
theorem dX1_init_24 : decode cX1_init 24 = .ok (.iconst (-1), 1) := by decide +kernel
theorem dX1_init_25 : decode cX1_init 25 = .ok (.putfield 25, 3) := by decide +kernel
theorem dX1_init_28 : decode cX1_init 28 = .ok (.aload_n 0, 1) := by decide +kernel
theorem dX1_init_29 : decode cX1_init 29 = .ok (.aload_n 1, 1) := by decide +kernel
theorem dX1_init_30 : decode cX1_init 30 = .ok (.iconst 0, 1) := by decide +kernel
theorem dX1_init_31 : decode cX1_init 31 = .ok (.invokevirtual 29, 3) := by decide +kernel
theorem dX1_init_34 : decode cX1_init 34 = .ok (.putfield 33, 3) := by decide +kernel
theorem dX1_init_37 : decode cX1_init 37 = .ok (.return_, 1) := by decide +kernel
theorem dX1_refuse_0 : decode cX1_refuse 0 = .ok (.new 36, 3) := by decide +kernel
theorem dX1_refuse_3 : decode cX1_refuse 3 = .ok (.dup, 1) := by decide +kernel
theorem dX1_refuse_4 : decode cX1_refuse 4 = .ok (.ldc 38, 2) := by decide +kernel
theorem dX1_refuse_6 : decode cX1_refuse 6 = .ok (.invokespecial 40, 3) := by decide +kernel
theorem dX1_refuse_9 : decode cX1_refuse 9 = .ok (.athrow, 1) := by decide +kernel
theorem dX1_nextKind_0 : decode cX1_nextKind 0 = .ok (.aload_n 0, 1) := by decide +kernel
theorem dX1_nextKind_1 : decode cX1_nextKind 1 = .ok (.getfield 11, 3) := by decide +kernel
theorem dX1_nextKind_4 : decode cX1_nextKind 4 = .ok (.aload_n 0, 1) := by decide +kernel
theorem dX1_nextKind_5 : decode cX1_nextKind 5 = .ok (.getfield 43, 3) := by decide +kernel
theorem dX1_nextKind_8 : decode cX1_nextKind 8 = .ok (.iconst 1, 1) := by decide +kernel
theorem dX1_nextKind_9 : decode cX1_nextKind 9 = .ok (.iadd, 1) := by decide +kernel
theorem dX1_nextKind_10 : decode cX1_nextKind 10 = .ok (.invokevirtual 29, 3) := by decide +kernel
theorem dX1_nextKind_13 : decode cX1_nextKind 13 = .ok (.ireturn, 1) := by decide +kernel
theorem dX1_sees_0 : decode cX1_sees 0 = .ok (.aload_n 0, 1) := by decide +kernel
theorem dX1_sees_1 : decode cX1_sees 1 = .ok (.getfield 33, 3) := by decide +kernel
theorem dX1_sees_4 : decode cX1_sees 4 = .ok (.iload_n 1, 1) := by decide +kernel
theorem dX1_sees_5 : decode cX1_sees 5 = .ok (.if_icmp .ne 7, 3) := by decide +kernel
theorem dX1_sees_8 : decode cX1_sees 8 = .ok (.iconst 1, 1) := by decide +kernel
theorem dX1_sees_9 : decode cX1_sees 9 = .ok (.goto 4, 3) := by decide +kernel
theorem dX1_sees_12 : decode cX1_sees 12 = .ok (.iconst 0, 1) := by decide +kernel
theorem dX1_sees_13 : decode cX1_sees 13 = .ok (.ireturn, 1) := by decide +kernel
theorem dX1_take_0 : decode cX1_take 0 = .ok (.aload_n 0, 1) := by decide +kernel
theorem dX1_take_1 : decode cX1_take 1 = .ok (.getfield 43, 3) := by decide +kernel
theorem dX1_take_4 : decode cX1_take 4 = .ok (.istore_n 1, 1) := by decide +kernel
theorem dX1_take_5 : decode cX1_take 5 = .ok (.aload_n 0, 1) := by decide +kernel
theorem dX1_take_6 : decode cX1_take 6 = .ok (.dup, 1) := by decide +kernel
theorem dX1_take_7 : decode cX1_take 7 = .ok (.getfield 43, 3) := by decide +kernel
theorem dX1_take_10 : decode cX1_take 10 = .ok (.iconst 1, 1) := by decide +kernel
theorem dX1_take_11 : decode cX1_take 11 = .ok (.iadd, 1) := by decide +kernel
theorem dX1_take_12 : decode cX1_take 12 = .ok (.putfield 43, 3) := by decide +kernel
theorem dX1_take_15 : decode cX1_take 15 = .ok (.aload_n 0, 1) := by decide +kernel
theorem dX1_take_16 : decode cX1_take 16 = .ok (.aload_n 0, 1) := by decide +kernel
theorem dX1_take_17 : decode cX1_take 17 = .ok (.getfield 11, 3) := by decide +kernel
theorem dX1_take_20 : decode cX1_take 20 = .ok (.aload_n 0, 1) := by decide +kernel
theorem dX1_take_21 : decode cX1_take 21 = .ok (.getfield 43, 3) := by decide +kernel
theorem dX1_take_24 : decode cX1_take 24 = .ok (.invokevirtual 29, 3) := by decide +kernel
theorem dX1_take_27 : decode cX1_take 27 = .ok (.putfield 33, 3) := by decide +kernel
theorem dX1_take_30 : decode cX1_take 30 = .ok (.iload_n 1, 1) := by decide +kernel
theorem dX1_take_31 : decode cX1_take 31 = .ok (.ireturn, 1) := by decide +kernel
theorem dX1_accept_0 : decode cX1_accept 0 = .ok (.aload_n 0, 1) := by decide +kernel
theorem dX1_accept_1 : decode cX1_accept 1 = .ok (.iload_n 1, 1) := by decide +kernel
theorem dX1_accept_2 : decode cX1_accept 2 = .ok (.invokevirtual 46, 3) := by decide +kernel
theorem dX1_accept_5 : decode cX1_accept 5 = .ok (.istore_n 2, 1) := by decide +kernel
theorem dX1_accept_6 : decode cX1_accept 6 = .ok (.iload_n 2, 1) := by decide +kernel
theorem dX1_accept_7 : decode cX1_accept 7 = .ok (.ifCond .eq 8, 3) := by decide +kernel
theorem dX1_accept_10 : decode cX1_accept 10 = .ok (.aload_n 0, 1) := by decide +kernel
theorem dX1_accept_11 : decode cX1_accept 11 = .ok (.invokevirtual 50, 3) := by decide +kernel
theorem dX1_accept_14 : decode cX1_accept 14 = .ok (.pop, 1) := by decide +kernel
theorem dX1_accept_15 : decode cX1_accept 15 = .ok (.iload_n 2, 1) := by decide +kernel
theorem dX1_accept_16 : decode cX1_accept 16 = .ok (.ireturn, 1) := by decide +kernel
theorem dX1_expect_0 : decode cX1_expect 0 = .ok (.aload_n 0, 1) := by decide +kernel
theorem dX1_expect_1 : decode cX1_expect 1 = .ok (.iload_n 1, 1) := by decide +kernel
theorem dX1_expect_2 : decode cX1_expect 2 = .ok (.invokevirtual 46, 3) := by decide +kernel
theorem dX1_expect_5 : decode cX1_expect 5 = .ok (.ifCond .ne 7, 3) := by decide +kernel
theorem dX1_expect_8 : decode cX1_expect 8 = .ok (.aload_n 0, 1) := by decide +kernel
theorem dX1_expect_9 : decode cX1_expect 9 = .ok (.invokevirtual 54, 3) := by decide +kernel
theorem dX1_expect_12 : decode cX1_expect 12 = .ok (.aload_n 0, 1) := by decide +kernel
theorem dX1_expect_13 : decode cX1_expect 13 = .ok (.invokevirtual 50, 3) := by decide +kernel
theorem dX1_expect_16 : decode cX1_expect 16 = .ok (.ireturn, 1) := by decide +kernel
theorem dX1_openPart_0 : decode cX1_openPart 0 = .ok (.aload_n 0, 1) := by decide +kernel
theorem dX1_openPart_1 : decode cX1_openPart 1 = .ok (.getfield 57, 3) := by decide +kernel
theorem dX1_openPart_4 : decode cX1_openPart 4 = .ok (.bipush 30, 2) := by decide +kernel
theorem dX1_openPart_6 : decode cX1_openPart 6 = .ok (.if_icmp .lt 7, 3) := by decide +kernel
theorem dX1_openPart_9 : decode cX1_openPart 9 = .ok (.aload_n 0, 1) := by decide +kernel
theorem dX1_openPart_10 : decode cX1_openPart 10 = .ok (.invokevirtual 54, 3) := by decide +kernel
theorem dX1_openPart_13 : decode cX1_openPart 13 = .ok (.aload_n 0, 1) := by decide +kernel
theorem dX1_openPart_14 : decode cX1_openPart 14 = .ok (.dup, 1) := by decide +kernel
theorem dX1_openPart_15 : decode cX1_openPart 15 = .ok (.getfield 57, 3) := by decide +kernel
theorem dX1_openPart_18 : decode cX1_openPart 18 = .ok (.iconst 1, 1) := by decide +kernel
theorem dX1_openPart_19 : decode cX1_openPart 19 = .ok (.iadd, 1) := by decide +kernel
theorem dX1_openPart_20 : decode cX1_openPart 20 = .ok (.putfield 57, 3) := by decide +kernel
theorem dX1_openPart_23 : decode cX1_openPart 23 = .ok (.return_, 1) := by decide +kernel
theorem dX1_closePart_0 : decode cX1_closePart 0 = .ok (.aload_n 0, 1) := by decide +kernel
theorem dX1_closePart_1 : decode cX1_closePart 1 = .ok (.dup, 1) := by decide +kernel
theorem dX1_closePart_2 : decode cX1_closePart 2 = .ok (.getfield 57, 3) := by decide +kernel
theorem dX1_closePart_5 : decode cX1_closePart 5 = .ok (.iconst 1, 1) := by decide +kernel
theorem dX1_closePart_6 : decode cX1_closePart 6 = .ok (.isub, 1) := by decide +kernel
theorem dX1_closePart_7 : decode cX1_closePart 7 = .ok (.putfield 57, 3) := by decide +kernel
theorem dX1_closePart_10 : decode cX1_closePart 10 = .ok (.return_, 1) := by decide +kernel
theorem dX1_enter_0 : decode cX1_enter 0 = .ok (.aload_n 0, 1) := by decide +kernel
theorem dX1_enter_1 : decode cX1_enter 1 = .ok (.iload_n 1, 1) := by decide +kernel
theorem dX1_enter_2 : decode cX1_enter 2 = .ok (.invokevirtual 46, 3) := by decide +kernel
theorem dX1_enter_5 : decode cX1_enter 5 = .ok (.ifCond .ne 7, 3) := by decide +kernel
theorem dX1_enter_8 : decode cX1_enter 8 = .ok (.aload_n 0, 1) := by decide +kernel
theorem dX1_enter_9 : decode cX1_enter 9 = .ok (.invokevirtual 54, 3) := by decide +kernel
theorem dX1_enter_12 : decode cX1_enter 12 = .ok (.aload_n 0, 1) := by decide +kernel
theorem dX1_enter_13 : decode cX1_enter 13 = .ok (.invokevirtual 60, 3) := by decide +kernel
theorem dX1_enter_16 : decode cX1_enter 16 = .ok (.aload_n 0, 1) := by decide +kernel
theorem dX1_enter_17 : decode cX1_enter 17 = .ok (.invokevirtual 50, 3) := by decide +kernel
theorem dX1_enter_20 : decode cX1_enter 20 = .ok (.ireturn, 1) := by decide +kernel
theorem dX1_leave_0 : decode cX1_leave 0 = .ok (.aload_n 0, 1) := by decide +kernel
theorem dX1_leave_1 : decode cX1_leave 1 = .ok (.iload_n 1, 1) := by decide +kernel
theorem dX1_leave_2 : decode cX1_leave 2 = .ok (.invokevirtual 63, 3) := by decide +kernel
theorem dX1_leave_5 : decode cX1_leave 5 = .ok (.pop, 1) := by decide +kernel
theorem dX1_leave_6 : decode cX1_leave 6 = .ok (.aload_n 0, 1) := by decide +kernel
theorem dX1_leave_7 : decode cX1_leave 7 = .ok (.invokevirtual 66, 3) := by decide +kernel
theorem dX1_leave_10 : decode cX1_leave 10 = .ok (.return_, 1) := by decide +kernel
theorem dX1_putLeaf_0 : decode cX1_putLeaf 0 = .ok (.aload_n 0, 1) := by decide +kernel
theorem dX1_putLeaf_1 : decode cX1_putLeaf 1 = .ok (.getfield 17, 3) := by decide +kernel
theorem dX1_putLeaf_4 : decode cX1_putLeaf 4 = .ok (.iload_n 1, 1) := by decide +kernel
theorem dX1_putLeaf_5 : decode cX1_putLeaf 5 = .ok (.aload_n 0, 1) := by decide +kernel
theorem dX1_putLeaf_6 : decode cX1_putLeaf 6 = .ok (.invokevirtual 50, 3) := by decide +kernel
theorem dX1_putLeaf_9 : decode cX1_putLeaf 9 = .ok (.iconst 0, 1) := by decide +kernel
theorem dX1_putLeaf_10 : decode cX1_putLeaf 10 = .ok (.invokevirtual 69, 3) := by decide +kernel
theorem dX1_putLeaf_13 : decode cX1_putLeaf 13 = .ok (.return_, 1) := by decide +kernel
theorem dX1_name_0 : decode cX1_name 0 = .ok (.aload_n 0, 1) := by decide +kernel
theorem dX1_name_1 : decode cX1_name 1 = .ok (.iconst 1, 1) := by decide +kernel
theorem dX1_name_2 : decode cX1_name 2 = .ok (.invokevirtual 46, 3) := by decide +kernel
theorem dX1_name_5 : decode cX1_name 5 = .ok (.ifCond .ne 7, 3) := by decide +kernel
theorem dX1_name_8 : decode cX1_name 8 = .ok (.aload_n 0, 1) := by decide +kernel
theorem dX1_name_9 : decode cX1_name 9 = .ok (.invokevirtual 54, 3) := by decide +kernel
theorem dX1_name_12 : decode cX1_name 12 = .ok (.aload_n 0, 1) := by decide +kernel
theorem dX1_name_13 : decode cX1_name 13 = .ok (.getfield 17, 3) := by decide +kernel
theorem dX1_name_16 : decode cX1_name 16 = .ok (.iconst 5, 1) := by decide +kernel
theorem dX1_name_17 : decode cX1_name 17 = .ok (.aload_n 0, 1) := by decide +kernel
theorem dX1_name_18 : decode cX1_name 18 = .ok (.invokevirtual 50, 3) := by decide +kernel
theorem dX1_name_21 : decode cX1_name 21 = .ok (.iconst 0, 1) := by decide +kernel
theorem dX1_name_22 : decode cX1_name 22 = .ok (.invokevirtual 69, 3) := by decide +kernel
theorem dX1_name_25 : decode cX1_name 25 = .ok (.return_, 1) := by decide +kernel
theorem dX1_file_0 : decode cX1_file 0 = .ok (.aload_n 0, 1) := by decide +kernel
theorem dX1_file_1 : decode cX1_file 1 = .ok (.bipush 27, 2) := by decide +kernel
theorem dX1_file_3 : decode cX1_file 3 = .ok (.invokevirtual 63, 3) := by decide +kernel
theorem dX1_file_6 : decode cX1_file 6 = .ok (.istore_n 1, 1) := by decide +kernel
theorem dX1_file_7 : decode cX1_file 7 = .ok (.aload_n 0, 1) := by decide +kernel
theorem dX1_file_8 : decode cX1_file 8 = .ok (.invokevirtual 79, 3) := by decide +kernel
theorem dX1_file_11 : decode cX1_file 11 = .ok (.aload_n 0, 1) := by decide +kernel
theorem dX1_file_12 : decode cX1_file 12 = .ok (.bipush 85, 2) := by decide +kernel
theorem dX1_file_14 : decode cX1_file 14 = .ok (.invokevirtual 63, 3) := by decide +kernel
theorem dX1_file_17 : decode cX1_file 17 = .ok (.pop, 1) := by decide +kernel
theorem dX1_file_18 : decode cX1_file 18 = .ok (.iconst 1, 1) := by decide +kernel
theorem dX1_file_19 : decode cX1_file 19 = .ok (.istore_n 2, 1) := by decide +kernel
theorem dX1_file_20 : decode cX1_file 20 = .ok (.iload_n 2, 1) := by decide +kernel
theorem dX1_file_21 : decode cX1_file 21 = .ok (.sipush 16385, 3) := by decide +kernel
theorem dX1_file_24 : decode cX1_file 24 = .ok (.if_icmp .ge 61, 3) := by decide +kernel
theorem dX1_file_27 : decode cX1_file 27 = .ok (.aload_n 0, 1) := by decide +kernel
theorem dX1_file_28 : decode cX1_file 28 = .ok (.iconst 0, 1) := by decide +kernel
theorem dX1_file_29 : decode cX1_file 29 = .ok (.invokevirtual 46, 3) := by decide +kernel
theorem dX1_file_32 : decode cX1_file 32 = .ok (.ifCond .ne 53, 3) := by decide +kernel
theorem dX1_file_35 : decode cX1_file 35 = .ok (.aload_n 0, 1) := by decide +kernel
theorem dX1_file_36 : decode cX1_file 36 = .ok (.bipush 20, 2) := by decide +kernel
theorem dX1_file_38 : decode cX1_file 38 = .ok (.invokevirtual 46, 3) := by decide +kernel
theorem dX1_file_41 : decode cX1_file 41 = .ok (.ifCond .eq 10, 3) := by decide +kernel
theorem dX1_file_44 : decode cX1_file 44 = .ok (.aload_n 0, 1) := by decide +kernel
theorem dX1_file_45 : decode cX1_file 45 = .ok (.invokevirtual 82, 3) := by decide +kernel
theorem dX1_file_48 : decode cX1_file 48 = .ok (.goto 24, 3) := by decide +kernel
theorem dX1_file_51 : decode cX1_file 51 = .ok (.aload_n 0, 1) := by decide +kernel
theorem dX1_file_52 : decode cX1_file 52 = .ok (.getfield 33, 3) := by decide +kernel
theorem dX1_file_55 : decode cX1_file 55 = .ok (.invokestatic 85, 3) := by decide +kernel
theorem dX1_file_58 : decode cX1_file 58 = .ok (.ifCond .eq 10, 3) := by decide +kernel
theorem dX1_file_61 : decode cX1_file 61 = .ok (.aload_n 0, 1) := by decide +kernel
theorem dX1_file_62 : decode cX1_file 62 = .ok (.invokevirtual 88, 3) := by decide +kernel
theorem dX1_file_65 : decode cX1_file 65 = .ok (.goto 7, 3) := by decide +kernel
theorem dX1_file_68 : decode cX1_file 68 = .ok (.aload_n 0, 1) := by decide +kernel
theorem dX1_file_69 : decode cX1_file 69 = .ok (.invokevirtual 54, 3) := by decide +kernel
theorem dX1_file_72 : decode cX1_file 72 = .ok (.aload_n 0, 1) := by decide +kernel
theorem dX1_file_73 : decode cX1_file 73 = .ok (.bipush 85, 2) := by decide +kernel
theorem dX1_file_75 : decode cX1_file 75 = .ok (.invokevirtual 63, 3) := by decide +kernel
theorem dX1_file_78 : decode cX1_file 78 = .ok (.pop, 1) := by decide +kernel
theorem dX1_file_79 : decode cX1_file 79 = .ok (.iinc 2 1, 3) := by decide +kernel
theorem dX1_file_82 : decode cX1_file 82 = .ok (.goto (-62), 3) := by decide +kernel
theorem dX1_file_85 : decode cX1_file 85 = .ok (.aload_n 0, 1) := by decide +kernel
theorem dX1_file_86 : decode cX1_file 86 = .ok (.getfield 17, 3) := by decide +kernel
theorem dX1_file_89 : decode cX1_file 89 = .ok (.iconst 1, 1) := by decide +kernel
theorem dX1_file_90 : decode cX1_file 90 = .ok (.iload_n 1, 1) := by decide +kernel
theorem dX1_file_91 : decode cX1_file 91 = .ok (.iload_n 2, 1) := by decide +kernel
theorem dX1_file_92 : decode cX1_file 92 = .ok (.invokevirtual 69, 3) := by decide +kernel
theorem dX1_file_95 : decode cX1_file 95 = .ok (.return_, 1) := by decide +kernel
theorem dX1_functionDecl_0 : decode cX1_functionDecl 0 = .ok (.aload_n 0, 1) := by decide +kernel
theorem dX1_functionDecl_1 : decode cX1_functionDecl 1 = .ok (.invokevirtual 50, 3) := by decide +kernel
theorem dX1_functionDecl_4 : decode cX1_functionDecl 4 = .ok (.istore_n 1, 1) := by decide +kernel
theorem dX1_functionDecl_5 : decode cX1_functionDecl 5 = .ok (.aload_n 0, 1) := by decide +kernel
theorem dX1_functionDecl_6 : decode cX1_functionDecl 6 = .ok (.bipush 78, 2) := by decide +kernel
theorem dX1_functionDecl_8 : decode cX1_functionDecl 8 = .ok (.invokevirtual 46, 3) := by decide +kernel
theorem dX1_functionDecl_11 : decode cX1_functionDecl 11 = .ok (.istore_n 2, 1) := by decide +kernel
theorem dX1_functionDecl_12 : decode cX1_functionDecl 12 = .ok (.iload_n 2, 1) := by decide +kernel
theorem dX1_functionDecl_13 : decode cX1_functionDecl 13 = .ok (.ifCond .eq 7, 3) := by decide +kernel
theorem dX1_functionDecl_16 : decode cX1_functionDecl 16 = .ok (.aload_n 0, 1) := by decide +kernel
theorem dX1_functionDecl_17 : decode cX1_functionDecl 17 = .ok (.invokevirtual 91, 3) := by decide +kernel
theorem dX1_functionDecl_20 : decode cX1_functionDecl 20 = .ok (.aload_n 0, 1) := by decide +kernel
theorem dX1_functionDecl_21 : decode cX1_functionDecl 21 = .ok (.invokevirtual 79, 3) := by decide +kernel
theorem dX1_functionDecl_24 : decode cX1_functionDecl 24 = .ok (.aload_n 0, 1) := by decide +kernel
theorem dX1_functionDecl_25 : decode cX1_functionDecl 25 = .ok (.invokevirtual 94, 3) := by decide +kernel
theorem dX1_functionDecl_28 : decode cX1_functionDecl 28 = .ok (.aload_n 0, 1) := by decide +kernel
theorem dX1_functionDecl_29 : decode cX1_functionDecl 29 = .ok (.invokevirtual 97, 3) := by decide +kernel
theorem dX1_functionDecl_32 : decode cX1_functionDecl 32 = .ok (.iload_n 2, 1) := by decide +kernel
theorem dX1_functionDecl_33 : decode cX1_functionDecl 33 = .ok (.ifCond .eq 16, 3) := by decide +kernel
theorem dX1_functionDecl_36 : decode cX1_functionDecl 36 = .ok (.aload_n 0, 1) := by decide +kernel
theorem dX1_functionDecl_37 : decode cX1_functionDecl 37 = .ok (.getfield 17, 3) := by decide +kernel
theorem dX1_functionDecl_40 : decode cX1_functionDecl 40 = .ok (.iconst 3, 1) := by decide +kernel
theorem dX1_functionDecl_41 : decode cX1_functionDecl 41 = .ok (.iload_n 1, 1) := by decide +kernel
theorem dX1_functionDecl_42 : decode cX1_functionDecl 42 = .ok (.iconst 4, 1) := by decide +kernel
theorem dX1_functionDecl_43 : decode cX1_functionDecl 43 = .ok (.invokevirtual 69, 3) := by decide +kernel
theorem dX1_functionDecl_46 : decode cX1_functionDecl 46 = .ok (.goto 13, 3) := by decide +kernel
theorem dX1_functionDecl_49 : decode cX1_functionDecl 49 = .ok (.aload_n 0, 1) := by decide +kernel
theorem dX1_functionDecl_50 : decode cX1_functionDecl 50 = .ok (.getfield 17, 3) := by decide +kernel
theorem dX1_functionDecl_53 : decode cX1_functionDecl 53 = .ok (.iconst 2, 1) := by decide +kernel
theorem dX1_functionDecl_54 : decode cX1_functionDecl 54 = .ok (.iload_n 1, 1) := by decide +kernel
theorem dX1_functionDecl_55 : decode cX1_functionDecl 55 = .ok (.iconst 3, 1) := by decide +kernel
theorem dX1_functionDecl_56 : decode cX1_functionDecl 56 = .ok (.invokevirtual 69, 3) := by decide +kernel
theorem dX1_functionDecl_59 : decode cX1_functionDecl 59 = .ok (.return_, 1) := by decide +kernel
theorem dX1_receiver_0 : decode cX1_receiver 0 = .ok (.aload_n 0, 1) := by decide +kernel
theorem dX1_receiver_1 : decode cX1_receiver 1 = .ok (.bipush 78, 2) := by decide +kernel
theorem dX1_receiver_3 : decode cX1_receiver 3 = .ok (.invokevirtual 100, 3) := by decide +kernel
theorem dX1_receiver_6 : decode cX1_receiver 6 = .ok (.istore_n 1, 1) := by decide +kernel
theorem dX1_receiver_7 : decode cX1_receiver 7 = .ok (.iconst 1, 1) := by decide +kernel
theorem dX1_receiver_8 : decode cX1_receiver 8 = .ok (.istore_n 2, 1) := by decide +kernel
theorem dX1_receiver_9 : decode cX1_receiver 9 = .ok (.aload_n 0, 1) := by decide +kernel
theorem dX1_receiver_10 : decode cX1_receiver 10 = .ok (.iconst 1, 1) := by decide +kernel
theorem dX1_receiver_11 : decode cX1_receiver 11 = .ok (.invokevirtual 46, 3) := by decide +kernel
theorem dX1_receiver_14 : decode cX1_receiver 14 = .ok (.ifCond .ne 10, 3) := by decide +kernel
theorem dX1_receiver_17 : decode cX1_receiver 17 = .ok (.aload_n 0, 1) := by decide +kernel
theorem dX1_receiver_18 : decode cX1_receiver 18 = .ok (.invokevirtual 103, 3) := by decide +kernel
theorem dX1_receiver_21 : decode cX1_receiver 21 = .ok (.goto 23, 3) := by decide +kernel
theorem dX1_receiver_24 : decode cX1_receiver 24 = .ok (.aload_n 0, 1) := by decide +kernel
theorem dX1_receiver_25 : decode cX1_receiver 25 = .ok (.invokevirtual 79, 3) := by decide +kernel
theorem dX1_receiver_28 : decode cX1_receiver 28 = .ok (.aload_n 0, 1) := by decide +kernel
theorem dX1_receiver_29 : decode cX1_receiver 29 = .ok (.bipush 79, 2) := by decide +kernel
theorem dX1_receiver_31 : decode cX1_receiver 31 = .ok (.invokevirtual 46, 3) := by decide +kernel
theorem dX1_receiver_34 : decode cX1_receiver 34 = .ok (.ifCond .ne 10, 3) := by decide +kernel
theorem dX1_receiver_37 : decode cX1_receiver 37 = .ok (.aload_n 0, 1) := by decide +kernel
theorem dX1_receiver_38 : decode cX1_receiver 38 = .ok (.invokevirtual 103, 3) := by decide +kernel
theorem dX1_receiver_41 : decode cX1_receiver 41 = .ok (.iinc 2 1, 3) := by decide +kernel
theorem dX1_receiver_44 : decode cX1_receiver 44 = .ok (.aload_n 0, 1) := by decide +kernel
theorem dX1_receiver_45 : decode cX1_receiver 45 = .ok (.bipush 79, 2) := by decide +kernel
theorem dX1_receiver_47 : decode cX1_receiver 47 = .ok (.invokevirtual 106, 3) := by decide +kernel
theorem dX1_receiver_50 : decode cX1_receiver 50 = .ok (.aload_n 0, 1) := by decide +kernel
theorem dX1_receiver_51 : decode cX1_receiver 51 = .ok (.getfield 17, 3) := by decide +kernel
theorem dX1_receiver_54 : decode cX1_receiver 54 = .ok (.iconst 4, 1) := by decide +kernel
theorem dX1_receiver_55 : decode cX1_receiver 55 = .ok (.iload_n 1, 1) := by decide +kernel
theorem dX1_receiver_56 : decode cX1_receiver 56 = .ok (.iload_n 2, 1) := by decide +kernel
theorem dX1_receiver_57 : decode cX1_receiver 57 = .ok (.invokevirtual 69, 3) := by decide +kernel
theorem dX1_receiver_60 : decode cX1_receiver 60 = .ok (.return_, 1) := by decide +kernel
theorem dX1_decl_0 : decode cX1_decl 0 = .ok (.aload_n 0, 1) := by decide +kernel
theorem dX1_decl_1 : decode cX1_decl 1 = .ok (.getfield 33, 3) := by decide +kernel
theorem dX1_decl_4 : decode cX1_decl 4 = .ok (.istore_n 1, 1) := by decide +kernel
theorem dX1_decl_5 : decode cX1_decl 5 = .ok (.aload_n 0, 1) := by decide +kernel
theorem dX1_decl_6 : decode cX1_decl 6 = .ok (.invokevirtual 50, 3) := by decide +kernel
theorem dX1_decl_9 : decode cX1_decl 9 = .ok (.istore_n 2, 1) := by decide +kernel
theorem dX1_decl_10 : decode cX1_decl 10 = .ok (.iconst 1, 1) := by decide +kernel
theorem dX1_decl_11 : decode cX1_decl 11 = .ok (.istore_n 3, 1) := by decide +kernel
theorem dX1_decl_12 : decode cX1_decl 12 = .ok (.aload_n 0, 1) := by decide +kernel
theorem dX1_decl_13 : decode cX1_decl 13 = .ok (.bipush 78, 2) := by decide +kernel
theorem dX1_decl_15 : decode cX1_decl 15 = .ok (.invokevirtual 46, 3) := by decide +kernel
theorem dX1_decl_18 : decode cX1_decl 18 = .ok (.ifCond .eq 12, 3) := by decide +kernel
theorem dX1_decl_21 : decode cX1_decl 21 = .ok (.aload_n 0, 1) := by decide +kernel
theorem dX1_decl_22 : decode cX1_decl 22 = .ok (.iload_n 1, 1) := by decide +kernel
theorem dX1_decl_23 : decode cX1_decl 23 = .ok (.invokevirtual 110, 3) := by decide +kernel
theorem dX1_decl_26 : decode cX1_decl 26 = .ok (.istore_n 3, 1) := by decide +kernel
theorem dX1_decl_27 : decode cX1_decl 27 = .ok (.goto 8, 3) := by decide +kernel
theorem dX1_decl_30 : decode cX1_decl 30 = .ok (.aload_n 0, 1) := by decide +kernel
theorem dX1_decl_31 : decode cX1_decl 31 = .ok (.iload_n 1, 1) := by decide +kernel
theorem dX1_decl_32 : decode cX1_decl 32 = .ok (.invokevirtual 113, 3) := by decide +kernel
theorem dX1_decl_35 : decode cX1_decl 35 = .ok (.aload_n 0, 1) := by decide +kernel
theorem dX1_decl_36 : decode cX1_decl 36 = .ok (.getfield 17, 3) := by decide +kernel
theorem dX1_decl_39 : decode cX1_decl 39 = .ok (.iload_n 1, 1) := by decide +kernel
theorem dX1_decl_40 : decode cX1_decl 40 = .ok (.invokestatic 116, 3) := by decide +kernel
theorem dX1_decl_43 : decode cX1_decl 43 = .ok (.iload_n 2, 1) := by decide +kernel
theorem dX1_decl_44 : decode cX1_decl 44 = .ok (.iload_n 3, 1) := by decide +kernel
theorem dX1_decl_45 : decode cX1_decl 45 = .ok (.invokevirtual 69, 3) := by decide +kernel
theorem dX1_decl_48 : decode cX1_decl 48 = .ok (.return_, 1) := by decide +kernel
theorem dX1_groupWhat_0 : decode cX1_groupWhat 0 = .ok (.iload_n 0, 1) := by decide +kernel
theorem dX1_groupWhat_1 : decode cX1_groupWhat 1 = .ok (.lookupswitch 33 #[(13, 27), (33, 30)], 27) := by decide +kernel
theorem dX1_groupWhat_28 : decode cX1_groupWhat 28 = .ok (.bipush 6, 2) := by decide +kernel
theorem dX1_groupWhat_30 : decode cX1_groupWhat 30 = .ok (.ireturn, 1) := by decide +kernel
theorem dX1_groupWhat_31 : decode cX1_groupWhat 31 = .ok (.bipush 7, 2) := by decide +kernel
theorem dX1_groupWhat_33 : decode cX1_groupWhat 33 = .ok (.ireturn, 1) := by decide +kernel
theorem dX1_groupWhat_34 : decode cX1_groupWhat 34 = .ok (.bipush 8, 2) := by decide +kernel
theorem dX1_groupWhat_36 : decode cX1_groupWhat 36 = .ok (.ireturn, 1) := by decide +kernel
theorem dX1_group_0 : decode cX1_group 0 = .ok (.aload_n 0, 1) := by decide +kernel
theorem dX1_group_1 : decode cX1_group 1 = .ok (.getfield 119, 3) := by decide +kernel
theorem dX1_group_4 : decode cX1_group 4 = .ok (.istore_n 2, 1) := by decide +kernel
theorem dX1_group_5 : decode cX1_group 5 = .ok (.aload_n 0, 1) := by decide +kernel
theorem dX1_group_6 : decode cX1_group 6 = .ok (.bipush 78, 2) := by decide +kernel
theorem dX1_group_8 : decode cX1_group 8 = .ok (.invokevirtual 100, 3) := by decide +kernel
theorem dX1_group_11 : decode cX1_group 11 = .ok (.pop, 1) := by decide +kernel
theorem dX1_group_12 : decode cX1_group 12 = .ok (.aload_n 0, 1) := by decide +kernel
theorem dX1_group_13 : decode cX1_group 13 = .ok (.iconst 0, 1) := by decide +kernel
theorem dX1_group_14 : decode cX1_group 14 = .ok (.putfield 119, 3) := by decide +kernel
theorem dX1_group_17 : decode cX1_group 17 = .ok (.iconst 0, 1) := by decide +kernel
theorem dX1_group_18 : decode cX1_group 18 = .ok (.istore_n 3, 1) := by decide +kernel
theorem dX1_group_19 : decode cX1_group 19 = .ok (.iconst 1, 1) := by decide +kernel
theorem dX1_group_20 : decode cX1_group 20 = .ok (.istore 4, 2) := by decide +kernel
theorem dX1_group_22 : decode cX1_group 22 = .ok (.iload_n 3, 1) := by decide +kernel
theorem dX1_group_23 : decode cX1_group 23 = .ok (.sipush 16385, 3) := by decide +kernel
theorem dX1_group_26 : decode cX1_group 26 = .ok (.if_icmp .ge 35, 3) := by decide +kernel
theorem dX1_group_29 : decode cX1_group 29 = .ok (.iload 4, 2) := by decide +kernel
theorem dX1_group_31 : decode cX1_group 31 = .ok (.ifCond .eq 30, 3) := by decide +kernel
theorem dX1_group_34 : decode cX1_group 34 = .ok (.aload_n 0, 1) := by decide +kernel
theorem dX1_group_35 : decode cX1_group 35 = .ok (.iconst 1, 1) := by decide +kernel
theorem dX1_group_36 : decode cX1_group 36 = .ok (.invokevirtual 46, 3) := by decide +kernel
theorem dX1_group_39 : decode cX1_group 39 = .ok (.ifCond .eq 22, 3) := by decide +kernel
theorem dX1_group_42 : decode cX1_group 42 = .ok (.aload_n 0, 1) := by decide +kernel
theorem dX1_group_43 : decode cX1_group 43 = .ok (.iload_n 1, 1) := by decide +kernel
theorem dX1_group_44 : decode cX1_group 44 = .ok (.invokevirtual 113, 3) := by decide +kernel
theorem dX1_group_47 : decode cX1_group 47 = .ok (.iinc 3 1, 3) := by decide +kernel
theorem dX1_group_50 : decode cX1_group 50 = .ok (.aload_n 0, 1) := by decide +kernel
theorem dX1_group_51 : decode cX1_group 51 = .ok (.bipush 85, 2) := by decide +kernel
theorem dX1_group_53 : decode cX1_group 53 = .ok (.invokevirtual 123, 3) := by decide +kernel
theorem dX1_group_56 : decode cX1_group 56 = .ok (.istore 4, 2) := by decide +kernel
theorem dX1_group_58 : decode cX1_group 58 = .ok (.goto (-36), 3) := by decide +kernel
theorem dX1_group_61 : decode cX1_group 61 = .ok (.aload_n 0, 1) := by decide +kernel
theorem dX1_group_62 : decode cX1_group 62 = .ok (.bipush 79, 2) := by decide +kernel
theorem dX1_group_64 : decode cX1_group 64 = .ok (.invokevirtual 106, 3) := by decide +kernel
theorem dX1_group_67 : decode cX1_group 67 = .ok (.aload_n 0, 1) := by decide +kernel
theorem dX1_group_68 : decode cX1_group 68 = .ok (.iload_n 2, 1) := by decide +kernel
theorem dX1_group_69 : decode cX1_group 69 = .ok (.putfield 119, 3) := by decide +kernel
theorem dX1_group_72 : decode cX1_group 72 = .ok (.iload_n 3, 1) := by decide +kernel
theorem dX1_group_73 : decode cX1_group 73 = .ok (.ireturn, 1) := by decide +kernel
theorem dX1_spec_0 : decode cX1_spec 0 = .ok (.iload_n 1, 1) := by decide +kernel
theorem dX1_spec_1 : decode cX1_spec 1 = .ok (.lookupswitch 41 #[(13, 27), (33, 34)], 27) := by decide +kernel
theorem dX1_spec_28 : decode cX1_spec 28 = .ok (.aload_n 0, 1) := by decide +kernel
theorem dX1_spec_29 : decode cX1_spec 29 = .ok (.invokevirtual 126, 3) := by decide +kernel
theorem dX1_spec_32 : decode cX1_spec 32 = .ok (.goto 14, 3) := by decide +kernel
theorem dX1_spec_35 : decode cX1_spec 35 = .ok (.aload_n 0, 1) := by decide +kernel
theorem dX1_spec_36 : decode cX1_spec 36 = .ok (.invokevirtual 129, 3) := by decide +kernel
theorem dX1_spec_39 : decode cX1_spec 39 = .ok (.goto 7, 3) := by decide +kernel
theorem dX1_spec_42 : decode cX1_spec 42 = .ok (.aload_n 0, 1) := by decide +kernel
theorem dX1_spec_43 : decode cX1_spec 43 = .ok (.invokevirtual 132, 3) := by decide +kernel
theorem dX1_spec_46 : decode cX1_spec 46 = .ok (.return_, 1) := by decide +kernel
theorem dX1_constSpec_0 : decode cX1_constSpec 0 = .ok (.aload_n 0, 1) := by decide +kernel
theorem dX1_constSpec_1 : decode cX1_constSpec 1 = .ok (.getfield 43, 3) := by decide +kernel
theorem dX1_constSpec_4 : decode cX1_constSpec 4 = .ok (.istore_n 1, 1) := by decide +kernel
theorem dX1_constSpec_5 : decode cX1_constSpec 5 = .ok (.aload_n 0, 1) := by decide +kernel
theorem dX1_constSpec_6 : decode cX1_constSpec 6 = .ok (.invokevirtual 135, 3) := by decide +kernel
theorem dX1_constSpec_9 : decode cX1_constSpec 9 = .ok (.iconst 1, 1) := by decide +kernel
theorem dX1_constSpec_10 : decode cX1_constSpec 10 = .ok (.istore_n 2, 1) := by decide +kernel
theorem dX1_constSpec_11 : decode cX1_constSpec 11 = .ok (.aload_n 0, 1) := by decide +kernel
theorem dX1_constSpec_12 : decode cX1_constSpec 12 = .ok (.getfield 33, 3) := by decide +kernel
theorem dX1_constSpec_15 : decode cX1_constSpec 15 = .ok (.invokestatic 138, 3) := by decide +kernel
theorem dX1_constSpec_18 : decode cX1_constSpec 18 = .ok (.ifCond .eq 23, 3) := by decide +kernel
theorem dX1_constSpec_21 : decode cX1_constSpec 21 = .ok (.aload_n 0, 1) := by decide +kernel
theorem dX1_constSpec_22 : decode cX1_constSpec 22 = .ok (.invokevirtual 103, 3) := by decide +kernel
theorem dX1_constSpec_25 : decode cX1_constSpec 25 = .ok (.iinc 2 1, 3) := by decide +kernel
theorem dX1_constSpec_28 : decode cX1_constSpec 28 = .ok (.aload_n 0, 1) := by decide +kernel
theorem dX1_constSpec_29 : decode cX1_constSpec 29 = .ok (.bipush 70, 2) := by decide +kernel
theorem dX1_constSpec_31 : decode cX1_constSpec 31 = .ok (.invokevirtual 46, 3) := by decide +kernel
theorem dX1_constSpec_34 : decode cX1_constSpec 34 = .ok (.ifCond .ne 7, 3) := by decide +kernel
theorem dX1_constSpec_37 : decode cX1_constSpec 37 = .ok (.aload_n 0, 1) := by decide +kernel
theorem dX1_constSpec_38 : decode cX1_constSpec 38 = .ok (.invokevirtual 54, 3) := by decide +kernel
theorem dX1_constSpec_41 : decode cX1_constSpec 41 = .ok (.aload_n 0, 1) := by decide +kernel
theorem dX1_constSpec_42 : decode cX1_constSpec 42 = .ok (.bipush 70, 2) := by decide +kernel
theorem dX1_constSpec_44 : decode cX1_constSpec 44 = .ok (.invokevirtual 123, 3) := by decide +kernel
theorem dX1_constSpec_47 : decode cX1_constSpec 47 = .ok (.ifCond .eq 10, 3) := by decide +kernel
theorem dX1_constSpec_50 : decode cX1_constSpec 50 = .ok (.aload_n 0, 1) := by decide +kernel
theorem dX1_constSpec_51 : decode cX1_constSpec 51 = .ok (.invokevirtual 141, 3) := by decide +kernel
theorem dX1_constSpec_54 : decode cX1_constSpec 54 = .ok (.iinc 2 1, 3) := by decide +kernel
theorem dX1_constSpec_57 : decode cX1_constSpec 57 = .ok (.aload_n 0, 1) := by decide +kernel
theorem dX1_constSpec_58 : decode cX1_constSpec 58 = .ok (.getfield 17, 3) := by decide +kernel
theorem dX1_constSpec_61 : decode cX1_constSpec 61 = .ok (.bipush 9, 2) := by decide +kernel
theorem dX1_constSpec_63 : decode cX1_constSpec 63 = .ok (.iload_n 1, 1) := by decide +kernel
theorem dX1_constSpec_64 : decode cX1_constSpec 64 = .ok (.iload_n 2, 1) := by decide +kernel
theorem dX1_constSpec_65 : decode cX1_constSpec 65 = .ok (.invokevirtual 69, 3) := by decide +kernel
theorem dX1_constSpec_68 : decode cX1_constSpec 68 = .ok (.return_, 1) := by decide +kernel
theorem dX1_typeSpec_0 : decode cX1_typeSpec 0 = .ok (.aload_n 0, 1) := by decide +kernel
theorem dX1_typeSpec_1 : decode cX1_typeSpec 1 = .ok (.getfield 43, 3) := by decide +kernel
theorem dX1_typeSpec_4 : decode cX1_typeSpec 4 = .ok (.istore_n 1, 1) := by decide +kernel
theorem dX1_typeSpec_5 : decode cX1_typeSpec 5 = .ok (.aload_n 0, 1) := by decide +kernel
theorem dX1_typeSpec_6 : decode cX1_typeSpec 6 = .ok (.invokevirtual 79, 3) := by decide +kernel
theorem dX1_typeSpec_9 : decode cX1_typeSpec 9 = .ok (.aload_n 0, 1) := by decide +kernel
theorem dX1_typeSpec_10 : decode cX1_typeSpec 10 = .ok (.invokevirtual 103, 3) := by decide +kernel
theorem dX1_typeSpec_13 : decode cX1_typeSpec 13 = .ok (.aload_n 0, 1) := by decide +kernel
theorem dX1_typeSpec_14 : decode cX1_typeSpec 14 = .ok (.getfield 17, 3) := by decide +kernel
theorem dX1_typeSpec_17 : decode cX1_typeSpec 17 = .ok (.bipush 10, 2) := by decide +kernel
theorem dX1_typeSpec_19 : decode cX1_typeSpec 19 = .ok (.iload_n 1, 1) := by decide +kernel
theorem dX1_typeSpec_20 : decode cX1_typeSpec 20 = .ok (.iconst 2, 1) := by decide +kernel
theorem dX1_typeSpec_21 : decode cX1_typeSpec 21 = .ok (.invokevirtual 69, 3) := by decide +kernel
theorem dX1_typeSpec_24 : decode cX1_typeSpec 24 = .ok (.return_, 1) := by decide +kernel
theorem dX1_varSpec_0 : decode cX1_varSpec 0 = .ok (.aload_n 0, 1) := by decide +kernel
theorem dX1_varSpec_1 : decode cX1_varSpec 1 = .ok (.getfield 43, 3) := by decide +kernel
theorem dX1_varSpec_4 : decode cX1_varSpec 4 = .ok (.istore_n 1, 1) := by decide +kernel
theorem dX1_varSpec_5 : decode cX1_varSpec 5 = .ok (.aload_n 0, 1) := by decide +kernel
theorem dX1_varSpec_6 : decode cX1_varSpec 6 = .ok (.invokevirtual 135, 3) := by decide +kernel
theorem dX1_varSpec_9 : decode cX1_varSpec 9 = .ok (.iconst 1, 1) := by decide +kernel
theorem dX1_varSpec_10 : decode cX1_varSpec 10 = .ok (.istore_n 2, 1) := by decide +kernel
theorem dX1_varSpec_11 : decode cX1_varSpec 11 = .ok (.aload_n 0, 1) := by decide +kernel
theorem dX1_varSpec_12 : decode cX1_varSpec 12 = .ok (.bipush 70, 2) := by decide +kernel
theorem dX1_varSpec_14 : decode cX1_varSpec 14 = .ok (.invokevirtual 46, 3) := by decide +kernel
theorem dX1_varSpec_17 : decode cX1_varSpec 17 = .ok (.ifCond .ne 10, 3) := by decide +kernel
theorem dX1_varSpec_20 : decode cX1_varSpec 20 = .ok (.aload_n 0, 1) := by decide +kernel
theorem dX1_varSpec_21 : decode cX1_varSpec 21 = .ok (.invokevirtual 103, 3) := by decide +kernel
theorem dX1_varSpec_24 : decode cX1_varSpec 24 = .ok (.iinc 2 1, 3) := by decide +kernel
theorem dX1_varSpec_27 : decode cX1_varSpec 27 = .ok (.aload_n 0, 1) := by decide +kernel
theorem dX1_varSpec_28 : decode cX1_varSpec 28 = .ok (.bipush 70, 2) := by decide +kernel
theorem dX1_varSpec_30 : decode cX1_varSpec 30 = .ok (.invokevirtual 123, 3) := by decide +kernel
theorem dX1_varSpec_33 : decode cX1_varSpec 33 = .ok (.ifCond .eq 10, 3) := by decide +kernel
theorem dX1_varSpec_36 : decode cX1_varSpec 36 = .ok (.aload_n 0, 1) := by decide +kernel
theorem dX1_varSpec_37 : decode cX1_varSpec 37 = .ok (.invokevirtual 141, 3) := by decide +kernel
theorem dX1_varSpec_40 : decode cX1_varSpec 40 = .ok (.iinc 2 1, 3) := by decide +kernel
theorem dX1_varSpec_43 : decode cX1_varSpec 43 = .ok (.aload_n 0, 1) := by decide +kernel
theorem dX1_varSpec_44 : decode cX1_varSpec 44 = .ok (.getfield 17, 3) := by decide +kernel
theorem dX1_varSpec_47 : decode cX1_varSpec 47 = .ok (.bipush 11, 2) := by decide +kernel
theorem dX1_varSpec_49 : decode cX1_varSpec 49 = .ok (.iload_n 1, 1) := by decide +kernel
theorem dX1_varSpec_50 : decode cX1_varSpec 50 = .ok (.iload_n 2, 1) := by decide +kernel
theorem dX1_varSpec_51 : decode cX1_varSpec 51 = .ok (.invokevirtual 69, 3) := by decide +kernel
theorem dX1_varSpec_54 : decode cX1_varSpec 54 = .ok (.return_, 1) := by decide +kernel
theorem dX1_names_0 : decode cX1_names 0 = .ok (.aload_n 0, 1) := by decide +kernel
theorem dX1_names_1 : decode cX1_names 1 = .ok (.getfield 43, 3) := by decide +kernel
theorem dX1_names_4 : decode cX1_names 4 = .ok (.istore_n 1, 1) := by decide +kernel
theorem dX1_names_5 : decode cX1_names 5 = .ok (.aload_n 0, 1) := by decide +kernel
theorem dX1_names_6 : decode cX1_names 6 = .ok (.invokevirtual 79, 3) := by decide +kernel
theorem dX1_names_9 : decode cX1_names 9 = .ok (.iconst 1, 1) := by decide +kernel
theorem dX1_names_10 : decode cX1_names 10 = .ok (.istore_n 2, 1) := by decide +kernel
theorem dX1_names_11 : decode cX1_names 11 = .ok (.iload_n 2, 1) := by decide +kernel
theorem dX1_names_12 : decode cX1_names 12 = .ok (.sipush 16385, 3) := by decide +kernel
theorem dX1_names_15 : decode cX1_names 15 = .ok (.if_icmp .ge 22, 3) := by decide +kernel
theorem dX1_names_18 : decode cX1_names 18 = .ok (.aload_n 0, 1) := by decide +kernel
theorem dX1_names_19 : decode cX1_names 19 = .ok (.bipush 84, 2) := by decide +kernel
theorem dX1_names_21 : decode cX1_names 21 = .ok (.invokevirtual 123, 3) := by decide +kernel
theorem dX1_names_24 : decode cX1_names 24 = .ok (.ifCond .eq 13, 3) := by decide +kernel
theorem dX1_names_27 : decode cX1_names 27 = .ok (.aload_n 0, 1) := by decide +kernel
theorem dX1_names_28 : decode cX1_names 28 = .ok (.invokevirtual 79, 3) := by decide +kernel
theorem dX1_names_31 : decode cX1_names 31 = .ok (.iinc 2 1, 3) := by decide +kernel
theorem dX1_names_34 : decode cX1_names 34 = .ok (.goto (-23), 3) := by decide +kernel
theorem dX1_names_37 : decode cX1_names 37 = .ok (.aload_n 0, 1) := by decide +kernel
theorem dX1_names_38 : decode cX1_names 38 = .ok (.getfield 17, 3) := by decide +kernel
theorem dX1_names_41 : decode cX1_names 41 = .ok (.bipush 12, 2) := by decide +kernel
theorem dX1_names_43 : decode cX1_names 43 = .ok (.iload_n 1, 1) := by decide +kernel
theorem dX1_names_44 : decode cX1_names 44 = .ok (.iload_n 2, 1) := by decide +kernel
theorem dX1_names_45 : decode cX1_names 45 = .ok (.invokevirtual 69, 3) := by decide +kernel
theorem dX1_names_48 : decode cX1_names 48 = .ok (.return_, 1) := by decide +kernel
theorem dX1_signature_0 : decode cX1_signature 0 = .ok (.aload_n 0, 1) := by decide +kernel
theorem dX1_signature_1 : decode cX1_signature 1 = .ok (.getfield 43, 3) := by decide +kernel
theorem dX1_signature_4 : decode cX1_signature 4 = .ok (.istore_n 1, 1) := by decide +kernel
theorem dX1_signature_5 : decode cX1_signature 5 = .ok (.aload_n 0, 1) := by decide +kernel
theorem dX1_signature_6 : decode cX1_signature 6 = .ok (.invokevirtual 144, 3) := by decide +kernel
theorem dX1_signature_9 : decode cX1_signature 9 = .ok (.iconst 1, 1) := by decide +kernel
theorem dX1_signature_10 : decode cX1_signature 10 = .ok (.istore_n 2, 1) := by decide +kernel
theorem dX1_signature_11 : decode cX1_signature 11 = .ok (.aload_n 0, 1) := by decide +kernel
theorem dX1_signature_12 : decode cX1_signature 12 = .ok (.bipush 78, 2) := by decide +kernel
theorem dX1_signature_14 : decode cX1_signature 14 = .ok (.invokevirtual 46, 3) := by decide +kernel
theorem dX1_signature_17 : decode cX1_signature 17 = .ok (.ifCond .eq 13, 3) := by decide +kernel
theorem dX1_signature_20 : decode cX1_signature 20 = .ok (.aload_n 0, 1) := by decide +kernel
theorem dX1_signature_21 : decode cX1_signature 21 = .ok (.invokevirtual 144, 3) := by decide +kernel
theorem dX1_signature_24 : decode cX1_signature 24 = .ok (.iinc 2 1, 3) := by decide +kernel
theorem dX1_signature_27 : decode cX1_signature 27 = .ok (.goto 29, 3) := by decide +kernel
theorem dX1_signature_30 : decode cX1_signature 30 = .ok (.aload_n 0, 1) := by decide +kernel
theorem dX1_signature_31 : decode cX1_signature 31 = .ok (.bipush 64, 2) := by decide +kernel
theorem dX1_signature_33 : decode cX1_signature 33 = .ok (.invokevirtual 46, 3) := by decide +kernel
theorem dX1_signature_36 : decode cX1_signature 36 = .ok (.ifCond .ne 20, 3) := by decide +kernel
theorem dX1_signature_39 : decode cX1_signature 39 = .ok (.aload_n 0, 1) := by decide +kernel
theorem dX1_signature_40 : decode cX1_signature 40 = .ok (.getfield 33, 3) := by decide +kernel
theorem dX1_signature_43 : decode cX1_signature 43 = .ok (.invokestatic 138, 3) := by decide +kernel
theorem dX1_signature_46 : decode cX1_signature 46 = .ok (.ifCond .eq 10, 3) := by decide +kernel
theorem dX1_signature_49 : decode cX1_signature 49 = .ok (.aload_n 0, 1) := by decide +kernel
theorem dX1_signature_50 : decode cX1_signature 50 = .ok (.invokevirtual 103, 3) := by decide +kernel
theorem dX1_signature_53 : decode cX1_signature 53 = .ok (.iinc 2 1, 3) := by decide +kernel
theorem dX1_signature_56 : decode cX1_signature 56 = .ok (.aload_n 0, 1) := by decide +kernel
theorem dX1_signature_57 : decode cX1_signature 57 = .ok (.getfield 17, 3) := by decide +kernel
theorem dX1_signature_60 : decode cX1_signature 60 = .ok (.bipush 14, 2) := by decide +kernel
theorem dX1_signature_62 : decode cX1_signature 62 = .ok (.iload_n 1, 1) := by decide +kernel
theorem dX1_signature_63 : decode cX1_signature 63 = .ok (.iload_n 2, 1) := by decide +kernel
theorem dX1_signature_64 : decode cX1_signature 64 = .ok (.invokevirtual 69, 3) := by decide +kernel
theorem dX1_signature_67 : decode cX1_signature 67 = .ok (.return_, 1) := by decide +kernel
theorem dX1_params_0 : decode cX1_params 0 = .ok (.aload_n 0, 1) := by decide +kernel
theorem dX1_params_1 : decode cX1_params 1 = .ok (.bipush 78, 2) := by decide +kernel
theorem dX1_params_3 : decode cX1_params 3 = .ok (.invokevirtual 100, 3) := by decide +kernel
theorem dX1_params_6 : decode cX1_params 6 = .ok (.istore_n 1, 1) := by decide +kernel
theorem dX1_params_7 : decode cX1_params 7 = .ok (.iconst 0, 1) := by decide +kernel
theorem dX1_params_8 : decode cX1_params 8 = .ok (.istore_n 2, 1) := by decide +kernel
theorem dX1_params_9 : decode cX1_params 9 = .ok (.iconst 0, 1) := by decide +kernel
theorem dX1_params_10 : decode cX1_params 10 = .ok (.istore_n 3, 1) := by decide +kernel
theorem dX1_params_11 : decode cX1_params 11 = .ok (.iconst 0, 1) := by decide +kernel
theorem dX1_params_12 : decode cX1_params 12 = .ok (.istore 4, 2) := by decide +kernel
theorem dX1_params_14 : decode cX1_params 14 = .ok (.iconst 1, 1) := by decide +kernel
theorem dX1_params_15 : decode cX1_params 15 = .ok (.istore 5, 2) := by decide +kernel
theorem dX1_params_17 : decode cX1_params 17 = .ok (.iload 4, 2) := by decide +kernel
theorem dX1_params_19 : decode cX1_params 19 = .ok (.sipush 16385, 3) := by decide +kernel
theorem dX1_params_22 : decode cX1_params 22 = .ok (.if_icmp .ge 99, 3) := by decide +kernel
theorem dX1_params_25 : decode cX1_params 25 = .ok (.iload 5, 2) := by decide +kernel
theorem dX1_params_27 : decode cX1_params 27 = .ok (.ifCond .eq 94, 3) := by decide +kernel
theorem dX1_params_30 : decode cX1_params 30 = .ok (.aload_n 0, 1) := by decide +kernel
theorem dX1_params_31 : decode cX1_params 31 = .ok (.bipush 79, 2) := by decide +kernel
theorem dX1_params_33 : decode cX1_params 33 = .ok (.invokevirtual 46, 3) := by decide +kernel
theorem dX1_params_36 : decode cX1_params 36 = .ok (.ifCond .ne 85, 3) := by decide +kernel
theorem dX1_params_39 : decode cX1_params 39 = .ok (.aload_n 0, 1) := by decide +kernel
theorem dX1_params_40 : decode cX1_params 40 = .ok (.iconst 1, 1) := by decide +kernel
theorem dX1_params_41 : decode cX1_params 41 = .ok (.invokevirtual 46, 3) := by decide +kernel
theorem dX1_params_44 : decode cX1_params 44 = .ok (.ifCond .eq 10, 3) := by decide +kernel
theorem dX1_params_47 : decode cX1_params 47 = .ok (.aload_n 0, 1) := by decide +kernel
theorem dX1_params_48 : decode cX1_params 48 = .ok (.invokevirtual 147, 3) := by decide +kernel
theorem dX1_params_51 : decode cX1_params 51 = .ok (.goto 7, 3) := by decide +kernel
theorem dX1_params_54 : decode cX1_params 54 = .ok (.aload_n 0, 1) := by decide +kernel
theorem dX1_params_55 : decode cX1_params 55 = .ok (.getfield 33, 3) := by decide +kernel
theorem dX1_params_58 : decode cX1_params 58 = .ok (.bipush 77, 2) := by decide +kernel
theorem dX1_params_60 : decode cX1_params 60 = .ok (.if_icmp .ne 7, 3) := by decide +kernel
theorem dX1_params_63 : decode cX1_params 63 = .ok (.iconst 1, 1) := by decide +kernel
theorem dX1_params_64 : decode cX1_params 64 = .ok (.goto 4, 3) := by decide +kernel
theorem dX1_params_67 : decode cX1_params 67 = .ok (.iconst 0, 1) := by decide +kernel
theorem dX1_params_68 : decode cX1_params 68 = .ok (.istore 6, 2) := by decide +kernel
theorem dX1_params_70 : decode cX1_params 70 = .ok (.aload_n 0, 1) := by decide +kernel
theorem dX1_params_71 : decode cX1_params 71 = .ok (.iload_n 2, 1) := by decide +kernel
theorem dX1_params_72 : decode cX1_params 72 = .ok (.iload_n 3, 1) := by decide +kernel
theorem dX1_params_73 : decode cX1_params 73 = .ok (.invokevirtual 150, 3) := by decide +kernel
theorem dX1_params_76 : decode cX1_params 76 = .ok (.istore 7, 2) := by decide +kernel
theorem dX1_params_78 : decode cX1_params 78 = .ok (.iinc 4 1, 3) := by decide +kernel
theorem dX1_params_81 : decode cX1_params 81 = .ok (.iload 7, 2) := by decide +kernel
theorem dX1_params_83 : decode cX1_params 83 = .ok (.ifCond .ne 9, 3) := by decide +kernel
theorem dX1_params_86 : decode cX1_params 86 = .ok (.iinc 3 1, 3) := by decide +kernel
theorem dX1_params_89 : decode cX1_params 89 = .ok (.goto 8, 3) := by decide +kernel
theorem dX1_params_92 : decode cX1_params 92 = .ok (.iconst 0, 1) := by decide +kernel
theorem dX1_params_93 : decode cX1_params 93 = .ok (.istore_n 3, 1) := by decide +kernel
theorem dX1_params_94 : decode cX1_params 94 = .ok (.iload 7, 2) := by decide +kernel
theorem dX1_params_96 : decode cX1_params 96 = .ok (.istore_n 2, 1) := by decide +kernel
theorem dX1_params_97 : decode cX1_params 97 = .ok (.aload_n 0, 1) := by decide +kernel
theorem dX1_params_98 : decode cX1_params 98 = .ok (.bipush 84, 2) := by decide +kernel
theorem dX1_params_100 : decode cX1_params 100 = .ok (.invokevirtual 123, 3) := by decide +kernel
theorem dX1_params_103 : decode cX1_params 103 = .ok (.ifCond .eq 12, 3) := by decide +kernel
theorem dX1_params_106 : decode cX1_params 106 = .ok (.iload 6, 2) := by decide +kernel
theorem dX1_params_108 : decode cX1_params 108 = .ok (.ifCond .ne 7, 3) := by decide +kernel
theorem dX1_params_111 : decode cX1_params 111 = .ok (.iconst 1, 1) := by decide +kernel
theorem dX1_params_112 : decode cX1_params 112 = .ok (.goto 4, 3) := by decide +kernel
theorem dX1_params_115 : decode cX1_params 115 = .ok (.iconst 0, 1) := by decide +kernel
theorem dX1_params_116 : decode cX1_params 116 = .ok (.istore 5, 2) := by decide +kernel
theorem dX1_params_118 : decode cX1_params 118 = .ok (.goto (-101), 3) := by decide +kernel
theorem dX1_params_121 : decode cX1_params 121 = .ok (.iload_n 2, 1) := by decide +kernel
theorem dX1_params_122 : decode cX1_params 122 = .ok (.iconst 1, 1) := by decide +kernel
theorem dX1_params_123 : decode cX1_params 123 = .ok (.if_icmp .ne 11, 3) := by decide +kernel
theorem dX1_params_126 : decode cX1_params 126 = .ok (.iload_n 3, 1) := by decide +kernel
theorem dX1_params_127 : decode cX1_params 127 = .ok (.ifCond .le 7, 3) := by decide +kernel
theorem dX1_params_130 : decode cX1_params 130 = .ok (.iconst 1, 1) := by decide +kernel
theorem dX1_params_131 : decode cX1_params 131 = .ok (.goto 4, 3) := by decide +kernel
theorem dX1_params_134 : decode cX1_params 134 = .ok (.iconst 0, 1) := by decide +kernel
theorem dX1_params_135 : decode cX1_params 135 = .ok (.istore 6, 2) := by decide +kernel
theorem dX1_params_137 : decode cX1_params 137 = .ok (.iload 6, 2) := by decide +kernel
theorem dX1_params_139 : decode cX1_params 139 = .ok (.ifCond .eq 7, 3) := by decide +kernel
theorem dX1_params_142 : decode cX1_params 142 = .ok (.aload_n 0, 1) := by decide +kernel
theorem dX1_params_143 : decode cX1_params 143 = .ok (.invokevirtual 54, 3) := by decide +kernel
theorem dX1_params_146 : decode cX1_params 146 = .ok (.aload_n 0, 1) := by decide +kernel
theorem dX1_params_147 : decode cX1_params 147 = .ok (.bipush 79, 2) := by decide +kernel
theorem dX1_params_149 : decode cX1_params 149 = .ok (.invokevirtual 106, 3) := by decide +kernel
theorem dX1_params_152 : decode cX1_params 152 = .ok (.aload_n 0, 1) := by decide +kernel
theorem dX1_params_153 : decode cX1_params 153 = .ok (.getfield 17, 3) := by decide +kernel
theorem dX1_params_156 : decode cX1_params 156 = .ok (.bipush 15, 2) := by decide +kernel
theorem dX1_params_158 : decode cX1_params 158 = .ok (.iload_n 1, 1) := by decide +kernel
theorem dX1_params_159 : decode cX1_params 159 = .ok (.iload 4, 2) := by decide +kernel
theorem dX1_params_161 : decode cX1_params 161 = .ok (.invokevirtual 69, 3) := by decide +kernel
theorem dX1_params_164 : decode cX1_params 164 = .ok (.return_, 1) := by decide +kernel
theorem dX1_param_0 : decode cX1_param 0 = .ok (.aload_n 0, 1) := by decide +kernel
theorem dX1_param_1 : decode cX1_param 1 = .ok (.getfield 43, 3) := by decide +kernel
theorem dX1_param_4 : decode cX1_param 4 = .ok (.istore_n 3, 1) := by decide +kernel
theorem dX1_param_5 : decode cX1_param 5 = .ok (.iconst 1, 1) := by decide +kernel
theorem dX1_param_6 : decode cX1_param 6 = .ok (.istore 4, 2) := by decide +kernel
theorem dX1_param_8 : decode cX1_param 8 = .ok (.iconst 2, 1) := by decide +kernel
theorem dX1_param_9 : decode cX1_param 9 = .ok (.istore 5, 2) := by decide +kernel
theorem dX1_param_11 : decode cX1_param 11 = .ok (.aload_n 0, 1) := by decide +kernel
theorem dX1_param_12 : decode cX1_param 12 = .ok (.iconst 1, 1) := by decide +kernel
theorem dX1_param_13 : decode cX1_param 13 = .ok (.invokevirtual 46, 3) := by decide +kernel
theorem dX1_param_16 : decode cX1_param 16 = .ok (.ifCond .eq 50, 3) := by decide +kernel
theorem dX1_param_19 : decode cX1_param 19 = .ok (.iload_n 1, 1) := by decide +kernel
theorem dX1_param_20 : decode cX1_param 20 = .ok (.iconst 2, 1) := by decide +kernel
theorem dX1_param_21 : decode cX1_param 21 = .ok (.if_icmp .eq 45, 3) := by decide +kernel
theorem dX1_param_24 : decode cX1_param 24 = .ok (.aload_n 0, 1) := by decide +kernel
theorem dX1_param_25 : decode cX1_param 25 = .ok (.invokevirtual 79, 3) := by decide +kernel
theorem dX1_param_28 : decode cX1_param 28 = .ok (.aload_n 0, 1) := by decide +kernel
theorem dX1_param_29 : decode cX1_param 29 = .ok (.bipush 77, 2) := by decide +kernel
theorem dX1_param_31 : decode cX1_param 31 = .ok (.invokevirtual 46, 3) := by decide +kernel
theorem dX1_param_34 : decode cX1_param 34 = .ok (.ifCond .ne 26, 3) := by decide +kernel
theorem dX1_param_37 : decode cX1_param 37 = .ok (.aload_n 0, 1) := by decide +kernel
theorem dX1_param_38 : decode cX1_param 38 = .ok (.getfield 33, 3) := by decide +kernel
theorem dX1_param_41 : decode cX1_param 41 = .ok (.invokestatic 138, 3) := by decide +kernel
theorem dX1_param_44 : decode cX1_param 44 = .ok (.ifCond .ne 16, 3) := by decide +kernel
theorem dX1_param_47 : decode cX1_param 47 = .ok (.aload_n 0, 1) := by decide +kernel
theorem dX1_param_48 : decode cX1_param 48 = .ok (.getfield 17, 3) := by decide +kernel
theorem dX1_param_51 : decode cX1_param 51 = .ok (.bipush 16, 2) := by decide +kernel
theorem dX1_param_53 : decode cX1_param 53 = .ok (.iload_n 3, 1) := by decide +kernel
theorem dX1_param_54 : decode cX1_param 54 = .ok (.iconst 1, 1) := by decide +kernel
theorem dX1_param_55 : decode cX1_param 55 = .ok (.invokevirtual 69, 3) := by decide +kernel
theorem dX1_param_58 : decode cX1_param 58 = .ok (.iconst 0, 1) := by decide +kernel
theorem dX1_param_59 : decode cX1_param 59 = .ok (.ireturn, 1) := by decide +kernel
theorem dX1_param_60 : decode cX1_param 60 = .ok (.iinc 4 1, 3) := by decide +kernel
theorem dX1_param_63 : decode cX1_param 63 = .ok (.iconst 1, 1) := by decide +kernel
theorem dX1_param_64 : decode cX1_param 64 = .ok (.istore 5, 2) := by decide +kernel
theorem dX1_param_66 : decode cX1_param 66 = .ok (.iload 5, 2) := by decide +kernel
theorem dX1_param_68 : decode cX1_param 68 = .ok (.iconst 2, 1) := by decide +kernel
theorem dX1_param_69 : decode cX1_param 69 = .ok (.if_icmp .ne 12, 3) := by decide +kernel
theorem dX1_param_72 : decode cX1_param 72 = .ok (.iload_n 1, 1) := by decide +kernel
theorem dX1_param_73 : decode cX1_param 73 = .ok (.iconst 1, 1) := by decide +kernel
theorem dX1_param_74 : decode cX1_param 74 = .ok (.if_icmp .ne 7, 3) := by decide +kernel
theorem dX1_param_77 : decode cX1_param 77 = .ok (.iconst 1, 1) := by decide +kernel
theorem dX1_param_78 : decode cX1_param 78 = .ok (.goto 4, 3) := by decide +kernel
theorem dX1_param_81 : decode cX1_param 81 = .ok (.iconst 0, 1) := by decide +kernel
theorem dX1_param_82 : decode cX1_param 82 = .ok (.istore 6, 2) := by decide +kernel
theorem dX1_param_84 : decode cX1_param 84 = .ok (.iload 5, 2) := by decide +kernel
theorem dX1_param_86 : decode cX1_param 86 = .ok (.iconst 1, 1) := by decide +kernel
theorem dX1_param_87 : decode cX1_param 87 = .ok (.if_icmp .ne 20, 3) := by decide +kernel
theorem dX1_param_90 : decode cX1_param 90 = .ok (.iload_n 2, 1) := by decide +kernel
theorem dX1_param_91 : decode cX1_param 91 = .ok (.ifCond .le 16, 3) := by decide +kernel
theorem dX1_param_94 : decode cX1_param 94 = .ok (.aload_n 0, 1) := by decide +kernel
theorem dX1_param_95 : decode cX1_param 95 = .ok (.bipush 77, 2) := by decide +kernel
theorem dX1_param_97 : decode cX1_param 97 = .ok (.invokevirtual 46, 3) := by decide +kernel
theorem dX1_param_100 : decode cX1_param 100 = .ok (.ifCond .eq 7, 3) := by decide +kernel
theorem dX1_param_103 : decode cX1_param 103 = .ok (.iconst 1, 1) := by decide +kernel
theorem dX1_param_104 : decode cX1_param 104 = .ok (.goto 4, 3) := by decide +kernel
theorem dX1_param_107 : decode cX1_param 107 = .ok (.iconst 0, 1) := by decide +kernel
theorem dX1_param_108 : decode cX1_param 108 = .ok (.istore 7, 2) := by decide +kernel
theorem dX1_param_110 : decode cX1_param 110 = .ok (.iload 6, 2) := by decide +kernel
theorem dX1_param_112 : decode cX1_param 112 = .ok (.ifCond .ne 8, 3) := by decide +kernel
theorem dX1_param_115 : decode cX1_param 115 = .ok (.iload 7, 2) := by decide +kernel
theorem dX1_param_117 : decode cX1_param 117 = .ok (.ifCond .eq 7, 3) := by decide +kernel
theorem dX1_param_120 : decode cX1_param 120 = .ok (.aload_n 0, 1) := by decide +kernel
theorem dX1_param_121 : decode cX1_param 121 = .ok (.invokevirtual 54, 3) := by decide +kernel
theorem dX1_param_124 : decode cX1_param 124 = .ok (.aload_n 0, 1) := by decide +kernel
theorem dX1_param_125 : decode cX1_param 125 = .ok (.bipush 77, 2) := by decide +kernel
theorem dX1_param_127 : decode cX1_param 127 = .ok (.invokevirtual 46, 3) := by decide +kernel
theorem dX1_param_130 : decode cX1_param 130 = .ok (.ifCond .eq 12, 3) := by decide +kernel
theorem dX1_param_133 : decode cX1_param 133 = .ok (.aload_n 0, 1) := by decide +kernel
theorem dX1_param_134 : decode cX1_param 134 = .ok (.bipush 17, 2) := by decide +kernel
theorem dX1_param_136 : decode cX1_param 136 = .ok (.invokevirtual 154, 3) := by decide +kernel
theorem dX1_param_139 : decode cX1_param 139 = .ok (.iinc 4 1, 3) := by decide +kernel
theorem dX1_param_142 : decode cX1_param 142 = .ok (.aload_n 0, 1) := by decide +kernel
theorem dX1_param_143 : decode cX1_param 143 = .ok (.invokevirtual 103, 3) := by decide +kernel
theorem dX1_param_146 : decode cX1_param 146 = .ok (.aload_n 0, 1) := by decide +kernel
theorem dX1_param_147 : decode cX1_param 147 = .ok (.getfield 17, 3) := by decide +kernel
theorem dX1_param_150 : decode cX1_param 150 = .ok (.bipush 16, 2) := by decide +kernel
theorem dX1_param_152 : decode cX1_param 152 = .ok (.iload_n 3, 1) := by decide +kernel
theorem dX1_param_153 : decode cX1_param 153 = .ok (.iload 4, 2) := by decide +kernel
theorem dX1_param_155 : decode cX1_param 155 = .ok (.invokevirtual 69, 3) := by decide +kernel
theorem dX1_param_158 : decode cX1_param 158 = .ok (.iload 5, 2) := by decide +kernel
theorem dX1_param_160 : decode cX1_param 160 = .ok (.ireturn, 1) := by decide +kernel
theorem dX1_type_0 : decode cX1_type 0 = .ok (.aload_n 0, 1) := by decide +kernel
theorem dX1_type_1 : decode cX1_type 1 = .ok (.iconst 1, 1) := by decide +kernel
theorem dX1_type_2 : decode cX1_type 2 = .ok (.invokevirtual 46, 3) := by decide +kernel
theorem dX1_type_5 : decode cX1_type 5 = .ok (.ifCond .eq 8, 3) := by decide +kernel
theorem dX1_type_8 : decode cX1_type 8 = .ok (.aload_n 0, 1) := by decide +kernel
theorem dX1_type_9 : decode cX1_type 9 = .ok (.invokevirtual 79, 3) := by decide +kernel
theorem dX1_type_12 : decode cX1_type 12 = .ok (.return_, 1) := by decide +kernel
theorem dX1_type_13 : decode cX1_type 13 = .ok (.aload_n 0, 1) := by decide +kernel
theorem dX1_type_14 : decode cX1_type 14 = .ok (.getfield 33, 3) := by decide +kernel
theorem dX1_type_17 : decode cX1_type 17 = .ok (.invokestatic 138, 3) := by decide +kernel
theorem dX1_type_20 : decode cX1_type 20 = .ok (.ifCond .ne 7, 3) := by decide +kernel
theorem dX1_type_23 : decode cX1_type 23 = .ok (.aload_n 0, 1) := by decide +kernel
theorem dX1_type_24 : decode cX1_type 24 = .ok (.invokevirtual 54, 3) := by decide +kernel
theorem dX1_type_27 : decode cX1_type 27 = .ok (.aload_n 0, 1) := by decide +kernel
theorem dX1_type_28 : decode cX1_type 28 = .ok (.invokevirtual 60, 3) := by decide +kernel
theorem dX1_type_31 : decode cX1_type 31 = .ok (.aload_n 0, 1) := by decide +kernel
theorem dX1_type_32 : decode cX1_type 32 = .ok (.getfield 33, 3) := by decide +kernel
theorem dX1_type_35 : decode cX1_type 35 = .ok (.lookupswitch 141 #[(12, 106), (20, 134), (26, 99), (31, 127), (42, 120), (64, 113), (78, 73), (80, 92)], 73) := by decide +kernel
theorem dX1_type_108 : decode cX1_type 108 = .ok (.aload_n 0, 1) := by decide +kernel
theorem dX1_type_109 : decode cX1_type 109 = .ok (.invokevirtual 50, 3) := by decide +kernel
theorem dX1_type_112 : decode cX1_type 112 = .ok (.pop, 1) := by decide +kernel
theorem dX1_type_113 : decode cX1_type 113 = .ok (.aload_n 0, 1) := by decide +kernel
theorem dX1_type_114 : decode cX1_type 114 = .ok (.invokevirtual 103, 3) := by decide +kernel
theorem dX1_type_117 : decode cX1_type 117 = .ok (.aload_n 0, 1) := by decide +kernel
theorem dX1_type_118 : decode cX1_type 118 = .ok (.bipush 79, 2) := by decide +kernel
theorem dX1_type_120 : decode cX1_type 120 = .ok (.invokevirtual 63, 3) := by decide +kernel
theorem dX1_type_123 : decode cX1_type 123 = .ok (.pop, 1) := by decide +kernel
theorem dX1_type_124 : decode cX1_type 124 = .ok (.goto 56, 3) := by decide +kernel
theorem dX1_type_127 : decode cX1_type 127 = .ok (.aload_n 0, 1) := by decide +kernel
theorem dX1_type_128 : decode cX1_type 128 = .ok (.invokevirtual 157, 3) := by decide +kernel
theorem dX1_type_131 : decode cX1_type 131 = .ok (.goto 49, 3) := by decide +kernel
theorem dX1_type_134 : decode cX1_type 134 = .ok (.aload_n 0, 1) := by decide +kernel
theorem dX1_type_135 : decode cX1_type 135 = .ok (.invokevirtual 160, 3) := by decide +kernel
theorem dX1_type_138 : decode cX1_type 138 = .ok (.goto 42, 3) := by decide +kernel
theorem dX1_type_141 : decode cX1_type 141 = .ok (.aload_n 0, 1) := by decide +kernel
theorem dX1_type_142 : decode cX1_type 142 = .ok (.invokevirtual 163, 3) := by decide +kernel
theorem dX1_type_145 : decode cX1_type 145 = .ok (.goto 35, 3) := by decide +kernel
theorem dX1_type_148 : decode cX1_type 148 = .ok (.aload_n 0, 1) := by decide +kernel
theorem dX1_type_149 : decode cX1_type 149 = .ok (.invokevirtual 166, 3) := by decide +kernel
theorem dX1_type_152 : decode cX1_type 152 = .ok (.goto 28, 3) := by decide +kernel
theorem dX1_type_155 : decode cX1_type 155 = .ok (.aload_n 0, 1) := by decide +kernel
theorem dX1_type_156 : decode cX1_type 156 = .ok (.invokevirtual 169, 3) := by decide +kernel
theorem dX1_type_159 : decode cX1_type 159 = .ok (.goto 21, 3) := by decide +kernel
theorem dX1_type_162 : decode cX1_type 162 = .ok (.aload_n 0, 1) := by decide +kernel
theorem dX1_type_163 : decode cX1_type 163 = .ok (.invokevirtual 172, 3) := by decide +kernel
theorem dX1_type_166 : decode cX1_type 166 = .ok (.goto 14, 3) := by decide +kernel
theorem dX1_type_169 : decode cX1_type 169 = .ok (.aload_n 0, 1) := by decide +kernel
theorem dX1_type_170 : decode cX1_type 170 = .ok (.invokevirtual 175, 3) := by decide +kernel
theorem dX1_type_173 : decode cX1_type 173 = .ok (.goto 7, 3) := by decide +kernel
theorem dX1_type_176 : decode cX1_type 176 = .ok (.aload_n 0, 1) := by decide +kernel
theorem dX1_type_177 : decode cX1_type 177 = .ok (.invokevirtual 178, 3) := by decide +kernel
theorem dX1_type_180 : decode cX1_type 180 = .ok (.aload_n 0, 1) := by decide +kernel
theorem dX1_type_181 : decode cX1_type 181 = .ok (.invokevirtual 66, 3) := by decide +kernel
theorem dX1_type_184 : decode cX1_type 184 = .ok (.return_, 1) := by decide +kernel
theorem dX1_listType_0 : decode cX1_listType 0 = .ok (.aload_n 0, 1) := by decide +kernel
theorem dX1_listType_1 : decode cX1_listType 1 = .ok (.invokevirtual 50, 3) := by decide +kernel
theorem dX1_listType_4 : decode cX1_listType 4 = .ok (.istore_n 1, 1) := by decide +kernel
theorem dX1_listType_5 : decode cX1_listType 5 = .ok (.aload_n 0, 1) := by decide +kernel
theorem dX1_listType_6 : decode cX1_listType 6 = .ok (.bipush 81, 2) := by decide +kernel
theorem dX1_listType_8 : decode cX1_listType 8 = .ok (.invokevirtual 46, 3) := by decide +kernel
theorem dX1_listType_11 : decode cX1_listType 11 = .ok (.ifCond .ne 7, 3) := by decide +kernel
theorem dX1_listType_14 : decode cX1_listType 14 = .ok (.iconst 1, 1) := by decide +kernel
theorem dX1_listType_15 : decode cX1_listType 15 = .ok (.goto 4, 3) := by decide +kernel
theorem dX1_listType_18 : decode cX1_listType 18 = .ok (.iconst 0, 1) := by decide +kernel
theorem dX1_listType_19 : decode cX1_listType 19 = .ok (.istore_n 2, 1) := by decide +kernel
theorem dX1_listType_20 : decode cX1_listType 20 = .ok (.iload_n 2, 1) := by decide +kernel
theorem dX1_listType_21 : decode cX1_listType 21 = .ok (.ifCond .eq 23, 3) := by decide +kernel
theorem dX1_listType_24 : decode cX1_listType 24 = .ok (.aload_n 0, 1) := by decide +kernel
theorem dX1_listType_25 : decode cX1_listType 25 = .ok (.getfield 119, 3) := by decide +kernel
theorem dX1_listType_28 : decode cX1_listType 28 = .ok (.istore_n 3, 1) := by decide +kernel
theorem dX1_listType_29 : decode cX1_listType 29 = .ok (.aload_n 0, 1) := by decide +kernel
theorem dX1_listType_30 : decode cX1_listType 30 = .ok (.iconst 0, 1) := by decide +kernel
theorem dX1_listType_31 : decode cX1_listType 31 = .ok (.putfield 119, 3) := by decide +kernel
theorem dX1_listType_34 : decode cX1_listType 34 = .ok (.aload_n 0, 1) := by decide +kernel
theorem dX1_listType_35 : decode cX1_listType 35 = .ok (.iconst 0, 1) := by decide +kernel
theorem dX1_listType_36 : decode cX1_listType 36 = .ok (.invokevirtual 181, 3) := by decide +kernel
theorem dX1_listType_39 : decode cX1_listType 39 = .ok (.aload_n 0, 1) := by decide +kernel
theorem dX1_listType_40 : decode cX1_listType 40 = .ok (.iload_n 3, 1) := by decide +kernel
theorem dX1_listType_41 : decode cX1_listType 41 = .ok (.putfield 119, 3) := by decide +kernel
theorem dX1_listType_44 : decode cX1_listType 44 = .ok (.aload_n 0, 1) := by decide +kernel
theorem dX1_listType_45 : decode cX1_listType 45 = .ok (.bipush 81, 2) := by decide +kernel
theorem dX1_listType_47 : decode cX1_listType 47 = .ok (.invokevirtual 63, 3) := by decide +kernel
theorem dX1_listType_50 : decode cX1_listType 50 = .ok (.pop, 1) := by decide +kernel
theorem dX1_listType_51 : decode cX1_listType 51 = .ok (.aload_n 0, 1) := by decide +kernel
theorem dX1_listType_52 : decode cX1_listType 52 = .ok (.invokevirtual 103, 3) := by decide +kernel
theorem dX1_listType_55 : decode cX1_listType 55 = .ok (.iload_n 2, 1) := by decide +kernel
theorem dX1_listType_56 : decode cX1_listType 56 = .ok (.ifCond .eq 17, 3) := by decide +kernel
theorem dX1_listType_59 : decode cX1_listType 59 = .ok (.aload_n 0, 1) := by decide +kernel
theorem dX1_listType_60 : decode cX1_listType 60 = .ok (.getfield 17, 3) := by decide +kernel
theorem dX1_listType_63 : decode cX1_listType 63 = .ok (.bipush 21, 2) := by decide +kernel
theorem dX1_listType_65 : decode cX1_listType 65 = .ok (.iload_n 1, 1) := by decide +kernel
theorem dX1_listType_66 : decode cX1_listType 66 = .ok (.iconst 2, 1) := by decide +kernel
theorem dX1_listType_67 : decode cX1_listType 67 = .ok (.invokevirtual 69, 3) := by decide +kernel
theorem dX1_listType_70 : decode cX1_listType 70 = .ok (.goto 14, 3) := by decide +kernel
theorem dX1_listType_73 : decode cX1_listType 73 = .ok (.aload_n 0, 1) := by decide +kernel
theorem dX1_listType_74 : decode cX1_listType 74 = .ok (.getfield 17, 3) := by decide +kernel
theorem dX1_listType_77 : decode cX1_listType 77 = .ok (.bipush 20, 2) := by decide +kernel
theorem dX1_listType_79 : decode cX1_listType 79 = .ok (.iload_n 1, 1) := by decide +kernel
theorem dX1_listType_80 : decode cX1_listType 80 = .ok (.iconst 1, 1) := by decide +kernel
theorem dX1_listType_81 : decode cX1_listType 81 = .ok (.invokevirtual 69, 3) := by decide +kernel
theorem dX1_listType_84 : decode cX1_listType 84 = .ok (.return_, 1) := by decide +kernel
theorem dX1_mapType_0 : decode cX1_mapType 0 = .ok (.aload_n 0, 1) := by decide +kernel
theorem dX1_mapType_1 : decode cX1_mapType 1 = .ok (.invokevirtual 50, 3) := by decide +kernel
theorem dX1_mapType_4 : decode cX1_mapType 4 = .ok (.istore_n 1, 1) := by decide +kernel
theorem dX1_mapType_5 : decode cX1_mapType 5 = .ok (.aload_n 0, 1) := by decide +kernel
theorem dX1_mapType_6 : decode cX1_mapType 6 = .ok (.bipush 80, 2) := by decide +kernel
theorem dX1_mapType_8 : decode cX1_mapType 8 = .ok (.invokevirtual 100, 3) := by decide +kernel
theorem dX1_mapType_11 : decode cX1_mapType 11 = .ok (.pop, 1) := by decide +kernel
theorem dX1_mapType_12 : decode cX1_mapType 12 = .ok (.aload_n 0, 1) := by decide +kernel
theorem dX1_mapType_13 : decode cX1_mapType 13 = .ok (.invokevirtual 103, 3) := by decide +kernel
theorem dX1_mapType_16 : decode cX1_mapType 16 = .ok (.aload_n 0, 1) := by decide +kernel
theorem dX1_mapType_17 : decode cX1_mapType 17 = .ok (.bipush 81, 2) := by decide +kernel
theorem dX1_mapType_19 : decode cX1_mapType 19 = .ok (.invokevirtual 106, 3) := by decide +kernel
theorem dX1_mapType_22 : decode cX1_mapType 22 = .ok (.aload_n 0, 1) := by decide +kernel
theorem dX1_mapType_23 : decode cX1_mapType 23 = .ok (.invokevirtual 103, 3) := by decide +kernel
theorem dX1_mapType_26 : decode cX1_mapType 26 = .ok (.aload_n 0, 1) := by decide +kernel
theorem dX1_mapType_27 : decode cX1_mapType 27 = .ok (.getfield 17, 3) := by decide +kernel
theorem dX1_mapType_30 : decode cX1_mapType 30 = .ok (.bipush 22, 2) := by decide +kernel
theorem dX1_mapType_32 : decode cX1_mapType 32 = .ok (.iload_n 1, 1) := by decide +kernel
theorem dX1_mapType_33 : decode cX1_mapType 33 = .ok (.iconst 2, 1) := by decide +kernel
theorem dX1_mapType_34 : decode cX1_mapType 34 = .ok (.invokevirtual 69, 3) := by decide +kernel
theorem dX1_mapType_37 : decode cX1_mapType 37 = .ok (.return_, 1) := by decide +kernel
theorem dX1_chanType_0 : decode cX1_chanType 0 = .ok (.aload_n 0, 1) := by decide +kernel
theorem dX1_chanType_1 : decode cX1_chanType 1 = .ok (.invokevirtual 50, 3) := by decide +kernel
theorem dX1_chanType_4 : decode cX1_chanType 4 = .ok (.istore_n 1, 1) := by decide +kernel
theorem dX1_chanType_5 : decode cX1_chanType 5 = .ok (.aload_n 0, 1) := by decide +kernel
theorem dX1_chanType_6 : decode cX1_chanType 6 = .ok (.bipush 64, 2) := by decide +kernel
theorem dX1_chanType_8 : decode cX1_chanType 8 = .ok (.invokevirtual 123, 3) := by decide +kernel
theorem dX1_chanType_11 : decode cX1_chanType 11 = .ok (.ifCond .eq 8, 3) := by decide +kernel
theorem dX1_chanType_14 : decode cX1_chanType 14 = .ok (.bipush 24, 2) := by decide +kernel
theorem dX1_chanType_16 : decode cX1_chanType 16 = .ok (.goto 5, 3) := by decide +kernel
theorem dX1_chanType_19 : decode cX1_chanType 19 = .ok (.bipush 23, 2) := by decide +kernel
theorem dX1_chanType_21 : decode cX1_chanType 21 = .ok (.istore_n 2, 1) := by decide +kernel
theorem dX1_chanType_22 : decode cX1_chanType 22 = .ok (.aload_n 0, 1) := by decide +kernel
theorem dX1_chanType_23 : decode cX1_chanType 23 = .ok (.invokevirtual 103, 3) := by decide +kernel
theorem dX1_chanType_26 : decode cX1_chanType 26 = .ok (.aload_n 0, 1) := by decide +kernel
theorem dX1_chanType_27 : decode cX1_chanType 27 = .ok (.getfield 17, 3) := by decide +kernel
theorem dX1_chanType_30 : decode cX1_chanType 30 = .ok (.iload_n 2, 1) := by decide +kernel
theorem dX1_chanType_31 : decode cX1_chanType 31 = .ok (.iload_n 1, 1) := by decide +kernel
theorem dX1_chanType_32 : decode cX1_chanType 32 = .ok (.iconst 1, 1) := by decide +kernel
theorem dX1_chanType_33 : decode cX1_chanType 33 = .ok (.invokevirtual 69, 3) := by decide +kernel
theorem dX1_chanType_36 : decode cX1_chanType 36 = .ok (.return_, 1) := by decide +kernel
theorem dX1_receiveChanType_0 : decode cX1_receiveChanType 0 = .ok (.aload_n 0, 1) := by decide +kernel
theorem dX1_receiveChanType_1 : decode cX1_receiveChanType 1 = .ok (.invokevirtual 50, 3) := by decide +kernel
theorem dX1_receiveChanType_4 : decode cX1_receiveChanType 4 = .ok (.istore_n 1, 1) := by decide +kernel
theorem dX1_receiveChanType_5 : decode cX1_receiveChanType 5 = .ok (.aload_n 0, 1) := by decide +kernel
theorem dX1_receiveChanType_6 : decode cX1_receiveChanType 6 = .ok (.bipush 12, 2) := by decide +kernel
theorem dX1_receiveChanType_8 : decode cX1_receiveChanType 8 = .ok (.invokevirtual 63, 3) := by decide +kernel
theorem dX1_receiveChanType_11 : decode cX1_receiveChanType 11 = .ok (.pop, 1) := by decide +kernel
theorem dX1_receiveChanType_12 : decode cX1_receiveChanType 12 = .ok (.aload_n 0, 1) := by decide +kernel
theorem dX1_receiveChanType_13 : decode cX1_receiveChanType 13 = .ok (.invokevirtual 103, 3) := by decide +kernel
theorem dX1_receiveChanType_16 : decode cX1_receiveChanType 16 = .ok (.aload_n 0, 1) := by decide +kernel
theorem dX1_receiveChanType_17 : decode cX1_receiveChanType 17 = .ok (.getfield 17, 3) := by decide +kernel
theorem dX1_receiveChanType_20 : decode cX1_receiveChanType 20 = .ok (.bipush 25, 2) := by decide +kernel
theorem dX1_receiveChanType_22 : decode cX1_receiveChanType 22 = .ok (.iload_n 1, 1) := by decide +kernel
theorem dX1_receiveChanType_23 : decode cX1_receiveChanType 23 = .ok (.iconst 1, 1) := by decide +kernel
theorem dX1_receiveChanType_24 : decode cX1_receiveChanType 24 = .ok (.invokevirtual 69, 3) := by decide +kernel
theorem dX1_receiveChanType_27 : decode cX1_receiveChanType 27 = .ok (.return_, 1) := by decide +kernel
theorem dX1_pointerType_0 : decode cX1_pointerType 0 = .ok (.aload_n 0, 1) := by decide +kernel
theorem dX1_pointerType_1 : decode cX1_pointerType 1 = .ok (.invokevirtual 50, 3) := by decide +kernel
theorem dX1_pointerType_4 : decode cX1_pointerType 4 = .ok (.istore_n 1, 1) := by decide +kernel
theorem dX1_pointerType_5 : decode cX1_pointerType 5 = .ok (.aload_n 0, 1) := by decide +kernel
theorem dX1_pointerType_6 : decode cX1_pointerType 6 = .ok (.invokevirtual 103, 3) := by decide +kernel
theorem dX1_pointerType_9 : decode cX1_pointerType 9 = .ok (.aload_n 0, 1) := by decide +kernel
theorem dX1_pointerType_10 : decode cX1_pointerType 10 = .ok (.getfield 17, 3) := by decide +kernel
theorem dX1_pointerType_13 : decode cX1_pointerType 13 = .ok (.bipush 26, 2) := by decide +kernel
theorem dX1_pointerType_15 : decode cX1_pointerType 15 = .ok (.iload_n 1, 1) := by decide +kernel
theorem dX1_pointerType_16 : decode cX1_pointerType 16 = .ok (.iconst 1, 1) := by decide +kernel
theorem dX1_pointerType_17 : decode cX1_pointerType 17 = .ok (.invokevirtual 69, 3) := by decide +kernel
theorem dX1_pointerType_20 : decode cX1_pointerType 20 = .ok (.return_, 1) := by decide +kernel
theorem dX1_structType_0 : decode cX1_structType 0 = .ok (.aload_n 0, 1) := by decide +kernel
theorem dX1_structType_1 : decode cX1_structType 1 = .ok (.invokevirtual 50, 3) := by decide +kernel
theorem dX1_structType_4 : decode cX1_structType 4 = .ok (.istore_n 1, 1) := by decide +kernel
theorem dX1_structType_5 : decode cX1_structType 5 = .ok (.aload_n 0, 1) := by decide +kernel
theorem dX1_structType_6 : decode cX1_structType 6 = .ok (.bipush 82, 2) := by decide +kernel
theorem dX1_structType_8 : decode cX1_structType 8 = .ok (.invokevirtual 100, 3) := by decide +kernel
theorem dX1_structType_11 : decode cX1_structType 11 = .ok (.pop, 1) := by decide +kernel
theorem dX1_structType_12 : decode cX1_structType 12 = .ok (.iconst 0, 1) := by decide +kernel
theorem dX1_structType_13 : decode cX1_structType 13 = .ok (.istore_n 2, 1) := by decide +kernel
theorem dX1_structType_14 : decode cX1_structType 14 = .ok (.iconst 1, 1) := by decide +kernel
theorem dX1_structType_15 : decode cX1_structType 15 = .ok (.istore_n 3, 1) := by decide +kernel
theorem dX1_structType_16 : decode cX1_structType 16 = .ok (.iload_n 2, 1) := by decide +kernel
theorem dX1_structType_17 : decode cX1_structType 17 = .ok (.sipush 16385, 3) := by decide +kernel
theorem dX1_structType_20 : decode cX1_structType 20 = .ok (.if_icmp .ge 54, 3) := by decide +kernel
theorem dX1_structType_23 : decode cX1_structType 23 = .ok (.iload_n 3, 1) := by decide +kernel
theorem dX1_structType_24 : decode cX1_structType 24 = .ok (.ifCond .eq 50, 3) := by decide +kernel
theorem dX1_structType_27 : decode cX1_structType 27 = .ok (.aload_n 0, 1) := by decide +kernel
theorem dX1_structType_28 : decode cX1_structType 28 = .ok (.iconst 1, 1) := by decide +kernel
theorem dX1_structType_29 : decode cX1_structType 29 = .ok (.invokevirtual 46, 3) := by decide +kernel
theorem dX1_structType_32 : decode cX1_structType 32 = .ok (.ifCond .eq 42, 3) := by decide +kernel
theorem dX1_structType_35 : decode cX1_structType 35 = .ok (.aload_n 0, 1) := by decide +kernel
theorem dX1_structType_36 : decode cX1_structType 36 = .ok (.getfield 43, 3) := by decide +kernel
theorem dX1_structType_39 : decode cX1_structType 39 = .ok (.istore 4, 2) := by decide +kernel
theorem dX1_structType_41 : decode cX1_structType 41 = .ok (.aload_n 0, 1) := by decide +kernel
theorem dX1_structType_42 : decode cX1_structType 42 = .ok (.invokevirtual 135, 3) := by decide +kernel
theorem dX1_structType_45 : decode cX1_structType 45 = .ok (.aload_n 0, 1) := by decide +kernel
theorem dX1_structType_46 : decode cX1_structType 46 = .ok (.invokevirtual 103, 3) := by decide +kernel
theorem dX1_structType_49 : decode cX1_structType 49 = .ok (.aload_n 0, 1) := by decide +kernel
theorem dX1_structType_50 : decode cX1_structType 50 = .ok (.getfield 17, 3) := by decide +kernel
theorem dX1_structType_53 : decode cX1_structType 53 = .ok (.bipush 28, 2) := by decide +kernel
theorem dX1_structType_55 : decode cX1_structType 55 = .ok (.iload 4, 2) := by decide +kernel
theorem dX1_structType_57 : decode cX1_structType 57 = .ok (.iconst 2, 1) := by decide +kernel
theorem dX1_structType_58 : decode cX1_structType 58 = .ok (.invokevirtual 69, 3) := by decide +kernel
theorem dX1_structType_61 : decode cX1_structType 61 = .ok (.iinc 2 1, 3) := by decide +kernel
theorem dX1_structType_64 : decode cX1_structType 64 = .ok (.aload_n 0, 1) := by decide +kernel
theorem dX1_structType_65 : decode cX1_structType 65 = .ok (.bipush 85, 2) := by decide +kernel
theorem dX1_structType_67 : decode cX1_structType 67 = .ok (.invokevirtual 123, 3) := by decide +kernel
theorem dX1_structType_70 : decode cX1_structType 70 = .ok (.istore_n 3, 1) := by decide +kernel
theorem dX1_structType_71 : decode cX1_structType 71 = .ok (.goto (-55), 3) := by decide +kernel
theorem dX1_structType_74 : decode cX1_structType 74 = .ok (.aload_n 0, 1) := by decide +kernel
theorem dX1_structType_75 : decode cX1_structType 75 = .ok (.bipush 83, 2) := by decide +kernel
theorem dX1_structType_77 : decode cX1_structType 77 = .ok (.invokevirtual 106, 3) := by decide +kernel
theorem dX1_structType_80 : decode cX1_structType 80 = .ok (.aload_n 0, 1) := by decide +kernel
theorem dX1_structType_81 : decode cX1_structType 81 = .ok (.getfield 17, 3) := by decide +kernel
theorem dX1_structType_84 : decode cX1_structType 84 = .ok (.bipush 27, 2) := by decide +kernel
theorem dX1_structType_86 : decode cX1_structType 86 = .ok (.iload_n 1, 1) := by decide +kernel
theorem dX1_structType_87 : decode cX1_structType 87 = .ok (.iload_n 2, 1) := by decide +kernel
theorem dX1_structType_88 : decode cX1_structType 88 = .ok (.invokevirtual 69, 3) := by decide +kernel
theorem dX1_structType_91 : decode cX1_structType 91 = .ok (.return_, 1) := by decide +kernel
theorem dX1_functionType_0 : decode cX1_functionType 0 = .ok (.aload_n 0, 1) := by decide +kernel
theorem dX1_functionType_1 : decode cX1_functionType 1 = .ok (.invokevirtual 50, 3) := by decide +kernel
theorem dX1_functionType_4 : decode cX1_functionType 4 = .ok (.istore_n 1, 1) := by decide +kernel
theorem dX1_functionType_5 : decode cX1_functionType 5 = .ok (.aload_n 0, 1) := by decide +kernel
theorem dX1_functionType_6 : decode cX1_functionType 6 = .ok (.invokevirtual 94, 3) := by decide +kernel
theorem dX1_functionType_9 : decode cX1_functionType 9 = .ok (.aload_n 0, 1) := by decide +kernel
theorem dX1_functionType_10 : decode cX1_functionType 10 = .ok (.getfield 17, 3) := by decide +kernel
theorem dX1_functionType_13 : decode cX1_functionType 13 = .ok (.bipush 29, 2) := by decide +kernel
theorem dX1_functionType_15 : decode cX1_functionType 15 = .ok (.iload_n 1, 1) := by decide +kernel
theorem dX1_functionType_16 : decode cX1_functionType 16 = .ok (.iconst 1, 1) := by decide +kernel
theorem dX1_functionType_17 : decode cX1_functionType 17 = .ok (.invokevirtual 69, 3) := by decide +kernel
theorem dX1_functionType_20 : decode cX1_functionType 20 = .ok (.return_, 1) := by decide +kernel
theorem dX1_interfaceType_0 : decode cX1_interfaceType 0 = .ok (.aload_n 0, 1) := by decide +kernel
theorem dX1_interfaceType_1 : decode cX1_interfaceType 1 = .ok (.invokevirtual 50, 3) := by decide +kernel
theorem dX1_interfaceType_4 : decode cX1_interfaceType 4 = .ok (.istore_n 1, 1) := by decide +kernel
theorem dX1_interfaceType_5 : decode cX1_interfaceType 5 = .ok (.aload_n 0, 1) := by decide +kernel
theorem dX1_interfaceType_6 : decode cX1_interfaceType 6 = .ok (.bipush 82, 2) := by decide +kernel
theorem dX1_interfaceType_8 : decode cX1_interfaceType 8 = .ok (.invokevirtual 100, 3) := by decide +kernel
theorem dX1_interfaceType_11 : decode cX1_interfaceType 11 = .ok (.pop, 1) := by decide +kernel
theorem dX1_interfaceType_12 : decode cX1_interfaceType 12 = .ok (.iconst 0, 1) := by decide +kernel
theorem dX1_interfaceType_13 : decode cX1_interfaceType 13 = .ok (.istore_n 2, 1) := by decide +kernel
theorem dX1_interfaceType_14 : decode cX1_interfaceType 14 = .ok (.iconst 1, 1) := by decide +kernel
theorem dX1_interfaceType_15 : decode cX1_interfaceType 15 = .ok (.istore_n 3, 1) := by decide +kernel
theorem dX1_interfaceType_16 : decode cX1_interfaceType 16 = .ok (.iload_n 2, 1) := by decide +kernel
theorem dX1_interfaceType_17 : decode cX1_interfaceType 17 = .ok (.sipush 16385, 3) := by decide +kernel
theorem dX1_interfaceType_20 : decode cX1_interfaceType 20 = .ok (.if_icmp .ge 54, 3) := by decide +kernel
theorem dX1_interfaceType_23 : decode cX1_interfaceType 23 = .ok (.iload_n 3, 1) := by decide +kernel
theorem dX1_interfaceType_24 : decode cX1_interfaceType 24 = .ok (.ifCond .eq 50, 3) := by decide +kernel
theorem dX1_interfaceType_27 : decode cX1_interfaceType 27 = .ok (.aload_n 0, 1) := by decide +kernel
theorem dX1_interfaceType_28 : decode cX1_interfaceType 28 = .ok (.iconst 1, 1) := by decide +kernel
theorem dX1_interfaceType_29 : decode cX1_interfaceType 29 = .ok (.invokevirtual 46, 3) := by decide +kernel
theorem dX1_interfaceType_32 : decode cX1_interfaceType 32 = .ok (.ifCond .eq 42, 3) := by decide +kernel
theorem dX1_interfaceType_35 : decode cX1_interfaceType 35 = .ok (.aload_n 0, 1) := by decide +kernel
theorem dX1_interfaceType_36 : decode cX1_interfaceType 36 = .ok (.getfield 43, 3) := by decide +kernel
theorem dX1_interfaceType_39 : decode cX1_interfaceType 39 = .ok (.istore 4, 2) := by decide +kernel
theorem dX1_interfaceType_41 : decode cX1_interfaceType 41 = .ok (.aload_n 0, 1) := by decide +kernel
theorem dX1_interfaceType_42 : decode cX1_interfaceType 42 = .ok (.invokevirtual 79, 3) := by decide +kernel
theorem dX1_interfaceType_45 : decode cX1_interfaceType 45 = .ok (.aload_n 0, 1) := by decide +kernel
theorem dX1_interfaceType_46 : decode cX1_interfaceType 46 = .ok (.invokevirtual 94, 3) := by decide +kernel
theorem dX1_interfaceType_49 : decode cX1_interfaceType 49 = .ok (.aload_n 0, 1) := by decide +kernel
theorem dX1_interfaceType_50 : decode cX1_interfaceType 50 = .ok (.getfield 17, 3) := by decide +kernel
theorem dX1_interfaceType_53 : decode cX1_interfaceType 53 = .ok (.bipush 31, 2) := by decide +kernel
theorem dX1_interfaceType_55 : decode cX1_interfaceType 55 = .ok (.iload 4, 2) := by decide +kernel
theorem dX1_interfaceType_57 : decode cX1_interfaceType 57 = .ok (.iconst 2, 1) := by decide +kernel
theorem dX1_interfaceType_58 : decode cX1_interfaceType 58 = .ok (.invokevirtual 69, 3) := by decide +kernel
theorem dX1_interfaceType_61 : decode cX1_interfaceType 61 = .ok (.iinc 2 1, 3) := by decide +kernel
theorem dX1_interfaceType_64 : decode cX1_interfaceType 64 = .ok (.aload_n 0, 1) := by decide +kernel
theorem dX1_interfaceType_65 : decode cX1_interfaceType 65 = .ok (.bipush 85, 2) := by decide +kernel
theorem dX1_interfaceType_67 : decode cX1_interfaceType 67 = .ok (.invokevirtual 123, 3) := by decide +kernel
theorem dX1_interfaceType_70 : decode cX1_interfaceType 70 = .ok (.istore_n 3, 1) := by decide +kernel
theorem dX1_interfaceType_71 : decode cX1_interfaceType 71 = .ok (.goto (-55), 3) := by decide +kernel
theorem dX1_interfaceType_74 : decode cX1_interfaceType 74 = .ok (.aload_n 0, 1) := by decide +kernel
theorem dX1_interfaceType_75 : decode cX1_interfaceType 75 = .ok (.bipush 83, 2) := by decide +kernel
theorem dX1_interfaceType_77 : decode cX1_interfaceType 77 = .ok (.invokevirtual 106, 3) := by decide +kernel
theorem dX1_interfaceType_80 : decode cX1_interfaceType 80 = .ok (.aload_n 0, 1) := by decide +kernel
theorem dX1_interfaceType_81 : decode cX1_interfaceType 81 = .ok (.getfield 17, 3) := by decide +kernel
theorem dX1_interfaceType_84 : decode cX1_interfaceType 84 = .ok (.bipush 30, 2) := by decide +kernel
theorem dX1_interfaceType_86 : decode cX1_interfaceType 86 = .ok (.iload_n 1, 1) := by decide +kernel
theorem dX1_interfaceType_87 : decode cX1_interfaceType 87 = .ok (.iload_n 2, 1) := by decide +kernel
theorem dX1_interfaceType_88 : decode cX1_interfaceType 88 = .ok (.invokevirtual 69, 3) := by decide +kernel
theorem dX1_interfaceType_91 : decode cX1_interfaceType 91 = .ok (.return_, 1) := by decide +kernel
theorem dX1_block_0 : decode cX1_block 0 = .ok (.aload_n 0, 1) := by decide +kernel
theorem dX1_block_1 : decode cX1_block 1 = .ok (.bipush 82, 2) := by decide +kernel
theorem dX1_block_3 : decode cX1_block 3 = .ok (.invokevirtual 100, 3) := by decide +kernel
theorem dX1_block_6 : decode cX1_block 6 = .ok (.istore_n 1, 1) := by decide +kernel
theorem dX1_block_7 : decode cX1_block 7 = .ok (.aload_n 0, 1) := by decide +kernel
theorem dX1_block_8 : decode cX1_block 8 = .ok (.invokevirtual 185, 3) := by decide +kernel
theorem dX1_block_11 : decode cX1_block 11 = .ok (.istore_n 2, 1) := by decide +kernel
theorem dX1_block_12 : decode cX1_block 12 = .ok (.aload_n 0, 1) := by decide +kernel
theorem dX1_block_13 : decode cX1_block 13 = .ok (.bipush 83, 2) := by decide +kernel
theorem dX1_block_15 : decode cX1_block 15 = .ok (.invokevirtual 106, 3) := by decide +kernel
theorem dX1_block_18 : decode cX1_block 18 = .ok (.aload_n 0, 1) := by decide +kernel
theorem dX1_block_19 : decode cX1_block 19 = .ok (.getfield 17, 3) := by decide +kernel
theorem dX1_block_22 : decode cX1_block 22 = .ok (.bipush 40, 2) := by decide +kernel
theorem dX1_block_24 : decode cX1_block 24 = .ok (.iload_n 1, 1) := by decide +kernel
theorem dX1_block_25 : decode cX1_block 25 = .ok (.iload_n 2, 1) := by decide +kernel
theorem dX1_block_26 : decode cX1_block 26 = .ok (.invokevirtual 69, 3) := by decide +kernel
theorem dX1_block_29 : decode cX1_block 29 = .ok (.return_, 1) := by decide +kernel
theorem dX1_stmts_0 : decode cX1_stmts 0 = .ok (.iconst 0, 1) := by decide +kernel
theorem dX1_stmts_1 : decode cX1_stmts 1 = .ok (.istore_n 1, 1) := by decide +kernel
theorem dX1_stmts_2 : decode cX1_stmts 2 = .ok (.iconst 1, 1) := by decide +kernel
theorem dX1_stmts_3 : decode cX1_stmts 3 = .ok (.istore_n 2, 1) := by decide +kernel
theorem dX1_stmts_4 : decode cX1_stmts 4 = .ok (.iconst 0, 1) := by decide +kernel
theorem dX1_stmts_5 : decode cX1_stmts 5 = .ok (.istore_n 3, 1) := by decide +kernel
theorem dX1_stmts_6 : decode cX1_stmts 6 = .ok (.iload_n 3, 1) := by decide +kernel
theorem dX1_stmts_7 : decode cX1_stmts 7 = .ok (.sipush 16385, 3) := by decide +kernel
theorem dX1_stmts_10 : decode cX1_stmts 10 = .ok (.if_icmp .ge 30, 3) := by decide +kernel
theorem dX1_stmts_13 : decode cX1_stmts 13 = .ok (.iload_n 2, 1) := by decide +kernel
theorem dX1_stmts_14 : decode cX1_stmts 14 = .ok (.ifCond .eq 26, 3) := by decide +kernel
theorem dX1_stmts_17 : decode cX1_stmts 17 = .ok (.aload_n 0, 1) := by decide +kernel
theorem dX1_stmts_18 : decode cX1_stmts 18 = .ok (.invokevirtual 188, 3) := by decide +kernel
theorem dX1_stmts_21 : decode cX1_stmts 21 = .ok (.ifCond .eq 6, 3) := by decide +kernel
theorem dX1_stmts_24 : decode cX1_stmts 24 = .ok (.iinc 1 1, 3) := by decide +kernel
theorem dX1_stmts_27 : decode cX1_stmts 27 = .ok (.aload_n 0, 1) := by decide +kernel
theorem dX1_stmts_28 : decode cX1_stmts 28 = .ok (.bipush 85, 2) := by decide +kernel
theorem dX1_stmts_30 : decode cX1_stmts 30 = .ok (.invokevirtual 123, 3) := by decide +kernel
theorem dX1_stmts_33 : decode cX1_stmts 33 = .ok (.istore_n 2, 1) := by decide +kernel
theorem dX1_stmts_34 : decode cX1_stmts 34 = .ok (.iinc 3 1, 3) := by decide +kernel
theorem dX1_stmts_37 : decode cX1_stmts 37 = .ok (.goto (-31), 3) := by decide +kernel
theorem dX1_stmts_40 : decode cX1_stmts 40 = .ok (.iload_n 1, 1) := by decide +kernel
theorem dX1_stmts_41 : decode cX1_stmts 41 = .ok (.ireturn, 1) := by decide +kernel
theorem dX1_stmt_0 : decode cX1_stmt 0 = .ok (.aload_n 0, 1) := by decide +kernel
theorem dX1_stmt_1 : decode cX1_stmt 1 = .ok (.getfield 33, 3) := by decide +kernel
theorem dX1_stmt_4 : decode cX1_stmt 4 = .ok (.lookupswitch 112 #[(13, 76), (19, 106), (23, 88), (30, 100), (32, 94), (33, 76), (34, 76), (82, 82)], 76) := by decide +kernel
theorem dX1_stmt_80 : decode cX1_stmt 80 = .ok (.aload_n 0, 1) := by decide +kernel
theorem dX1_stmt_81 : decode cX1_stmt 81 = .ok (.invokevirtual 88, 3) := by decide +kernel
theorem dX1_stmt_84 : decode cX1_stmt 84 = .ok (.iconst 1, 1) := by decide +kernel
theorem dX1_stmt_85 : decode cX1_stmt 85 = .ok (.ireturn, 1) := by decide +kernel
theorem dX1_stmt_86 : decode cX1_stmt 86 = .ok (.aload_n 0, 1) := by decide +kernel
theorem dX1_stmt_87 : decode cX1_stmt 87 = .ok (.invokevirtual 97, 3) := by decide +kernel
theorem dX1_stmt_90 : decode cX1_stmt 90 = .ok (.iconst 1, 1) := by decide +kernel
theorem dX1_stmt_91 : decode cX1_stmt 91 = .ok (.ireturn, 1) := by decide +kernel
theorem dX1_stmt_92 : decode cX1_stmt 92 = .ok (.aload_n 0, 1) := by decide +kernel
theorem dX1_stmt_93 : decode cX1_stmt 93 = .ok (.invokevirtual 192, 3) := by decide +kernel
theorem dX1_stmt_96 : decode cX1_stmt 96 = .ok (.iconst 1, 1) := by decide +kernel
theorem dX1_stmt_97 : decode cX1_stmt 97 = .ok (.ireturn, 1) := by decide +kernel
theorem dX1_stmt_98 : decode cX1_stmt 98 = .ok (.aload_n 0, 1) := by decide +kernel
theorem dX1_stmt_99 : decode cX1_stmt 99 = .ok (.invokevirtual 195, 3) := by decide +kernel
theorem dX1_stmt_102 : decode cX1_stmt 102 = .ok (.iconst 1, 1) := by decide +kernel
theorem dX1_stmt_103 : decode cX1_stmt 103 = .ok (.ireturn, 1) := by decide +kernel
theorem dX1_stmt_104 : decode cX1_stmt 104 = .ok (.aload_n 0, 1) := by decide +kernel
theorem dX1_stmt_105 : decode cX1_stmt 105 = .ok (.invokevirtual 198, 3) := by decide +kernel
theorem dX1_stmt_108 : decode cX1_stmt 108 = .ok (.iconst 1, 1) := by decide +kernel
theorem dX1_stmt_109 : decode cX1_stmt 109 = .ok (.ireturn, 1) := by decide +kernel
theorem dX1_stmt_110 : decode cX1_stmt 110 = .ok (.aload_n 0, 1) := by decide +kernel
theorem dX1_stmt_111 : decode cX1_stmt 111 = .ok (.invokevirtual 201, 3) := by decide +kernel
theorem dX1_stmt_114 : decode cX1_stmt 114 = .ok (.iconst 1, 1) := by decide +kernel
theorem dX1_stmt_115 : decode cX1_stmt 115 = .ok (.ireturn, 1) := by decide +kernel
theorem dX1_stmt_116 : decode cX1_stmt 116 = .ok (.aload_n 0, 1) := by decide +kernel
theorem dX1_stmt_117 : decode cX1_stmt 117 = .ok (.invokevirtual 204, 3) := by decide +kernel
theorem dX1_stmt_120 : decode cX1_stmt 120 = .ok (.ifCond .ne 10, 3) := by decide +kernel
theorem dX1_stmt_123 : decode cX1_stmt 123 = .ok (.aload_n 0, 1) := by decide +kernel
theorem dX1_stmt_124 : decode cX1_stmt 124 = .ok (.invokevirtual 207, 3) := by decide +kernel
theorem dX1_stmt_127 : decode cX1_stmt 127 = .ok (.ifCond .eq 7, 3) := by decide +kernel
theorem dX1_stmt_130 : decode cX1_stmt 130 = .ok (.iconst 1, 1) := by decide +kernel
theorem dX1_stmt_131 : decode cX1_stmt 131 = .ok (.goto 4, 3) := by decide +kernel
theorem dX1_stmt_134 : decode cX1_stmt 134 = .ok (.iconst 0, 1) := by decide +kernel
theorem dX1_stmt_135 : decode cX1_stmt 135 = .ok (.ireturn, 1) := by decide +kernel
theorem dX1_wordStmt_0 : decode cX1_wordStmt 0 = .ok (.aload_n 0, 1) := by decide +kernel
theorem dX1_wordStmt_1 : decode cX1_wordStmt 1 = .ok (.getfield 33, 3) := by decide +kernel
theorem dX1_wordStmt_4 : decode cX1_wordStmt 4 = .ok (.tableswitch 142 10 29 #[118, 142, 142, 142, 126, 142, 104, 142, 134, 142, 142, 96, 142, 142, 142, 142, 142, 142, 142, 112], 96) := by decide +kernel
theorem dX1_wordStmt_100 : decode cX1_wordStmt 100 = .ok (.aload_n 0, 1) := by decide +kernel
theorem dX1_wordStmt_101 : decode cX1_wordStmt 101 = .ok (.bipush 42, 2) := by decide +kernel
theorem dX1_wordStmt_103 : decode cX1_wordStmt 103 = .ok (.invokevirtual 210, 3) := by decide +kernel
theorem dX1_wordStmt_106 : decode cX1_wordStmt 106 = .ok (.iconst 1, 1) := by decide +kernel
theorem dX1_wordStmt_107 : decode cX1_wordStmt 107 = .ok (.ireturn, 1) := by decide +kernel
theorem dX1_wordStmt_108 : decode cX1_wordStmt 108 = .ok (.aload_n 0, 1) := by decide +kernel
theorem dX1_wordStmt_109 : decode cX1_wordStmt 109 = .ok (.bipush 43, 2) := by decide +kernel
theorem dX1_wordStmt_111 : decode cX1_wordStmt 111 = .ok (.invokevirtual 210, 3) := by decide +kernel
theorem dX1_wordStmt_114 : decode cX1_wordStmt 114 = .ok (.iconst 1, 1) := by decide +kernel
theorem dX1_wordStmt_115 : decode cX1_wordStmt 115 = .ok (.ireturn, 1) := by decide +kernel
theorem dX1_wordStmt_116 : decode cX1_wordStmt 116 = .ok (.aload_n 0, 1) := by decide +kernel
theorem dX1_wordStmt_117 : decode cX1_wordStmt 117 = .ok (.invokevirtual 213, 3) := by decide +kernel
theorem dX1_wordStmt_120 : decode cX1_wordStmt 120 = .ok (.iconst 1, 1) := by decide +kernel
theorem dX1_wordStmt_121 : decode cX1_wordStmt 121 = .ok (.ireturn, 1) := by decide +kernel
theorem dX1_wordStmt_122 : decode cX1_wordStmt 122 = .ok (.aload_n 0, 1) := by decide +kernel
theorem dX1_wordStmt_123 : decode cX1_wordStmt 123 = .ok (.bipush 45, 2) := by decide +kernel
theorem dX1_wordStmt_125 : decode cX1_wordStmt 125 = .ok (.invokevirtual 216, 3) := by decide +kernel
theorem dX1_wordStmt_128 : decode cX1_wordStmt 128 = .ok (.iconst 1, 1) := by decide +kernel
theorem dX1_wordStmt_129 : decode cX1_wordStmt 129 = .ok (.ireturn, 1) := by decide +kernel
theorem dX1_wordStmt_130 : decode cX1_wordStmt 130 = .ok (.aload_n 0, 1) := by decide +kernel
theorem dX1_wordStmt_131 : decode cX1_wordStmt 131 = .ok (.bipush 46, 2) := by decide +kernel
theorem dX1_wordStmt_133 : decode cX1_wordStmt 133 = .ok (.invokevirtual 216, 3) := by decide +kernel
theorem dX1_wordStmt_136 : decode cX1_wordStmt 136 = .ok (.iconst 1, 1) := by decide +kernel
theorem dX1_wordStmt_137 : decode cX1_wordStmt 137 = .ok (.ireturn, 1) := by decide +kernel
theorem dX1_wordStmt_138 : decode cX1_wordStmt 138 = .ok (.aload_n 0, 1) := by decide +kernel
theorem dX1_wordStmt_139 : decode cX1_wordStmt 139 = .ok (.bipush 47, 2) := by decide +kernel
theorem dX1_wordStmt_141 : decode cX1_wordStmt 141 = .ok (.invokevirtual 154, 3) := by decide +kernel
theorem dX1_wordStmt_144 : decode cX1_wordStmt 144 = .ok (.iconst 1, 1) := by decide +kernel
theorem dX1_wordStmt_145 : decode cX1_wordStmt 145 = .ok (.ireturn, 1) := by decide +kernel
theorem dX1_wordStmt_146 : decode cX1_wordStmt 146 = .ok (.iconst 0, 1) := by decide +kernel
theorem dX1_wordStmt_147 : decode cX1_wordStmt 147 = .ok (.ireturn, 1) := by decide +kernel
theorem dX1_startStmt_0 : decode cX1_startStmt 0 = .ok (.aload_n 0, 1) := by decide +kernel
theorem dX1_startStmt_1 : decode cX1_startStmt 1 = .ok (.invokevirtual 50, 3) := by decide +kernel
theorem dX1_startStmt_4 : decode cX1_startStmt 4 = .ok (.istore_n 2, 1) := by decide +kernel
theorem dX1_startStmt_5 : decode cX1_startStmt 5 = .ok (.aload_n 0, 1) := by decide +kernel
theorem dX1_startStmt_6 : decode cX1_startStmt 6 = .ok (.iconst 0, 1) := by decide +kernel
theorem dX1_startStmt_7 : decode cX1_startStmt 7 = .ok (.invokevirtual 181, 3) := by decide +kernel
theorem dX1_startStmt_10 : decode cX1_startStmt 10 = .ok (.aload_n 0, 1) := by decide +kernel
theorem dX1_startStmt_11 : decode cX1_startStmt 11 = .ok (.getfield 17, 3) := by decide +kernel
theorem dX1_startStmt_14 : decode cX1_startStmt 14 = .ok (.iload_n 1, 1) := by decide +kernel
theorem dX1_startStmt_15 : decode cX1_startStmt 15 = .ok (.iload_n 2, 1) := by decide +kernel
theorem dX1_startStmt_16 : decode cX1_startStmt 16 = .ok (.iconst 1, 1) := by decide +kernel
theorem dX1_startStmt_17 : decode cX1_startStmt 17 = .ok (.invokevirtual 69, 3) := by decide +kernel
theorem dX1_startStmt_20 : decode cX1_startStmt 20 = .ok (.return_, 1) := by decide +kernel
theorem dX1_returnStmt_0 : decode cX1_returnStmt 0 = .ok (.aload_n 0, 1) := by decide +kernel
theorem dX1_returnStmt_1 : decode cX1_returnStmt 1 = .ok (.invokevirtual 50, 3) := by decide +kernel
theorem dX1_returnStmt_4 : decode cX1_returnStmt 4 = .ok (.istore_n 1, 1) := by decide +kernel
theorem dX1_returnStmt_5 : decode cX1_returnStmt 5 = .ok (.iconst 0, 1) := by decide +kernel
theorem dX1_returnStmt_6 : decode cX1_returnStmt 6 = .ok (.istore_n 2, 1) := by decide +kernel
theorem dX1_returnStmt_7 : decode cX1_returnStmt 7 = .ok (.aload_n 0, 1) := by decide +kernel
theorem dX1_returnStmt_8 : decode cX1_returnStmt 8 = .ok (.getfield 33, 3) := by decide +kernel
theorem dX1_returnStmt_11 : decode cX1_returnStmt 11 = .ok (.invokestatic 219, 3) := by decide +kernel
theorem dX1_returnStmt_14 : decode cX1_returnStmt 14 = .ok (.ifCond .eq 10, 3) := by decide +kernel
theorem dX1_returnStmt_17 : decode cX1_returnStmt 17 = .ok (.aload_n 0, 1) := by decide +kernel
theorem dX1_returnStmt_18 : decode cX1_returnStmt 18 = .ok (.invokevirtual 141, 3) := by decide +kernel
theorem dX1_returnStmt_21 : decode cX1_returnStmt 21 = .ok (.iinc 2 1, 3) := by decide +kernel
theorem dX1_returnStmt_24 : decode cX1_returnStmt 24 = .ok (.aload_n 0, 1) := by decide +kernel
theorem dX1_returnStmt_25 : decode cX1_returnStmt 25 = .ok (.getfield 17, 3) := by decide +kernel
theorem dX1_returnStmt_28 : decode cX1_returnStmt 28 = .ok (.bipush 44, 2) := by decide +kernel
theorem dX1_returnStmt_30 : decode cX1_returnStmt 30 = .ok (.iload_n 1, 1) := by decide +kernel
theorem dX1_returnStmt_31 : decode cX1_returnStmt 31 = .ok (.iload_n 2, 1) := by decide +kernel
theorem dX1_returnStmt_32 : decode cX1_returnStmt 32 = .ok (.invokevirtual 69, 3) := by decide +kernel
theorem dX1_returnStmt_35 : decode cX1_returnStmt 35 = .ok (.return_, 1) := by decide +kernel
theorem dX1_jumpStmt_0 : decode cX1_jumpStmt 0 = .ok (.aload_n 0, 1) := by decide +kernel
theorem dX1_jumpStmt_1 : decode cX1_jumpStmt 1 = .ok (.invokevirtual 50, 3) := by decide +kernel
theorem dX1_jumpStmt_4 : decode cX1_jumpStmt 4 = .ok (.istore_n 2, 1) := by decide +kernel
theorem dX1_jumpStmt_5 : decode cX1_jumpStmt 5 = .ok (.iconst 0, 1) := by decide +kernel
theorem dX1_jumpStmt_6 : decode cX1_jumpStmt 6 = .ok (.istore_n 3, 1) := by decide +kernel
theorem dX1_jumpStmt_7 : decode cX1_jumpStmt 7 = .ok (.aload_n 0, 1) := by decide +kernel
theorem dX1_jumpStmt_8 : decode cX1_jumpStmt 8 = .ok (.iconst 1, 1) := by decide +kernel
theorem dX1_jumpStmt_9 : decode cX1_jumpStmt 9 = .ok (.invokevirtual 46, 3) := by decide +kernel
theorem dX1_jumpStmt_12 : decode cX1_jumpStmt 12 = .ok (.ifCond .eq 10, 3) := by decide +kernel
theorem dX1_jumpStmt_15 : decode cX1_jumpStmt 15 = .ok (.aload_n 0, 1) := by decide +kernel
theorem dX1_jumpStmt_16 : decode cX1_jumpStmt 16 = .ok (.invokevirtual 79, 3) := by decide +kernel
theorem dX1_jumpStmt_19 : decode cX1_jumpStmt 19 = .ok (.iinc 3 1, 3) := by decide +kernel
theorem dX1_jumpStmt_22 : decode cX1_jumpStmt 22 = .ok (.aload_n 0, 1) := by decide +kernel
theorem dX1_jumpStmt_23 : decode cX1_jumpStmt 23 = .ok (.getfield 17, 3) := by decide +kernel
theorem dX1_jumpStmt_26 : decode cX1_jumpStmt 26 = .ok (.iload_n 1, 1) := by decide +kernel
theorem dX1_jumpStmt_27 : decode cX1_jumpStmt 27 = .ok (.iload_n 2, 1) := by decide +kernel
theorem dX1_jumpStmt_28 : decode cX1_jumpStmt 28 = .ok (.iload_n 3, 1) := by decide +kernel
theorem dX1_jumpStmt_29 : decode cX1_jumpStmt 29 = .ok (.invokevirtual 69, 3) := by decide +kernel
theorem dX1_jumpStmt_32 : decode cX1_jumpStmt 32 = .ok (.return_, 1) := by decide +kernel
theorem dX1_simpleStmt_0 : decode cX1_simpleStmt 0 = .ok (.aload_n 0, 1) := by decide +kernel
theorem dX1_simpleStmt_1 : decode cX1_simpleStmt 1 = .ok (.getfield 33, 3) := by decide +kernel
theorem dX1_simpleStmt_4 : decode cX1_simpleStmt 4 = .ok (.invokestatic 219, 3) := by decide +kernel
theorem dX1_simpleStmt_7 : decode cX1_simpleStmt 7 = .ok (.ifCond .ne 5, 3) := by decide +kernel
theorem dX1_simpleStmt_10 : decode cX1_simpleStmt 10 = .ok (.iconst 0, 1) := by decide +kernel
theorem dX1_simpleStmt_11 : decode cX1_simpleStmt 11 = .ok (.ireturn, 1) := by decide +kernel
theorem dX1_simpleStmt_12 : decode cX1_simpleStmt 12 = .ok (.aload_n 0, 1) := by decide +kernel
theorem dX1_simpleStmt_13 : decode cX1_simpleStmt 13 = .ok (.iconst 1, 1) := by decide +kernel
theorem dX1_simpleStmt_14 : decode cX1_simpleStmt 14 = .ok (.invokevirtual 46, 3) := by decide +kernel
theorem dX1_simpleStmt_17 : decode cX1_simpleStmt 17 = .ok (.ifCond .eq 19, 3) := by decide +kernel
theorem dX1_simpleStmt_20 : decode cX1_simpleStmt 20 = .ok (.aload_n 0, 1) := by decide +kernel
theorem dX1_simpleStmt_21 : decode cX1_simpleStmt 21 = .ok (.invokevirtual 147, 3) := by decide +kernel
theorem dX1_simpleStmt_24 : decode cX1_simpleStmt 24 = .ok (.bipush 87, 2) := by decide +kernel
theorem dX1_simpleStmt_26 : decode cX1_simpleStmt 26 = .ok (.if_icmp .ne 10, 3) := by decide +kernel
theorem dX1_simpleStmt_29 : decode cX1_simpleStmt 29 = .ok (.aload_n 0, 1) := by decide +kernel
theorem dX1_simpleStmt_30 : decode cX1_simpleStmt 30 = .ok (.invokevirtual 222, 3) := by decide +kernel
theorem dX1_simpleStmt_33 : decode cX1_simpleStmt 33 = .ok (.goto 8, 3) := by decide +kernel
theorem dX1_simpleStmt_36 : decode cX1_simpleStmt 36 = .ok (.aload_n 0, 1) := by decide +kernel
theorem dX1_simpleStmt_37 : decode cX1_simpleStmt 37 = .ok (.iconst 0, 1) := by decide +kernel
theorem dX1_simpleStmt_38 : decode cX1_simpleStmt 38 = .ok (.invokevirtual 225, 3) := by decide +kernel
theorem dX1_simpleStmt_41 : decode cX1_simpleStmt 41 = .ok (.iconst 1, 1) := by decide +kernel
theorem dX1_simpleStmt_42 : decode cX1_simpleStmt 42 = .ok (.ireturn, 1) := by decide +kernel
theorem dX1_labeledStmt_0 : decode cX1_labeledStmt 0 = .ok (.aload_n 0, 1) := by decide +kernel
theorem dX1_labeledStmt_1 : decode cX1_labeledStmt 1 = .ok (.invokevirtual 79, 3) := by decide +kernel
theorem dX1_labeledStmt_4 : decode cX1_labeledStmt 4 = .ok (.aload_n 0, 1) := by decide +kernel
theorem dX1_labeledStmt_5 : decode cX1_labeledStmt 5 = .ok (.bipush 87, 2) := by decide +kernel
theorem dX1_labeledStmt_7 : decode cX1_labeledStmt 7 = .ok (.invokevirtual 100, 3) := by decide +kernel
theorem dX1_labeledStmt_10 : decode cX1_labeledStmt 10 = .ok (.istore_n 1, 1) := by decide +kernel
theorem dX1_labeledStmt_11 : decode cX1_labeledStmt 11 = .ok (.aload_n 0, 1) := by decide +kernel
theorem dX1_labeledStmt_12 : decode cX1_labeledStmt 12 = .ok (.invokevirtual 188, 3) := by decide +kernel
theorem dX1_labeledStmt_15 : decode cX1_labeledStmt 15 = .ok (.ifCond .eq 7, 3) := by decide +kernel
theorem dX1_labeledStmt_18 : decode cX1_labeledStmt 18 = .ok (.iconst 2, 1) := by decide +kernel
theorem dX1_labeledStmt_19 : decode cX1_labeledStmt 19 = .ok (.goto 4, 3) := by decide +kernel
theorem dX1_labeledStmt_22 : decode cX1_labeledStmt 22 = .ok (.iconst 1, 1) := by decide +kernel
theorem dX1_labeledStmt_23 : decode cX1_labeledStmt 23 = .ok (.istore_n 2, 1) := by decide +kernel
theorem dX1_labeledStmt_24 : decode cX1_labeledStmt 24 = .ok (.aload_n 0, 1) := by decide +kernel
theorem dX1_labeledStmt_25 : decode cX1_labeledStmt 25 = .ok (.invokevirtual 66, 3) := by decide +kernel
theorem dX1_labeledStmt_28 : decode cX1_labeledStmt 28 = .ok (.aload_n 0, 1) := by decide +kernel
theorem dX1_labeledStmt_29 : decode cX1_labeledStmt 29 = .ok (.getfield 17, 3) := by decide +kernel
theorem dX1_labeledStmt_32 : decode cX1_labeledStmt 32 = .ok (.bipush 41, 2) := by decide +kernel
theorem dX1_labeledStmt_34 : decode cX1_labeledStmt 34 = .ok (.iload_n 1, 1) := by decide +kernel
theorem dX1_labeledStmt_35 : decode cX1_labeledStmt 35 = .ok (.iload_n 2, 1) := by decide +kernel
theorem dX1_labeledStmt_36 : decode cX1_labeledStmt 36 = .ok (.invokevirtual 69, 3) := by decide +kernel
theorem dX1_labeledStmt_39 : decode cX1_labeledStmt 39 = .ok (.return_, 1) := by decide +kernel
theorem dX1_wholeSimple_0 : decode cX1_wholeSimple 0 = .ok (.aload_n 0, 1) := by decide +kernel
theorem dX1_wholeSimple_1 : decode cX1_wholeSimple 1 = .ok (.getfield 43, 3) := by decide +kernel
theorem dX1_wholeSimple_4 : decode cX1_wholeSimple 4 = .ok (.istore_n 2, 1) := by decide +kernel
theorem dX1_wholeSimple_5 : decode cX1_wholeSimple 5 = .ok (.aload_n 0, 1) := by decide +kernel
theorem dX1_wholeSimple_6 : decode cX1_wholeSimple 6 = .ok (.iload_n 1, 1) := by decide +kernel
theorem dX1_wholeSimple_7 : decode cX1_wholeSimple 7 = .ok (.invokevirtual 228, 3) := by decide +kernel
theorem dX1_wholeSimple_10 : decode cX1_wholeSimple 10 = .ok (.ifCond .ne 14, 3) := by decide +kernel
theorem dX1_wholeSimple_13 : decode cX1_wholeSimple 13 = .ok (.aload_n 0, 1) := by decide +kernel
theorem dX1_wholeSimple_14 : decode cX1_wholeSimple 14 = .ok (.getfield 17, 3) := by decide +kernel
theorem dX1_wholeSimple_17 : decode cX1_wholeSimple 17 = .ok (.bipush 50, 2) := by decide +kernel
theorem dX1_wholeSimple_19 : decode cX1_wholeSimple 19 = .ok (.iload_n 2, 1) := by decide +kernel
theorem dX1_wholeSimple_20 : decode cX1_wholeSimple 20 = .ok (.iconst 1, 1) := by decide +kernel
theorem dX1_wholeSimple_21 : decode cX1_wholeSimple 21 = .ok (.invokevirtual 69, 3) := by decide +kernel
theorem dX1_wholeSimple_24 : decode cX1_wholeSimple 24 = .ok (.return_, 1) := by decide +kernel
theorem dX1_simple_0 : decode cX1_simple 0 = .ok (.aload_n 0, 1) := by decide +kernel
theorem dX1_simple_1 : decode cX1_simple 1 = .ok (.getfield 43, 3) := by decide +kernel
theorem dX1_simple_4 : decode cX1_simple 4 = .ok (.istore_n 2, 1) := by decide +kernel
theorem dX1_simple_5 : decode cX1_simple 5 = .ok (.aload_n 0, 1) := by decide +kernel
theorem dX1_simple_6 : decode cX1_simple 6 = .ok (.iload_n 1, 1) := by decide +kernel
theorem dX1_simple_7 : decode cX1_simple 7 = .ok (.iconst 4, 1) := by decide +kernel
theorem dX1_simple_8 : decode cX1_simple 8 = .ok (.if_icmp .ne 7, 3) := by decide +kernel
theorem dX1_simple_11 : decode cX1_simple 11 = .ok (.iconst 1, 1) := by decide +kernel
theorem dX1_simple_12 : decode cX1_simple 12 = .ok (.goto 4, 3) := by decide +kernel
theorem dX1_simple_15 : decode cX1_simple 15 = .ok (.iconst 0, 1) := by decide +kernel
theorem dX1_simple_16 : decode cX1_simple 16 = .ok (.invokevirtual 181, 3) := by decide +kernel
theorem dX1_simple_19 : decode cX1_simple 19 = .ok (.aload_n 0, 1) := by decide +kernel
theorem dX1_simple_20 : decode cX1_simple 20 = .ok (.getfield 25, 3) := by decide +kernel
theorem dX1_simple_23 : decode cX1_simple 23 = .ok (.iconst (-1), 1) := by decide +kernel
theorem dX1_simple_24 : decode cX1_simple 24 = .ok (.if_icmp .eq 10, 3) := by decide +kernel
theorem dX1_simple_27 : decode cX1_simple 27 = .ok (.aload_n 0, 1) := by decide +kernel
theorem dX1_simple_28 : decode cX1_simple 28 = .ok (.iconst 1, 1) := by decide +kernel
theorem dX1_simple_29 : decode cX1_simple 29 = .ok (.invokevirtual 231, 3) := by decide +kernel
theorem dX1_simple_32 : decode cX1_simple 32 = .ok (.iconst 3, 1) := by decide +kernel
theorem dX1_simple_33 : decode cX1_simple 33 = .ok (.ireturn, 1) := by decide +kernel
theorem dX1_simple_34 : decode cX1_simple 34 = .ok (.aload_n 0, 1) := by decide +kernel
theorem dX1_simple_35 : decode cX1_simple 35 = .ok (.iload_n 2, 1) := by decide +kernel
theorem dX1_simple_36 : decode cX1_simple 36 = .ok (.invokevirtual 234, 3) := by decide +kernel
theorem dX1_simple_39 : decode cX1_simple 39 = .ok (.istore_n 3, 1) := by decide +kernel
theorem dX1_simple_40 : decode cX1_simple 40 = .ok (.iconst 1, 1) := by decide +kernel
theorem dX1_simple_41 : decode cX1_simple 41 = .ok (.istore 4, 2) := by decide +kernel
theorem dX1_simple_43 : decode cX1_simple 43 = .ok (.iload 4, 2) := by decide +kernel
theorem dX1_simple_45 : decode cX1_simple 45 = .ok (.sipush 16385, 3) := by decide +kernel
theorem dX1_simple_48 : decode cX1_simple 48 = .ok (.if_icmp .ge 48, 3) := by decide +kernel
theorem dX1_simple_51 : decode cX1_simple 51 = .ok (.aload_n 0, 1) := by decide +kernel
theorem dX1_simple_52 : decode cX1_simple 52 = .ok (.bipush 84, 2) := by decide +kernel
theorem dX1_simple_54 : decode cX1_simple 54 = .ok (.invokevirtual 123, 3) := by decide +kernel
theorem dX1_simple_57 : decode cX1_simple 57 = .ok (.ifCond .eq 39, 3) := by decide +kernel
theorem dX1_simple_60 : decode cX1_simple 60 = .ok (.aload_n 0, 1) := by decide +kernel
theorem dX1_simple_61 : decode cX1_simple 61 = .ok (.getfield 43, 3) := by decide +kernel
theorem dX1_simple_64 : decode cX1_simple 64 = .ok (.istore 5, 2) := by decide +kernel
theorem dX1_simple_66 : decode cX1_simple 66 = .ok (.aload_n 0, 1) := by decide +kernel
theorem dX1_simple_67 : decode cX1_simple 67 = .ok (.iconst 0, 1) := by decide +kernel
theorem dX1_simple_68 : decode cX1_simple 68 = .ok (.invokevirtual 181, 3) := by decide +kernel
theorem dX1_simple_71 : decode cX1_simple 71 = .ok (.iload_n 3, 1) := by decide +kernel
theorem dX1_simple_72 : decode cX1_simple 72 = .ok (.ifCond .eq 16, 3) := by decide +kernel
theorem dX1_simple_75 : decode cX1_simple 75 = .ok (.aload_n 0, 1) := by decide +kernel
theorem dX1_simple_76 : decode cX1_simple 76 = .ok (.iload 5, 2) := by decide +kernel
theorem dX1_simple_78 : decode cX1_simple 78 = .ok (.invokevirtual 234, 3) := by decide +kernel
theorem dX1_simple_81 : decode cX1_simple 81 = .ok (.ifCond .eq 7, 3) := by decide +kernel
theorem dX1_simple_84 : decode cX1_simple 84 = .ok (.iconst 1, 1) := by decide +kernel
theorem dX1_simple_85 : decode cX1_simple 85 = .ok (.goto 4, 3) := by decide +kernel
theorem dX1_simple_88 : decode cX1_simple 88 = .ok (.iconst 0, 1) := by decide +kernel
theorem dX1_simple_89 : decode cX1_simple 89 = .ok (.istore_n 3, 1) := by decide +kernel
theorem dX1_simple_90 : decode cX1_simple 90 = .ok (.iinc 4 1, 3) := by decide +kernel
theorem dX1_simple_93 : decode cX1_simple 93 = .ok (.goto (-50), 3) := by decide +kernel
theorem dX1_simple_96 : decode cX1_simple 96 = .ok (.aload_n 0, 1) := by decide +kernel
theorem dX1_simple_97 : decode cX1_simple 97 = .ok (.bipush 70, 2) := by decide +kernel
theorem dX1_simple_99 : decode cX1_simple 99 = .ok (.invokevirtual 46, 3) := by decide +kernel
theorem dX1_simple_102 : decode cX1_simple 102 = .ok (.ifCond .eq 21, 3) := by decide +kernel
theorem dX1_simple_105 : decode cX1_simple 105 = .ok (.aload_n 0, 1) := by decide +kernel
theorem dX1_simple_106 : decode cX1_simple 106 = .ok (.getfield 17, 3) := by decide +kernel
theorem dX1_simple_109 : decode cX1_simple 109 = .ok (.bipush 13, 2) := by decide +kernel
theorem dX1_simple_111 : decode cX1_simple 111 = .ok (.iload_n 2, 1) := by decide +kernel
theorem dX1_simple_112 : decode cX1_simple 112 = .ok (.iload 4, 2) := by decide +kernel
theorem dX1_simple_114 : decode cX1_simple 114 = .ok (.invokevirtual 69, 3) := by decide +kernel
theorem dX1_simple_117 : decode cX1_simple 117 = .ok (.aload_n 0, 1) := by decide +kernel
theorem dX1_simple_118 : decode cX1_simple 118 = .ok (.iload_n 1, 1) := by decide +kernel
theorem dX1_simple_119 : decode cX1_simple 119 = .ok (.invokevirtual 237, 3) := by decide +kernel
theorem dX1_simple_122 : decode cX1_simple 122 = .ok (.ireturn, 1) := by decide +kernel
theorem dX1_simple_123 : decode cX1_simple 123 = .ok (.aload_n 0, 1) := by decide +kernel
theorem dX1_simple_124 : decode cX1_simple 124 = .ok (.bipush 76, 2) := by decide +kernel
theorem dX1_simple_126 : decode cX1_simple 126 = .ok (.invokevirtual 46, 3) := by decide +kernel
theorem dX1_simple_129 : decode cX1_simple 129 = .ok (.ifCond .eq 32, 3) := by decide +kernel
theorem dX1_simple_132 : decode cX1_simple 132 = .ok (.iload_n 3, 1) := by decide +kernel
theorem dX1_simple_133 : decode cX1_simple 133 = .ok (.ifCond .eq 28, 3) := by decide +kernel
theorem dX1_simple_136 : decode cX1_simple 136 = .ok (.iload_n 1, 1) := by decide +kernel
theorem dX1_simple_137 : decode cX1_simple 137 = .ok (.iconst 3, 1) := by decide +kernel
theorem dX1_simple_138 : decode cX1_simple 138 = .ok (.if_icmp .eq 23, 3) := by decide +kernel
theorem dX1_simple_141 : decode cX1_simple 141 = .ok (.aload_n 0, 1) := by decide +kernel
theorem dX1_simple_142 : decode cX1_simple 142 = .ok (.getfield 17, 3) := by decide +kernel
theorem dX1_simple_145 : decode cX1_simple 145 = .ok (.bipush 12, 2) := by decide +kernel
theorem dX1_simple_147 : decode cX1_simple 147 = .ok (.iload_n 2, 1) := by decide +kernel
theorem dX1_simple_148 : decode cX1_simple 148 = .ok (.iload 4, 2) := by decide +kernel
theorem dX1_simple_150 : decode cX1_simple 150 = .ok (.invokevirtual 69, 3) := by decide +kernel
theorem dX1_simple_153 : decode cX1_simple 153 = .ok (.aload_n 0, 1) := by decide +kernel
theorem dX1_simple_154 : decode cX1_simple 154 = .ok (.iload_n 1, 1) := by decide +kernel
theorem dX1_simple_155 : decode cX1_simple 155 = .ok (.iload 4, 2) := by decide +kernel
theorem dX1_simple_157 : decode cX1_simple 157 = .ok (.invokevirtual 240, 3) := by decide +kernel
theorem dX1_simple_160 : decode cX1_simple 160 = .ok (.ireturn, 1) := by decide +kernel
theorem dX1_simple_161 : decode cX1_simple 161 = .ok (.iload 4, 2) := by decide +kernel
theorem dX1_simple_163 : decode cX1_simple 163 = .ok (.iconst 1, 1) := by decide +kernel
theorem dX1_simple_164 : decode cX1_simple 164 = .ok (.if_icmp .le 7, 3) := by decide +kernel
theorem dX1_simple_167 : decode cX1_simple 167 = .ok (.aload_n 0, 1) := by decide +kernel
theorem dX1_simple_168 : decode cX1_simple 168 = .ok (.invokevirtual 54, 3) := by decide +kernel
theorem dX1_simple_171 : decode cX1_simple 171 = .ok (.aload_n 0, 1) := by decide +kernel
theorem dX1_simple_172 : decode cX1_simple 172 = .ok (.iload_n 1, 1) := by decide +kernel
theorem dX1_simple_173 : decode cX1_simple 173 = .ok (.invokevirtual 243, 3) := by decide +kernel
theorem dX1_simple_176 : decode cX1_simple 176 = .ok (.ireturn, 1) := by decide +kernel
theorem dX1_isNameFrom_0 : decode cX1_isNameFrom 0 = .ok (.aload_n 0, 1) := by decide +kernel
theorem dX1_isNameFrom_1 : decode cX1_isNameFrom 1 = .ok (.getfield 43, 3) := by decide +kernel
theorem dX1_isNameFrom_4 : decode cX1_isNameFrom 4 = .ok (.iload_n 1, 1) := by decide +kernel
theorem dX1_isNameFrom_5 : decode cX1_isNameFrom 5 = .ok (.iconst 1, 1) := by decide +kernel
theorem dX1_isNameFrom_6 : decode cX1_isNameFrom 6 = .ok (.iadd, 1) := by decide +kernel
theorem dX1_isNameFrom_7 : decode cX1_isNameFrom 7 = .ok (.if_icmp .ne 19, 3) := by decide +kernel
theorem dX1_isNameFrom_10 : decode cX1_isNameFrom 10 = .ok (.aload_n 0, 1) := by decide +kernel
theorem dX1_isNameFrom_11 : decode cX1_isNameFrom 11 = .ok (.getfield 11, 3) := by decide +kernel
theorem dX1_isNameFrom_14 : decode cX1_isNameFrom 14 = .ok (.iload_n 1, 1) := by decide +kernel
theorem dX1_isNameFrom_15 : decode cX1_isNameFrom 15 = .ok (.invokevirtual 29, 3) := by decide +kernel
theorem dX1_isNameFrom_18 : decode cX1_isNameFrom 18 = .ok (.iconst 1, 1) := by decide +kernel
theorem dX1_isNameFrom_19 : decode cX1_isNameFrom 19 = .ok (.if_icmp .ne 7, 3) := by decide +kernel
theorem dX1_isNameFrom_22 : decode cX1_isNameFrom 22 = .ok (.iconst 1, 1) := by decide +kernel
theorem dX1_isNameFrom_23 : decode cX1_isNameFrom 23 = .ok (.goto 4, 3) := by decide +kernel
theorem dX1_isNameFrom_26 : decode cX1_isNameFrom 26 = .ok (.iconst 0, 1) := by decide +kernel
theorem dX1_isNameFrom_27 : decode cX1_isNameFrom 27 = .ok (.ireturn, 1) := by decide +kernel
theorem dX1_assign_0 : decode cX1_assign 0 = .ok (.aload_n 0, 1) := by decide +kernel
theorem dX1_assign_1 : decode cX1_assign 1 = .ok (.invokevirtual 50, 3) := by decide +kernel
theorem dX1_assign_4 : decode cX1_assign 4 = .ok (.istore_n 2, 1) := by decide +kernel
theorem dX1_assign_5 : decode cX1_assign 5 = .ok (.iload_n 1, 1) := by decide +kernel
theorem dX1_assign_6 : decode cX1_assign 6 = .ok (.iconst 2, 1) := by decide +kernel
theorem dX1_assign_7 : decode cX1_assign 7 = .ok (.if_icmp .ne 14, 3) := by decide +kernel
theorem dX1_assign_10 : decode cX1_assign 10 = .ok (.aload_n 0, 1) := by decide +kernel
theorem dX1_assign_11 : decode cX1_assign 11 = .ok (.bipush 28, 2) := by decide +kernel
theorem dX1_assign_13 : decode cX1_assign 13 = .ok (.invokevirtual 46, 3) := by decide +kernel
theorem dX1_assign_16 : decode cX1_assign 16 = .ok (.ifCond .eq 5, 3) := by decide +kernel
theorem dX1_assign_19 : decode cX1_assign 19 = .ok (.iconst 2, 1) := by decide +kernel
theorem dX1_assign_20 : decode cX1_assign 20 = .ok (.ireturn, 1) := by decide +kernel
theorem dX1_assign_21 : decode cX1_assign 21 = .ok (.aload_n 0, 1) := by decide +kernel
theorem dX1_assign_22 : decode cX1_assign 22 = .ok (.getfield 43, 3) := by decide +kernel
theorem dX1_assign_25 : decode cX1_assign 25 = .ok (.istore_n 3, 1) := by decide +kernel
theorem dX1_assign_26 : decode cX1_assign 26 = .ok (.aload_n 0, 1) := by decide +kernel
theorem dX1_assign_27 : decode cX1_assign 27 = .ok (.iconst 0, 1) := by decide +kernel
theorem dX1_assign_28 : decode cX1_assign 28 = .ok (.invokevirtual 181, 3) := by decide +kernel
theorem dX1_assign_31 : decode cX1_assign 31 = .ok (.aload_n 0, 1) := by decide +kernel
theorem dX1_assign_32 : decode cX1_assign 32 = .ok (.iload_n 1, 1) := by decide +kernel
theorem dX1_assign_33 : decode cX1_assign 33 = .ok (.iload_n 3, 1) := by decide +kernel
theorem dX1_assign_34 : decode cX1_assign 34 = .ok (.invokevirtual 246, 3) := by decide +kernel
theorem dX1_assign_37 : decode cX1_assign 37 = .ok (.aload_n 0, 1) := by decide +kernel
theorem dX1_assign_38 : decode cX1_assign 38 = .ok (.getfield 17, 3) := by decide +kernel
theorem dX1_assign_41 : decode cX1_assign 41 = .ok (.bipush 54, 2) := by decide +kernel
theorem dX1_assign_43 : decode cX1_assign 43 = .ok (.iload_n 2, 1) := by decide +kernel
theorem dX1_assign_44 : decode cX1_assign 44 = .ok (.iconst 2, 1) := by decide +kernel
theorem dX1_assign_45 : decode cX1_assign 45 = .ok (.invokevirtual 69, 3) := by decide +kernel
theorem dX1_assign_48 : decode cX1_assign 48 = .ok (.iconst 1, 1) := by decide +kernel
theorem dX1_assign_49 : decode cX1_assign 49 = .ok (.ireturn, 1) := by decide +kernel
theorem dX1_define_0 : decode cX1_define 0 = .ok (.aload_n 0, 1) := by decide +kernel
theorem dX1_define_1 : decode cX1_define 1 = .ok (.invokevirtual 50, 3) := by decide +kernel
theorem dX1_define_4 : decode cX1_define 4 = .ok (.istore_n 3, 1) := by decide +kernel
theorem dX1_define_5 : decode cX1_define 5 = .ok (.iload_n 1, 1) := by decide +kernel
theorem dX1_define_6 : decode cX1_define 6 = .ok (.iconst 2, 1) := by decide +kernel
theorem dX1_define_7 : decode cX1_define 7 = .ok (.if_icmp .ne 25, 3) := by decide +kernel
theorem dX1_define_10 : decode cX1_define 10 = .ok (.aload_n 0, 1) := by decide +kernel
theorem dX1_define_11 : decode cX1_define 11 = .ok (.bipush 28, 2) := by decide +kernel
theorem dX1_define_13 : decode cX1_define 13 = .ok (.invokevirtual 46, 3) := by decide +kernel
theorem dX1_define_16 : decode cX1_define 16 = .ok (.ifCond .eq 16, 3) := by decide +kernel
theorem dX1_define_19 : decode cX1_define 19 = .ok (.aload_n 0, 1) := by decide +kernel
theorem dX1_define_20 : decode cX1_define 20 = .ok (.getfield 17, 3) := by decide +kernel
theorem dX1_define_23 : decode cX1_define 23 = .ok (.bipush 67, 2) := by decide +kernel
theorem dX1_define_25 : decode cX1_define 25 = .ok (.iload_n 3, 1) := by decide +kernel
theorem dX1_define_26 : decode cX1_define 26 = .ok (.iconst 1, 1) := by decide +kernel
theorem dX1_define_27 : decode cX1_define 27 = .ok (.invokevirtual 69, 3) := by decide +kernel
theorem dX1_define_30 : decode cX1_define 30 = .ok (.iconst 2, 1) := by decide +kernel
theorem dX1_define_31 : decode cX1_define 31 = .ok (.ireturn, 1) := by decide +kernel
theorem dX1_define_32 : decode cX1_define 32 = .ok (.aload_n 0, 1) := by decide +kernel
theorem dX1_define_33 : decode cX1_define 33 = .ok (.getfield 43, 3) := by decide +kernel
theorem dX1_define_36 : decode cX1_define 36 = .ok (.istore 4, 2) := by decide +kernel
theorem dX1_define_38 : decode cX1_define 38 = .ok (.aload_n 0, 1) := by decide +kernel
theorem dX1_define_39 : decode cX1_define 39 = .ok (.iload_n 1, 1) := by decide +kernel
theorem dX1_define_40 : decode cX1_define 40 = .ok (.iconst 4, 1) := by decide +kernel
theorem dX1_define_41 : decode cX1_define 41 = .ok (.if_icmp .ne 12, 3) := by decide +kernel
theorem dX1_define_44 : decode cX1_define 44 = .ok (.iload_n 2, 1) := by decide +kernel
theorem dX1_define_45 : decode cX1_define 45 = .ok (.iconst 1, 1) := by decide +kernel
theorem dX1_define_46 : decode cX1_define 46 = .ok (.if_icmp .ne 7, 3) := by decide +kernel
theorem dX1_define_49 : decode cX1_define 49 = .ok (.iconst 1, 1) := by decide +kernel
theorem dX1_define_50 : decode cX1_define 50 = .ok (.goto 4, 3) := by decide +kernel
theorem dX1_define_53 : decode cX1_define 53 = .ok (.iconst 0, 1) := by decide +kernel
theorem dX1_define_54 : decode cX1_define 54 = .ok (.invokevirtual 181, 3) := by decide +kernel
theorem dX1_define_57 : decode cX1_define 57 = .ok (.aload_n 0, 1) := by decide +kernel
theorem dX1_define_58 : decode cX1_define 58 = .ok (.getfield 25, 3) := by decide +kernel
theorem dX1_define_61 : decode cX1_define 61 = .ok (.iconst (-1), 1) := by decide +kernel
theorem dX1_define_62 : decode cX1_define 62 = .ok (.if_icmp .eq 10, 3) := by decide +kernel
theorem dX1_define_65 : decode cX1_define 65 = .ok (.aload_n 0, 1) := by decide +kernel
theorem dX1_define_66 : decode cX1_define 66 = .ok (.iconst 2, 1) := by decide +kernel
theorem dX1_define_67 : decode cX1_define 67 = .ok (.invokevirtual 231, 3) := by decide +kernel
theorem dX1_define_70 : decode cX1_define 70 = .ok (.iconst 3, 1) := by decide +kernel
theorem dX1_define_71 : decode cX1_define 71 = .ok (.ireturn, 1) := by decide +kernel
theorem dX1_define_72 : decode cX1_define 72 = .ok (.aload_n 0, 1) := by decide +kernel
theorem dX1_define_73 : decode cX1_define 73 = .ok (.iload_n 1, 1) := by decide +kernel
theorem dX1_define_74 : decode cX1_define 74 = .ok (.iload 4, 2) := by decide +kernel
theorem dX1_define_76 : decode cX1_define 76 = .ok (.invokevirtual 246, 3) := by decide +kernel
theorem dX1_define_79 : decode cX1_define 79 = .ok (.aload_n 0, 1) := by decide +kernel
theorem dX1_define_80 : decode cX1_define 80 = .ok (.getfield 17, 3) := by decide +kernel
theorem dX1_define_83 : decode cX1_define 83 = .ok (.bipush 56, 2) := by decide +kernel
theorem dX1_define_85 : decode cX1_define 85 = .ok (.iload_n 3, 1) := by decide +kernel
theorem dX1_define_86 : decode cX1_define 86 = .ok (.iconst 2, 1) := by decide +kernel
theorem dX1_define_87 : decode cX1_define 87 = .ok (.invokevirtual 69, 3) := by decide +kernel
theorem dX1_define_90 : decode cX1_define 90 = .ok (.iconst 1, 1) := by decide +kernel
theorem dX1_define_91 : decode cX1_define 91 = .ok (.ireturn, 1) := by decide +kernel
theorem dX1_behindExpr_0 : decode cX1_behindExpr 0 = .ok (.aload_n 0, 1) := by decide +kernel
theorem dX1_behindExpr_1 : decode cX1_behindExpr 1 = .ok (.bipush 64, 2) := by decide +kernel
theorem dX1_behindExpr_3 : decode cX1_behindExpr 3 = .ok (.invokevirtual 46, 3) := by decide +kernel
theorem dX1_behindExpr_6 : decode cX1_behindExpr 6 = .ok (.ifCond .eq 26, 3) := by decide +kernel
theorem dX1_behindExpr_9 : decode cX1_behindExpr 9 = .ok (.aload_n 0, 1) := by decide +kernel
theorem dX1_behindExpr_10 : decode cX1_behindExpr 10 = .ok (.invokevirtual 50, 3) := by decide +kernel
theorem dX1_behindExpr_13 : decode cX1_behindExpr 13 = .ok (.istore_n 2, 1) := by decide +kernel
theorem dX1_behindExpr_14 : decode cX1_behindExpr 14 = .ok (.aload_n 0, 1) := by decide +kernel
theorem dX1_behindExpr_15 : decode cX1_behindExpr 15 = .ok (.iconst 0, 1) := by decide +kernel
theorem dX1_behindExpr_16 : decode cX1_behindExpr 16 = .ok (.invokevirtual 181, 3) := by decide +kernel
theorem dX1_behindExpr_19 : decode cX1_behindExpr 19 = .ok (.aload_n 0, 1) := by decide +kernel
theorem dX1_behindExpr_20 : decode cX1_behindExpr 20 = .ok (.getfield 17, 3) := by decide +kernel
theorem dX1_behindExpr_23 : decode cX1_behindExpr 23 = .ok (.bipush 51, 2) := by decide +kernel
theorem dX1_behindExpr_25 : decode cX1_behindExpr 25 = .ok (.iload_n 2, 1) := by decide +kernel
theorem dX1_behindExpr_26 : decode cX1_behindExpr 26 = .ok (.iconst 2, 1) := by decide +kernel
theorem dX1_behindExpr_27 : decode cX1_behindExpr 27 = .ok (.invokevirtual 69, 3) := by decide +kernel
theorem dX1_behindExpr_30 : decode cX1_behindExpr 30 = .ok (.iconst 1, 1) := by decide +kernel
theorem dX1_behindExpr_31 : decode cX1_behindExpr 31 = .ok (.ireturn, 1) := by decide +kernel
theorem dX1_behindExpr_32 : decode cX1_behindExpr 32 = .ok (.iload_n 1, 1) := by decide +kernel
theorem dX1_behindExpr_33 : decode cX1_behindExpr 33 = .ok (.iconst 5, 1) := by decide +kernel
theorem dX1_behindExpr_34 : decode cX1_behindExpr 34 = .ok (.if_icmp .ne 5, 3) := by decide +kernel
theorem dX1_behindExpr_37 : decode cX1_behindExpr 37 = .ok (.iconst 0, 1) := by decide +kernel
theorem dX1_behindExpr_38 : decode cX1_behindExpr 38 = .ok (.ireturn, 1) := by decide +kernel
theorem dX1_behindExpr_39 : decode cX1_behindExpr 39 = .ok (.aload_n 0, 1) := by decide +kernel
theorem dX1_behindExpr_40 : decode cX1_behindExpr 40 = .ok (.bipush 65, 2) := by decide +kernel
theorem dX1_behindExpr_42 : decode cX1_behindExpr 42 = .ok (.invokevirtual 46, 3) := by decide +kernel
theorem dX1_behindExpr_45 : decode cX1_behindExpr 45 = .ok (.ifCond .eq 19, 3) := by decide +kernel
theorem dX1_behindExpr_48 : decode cX1_behindExpr 48 = .ok (.aload_n 0, 1) := by decide +kernel
theorem dX1_behindExpr_49 : decode cX1_behindExpr 49 = .ok (.getfield 17, 3) := by decide +kernel
theorem dX1_behindExpr_52 : decode cX1_behindExpr 52 = .ok (.bipush 52, 2) := by decide +kernel
theorem dX1_behindExpr_54 : decode cX1_behindExpr 54 = .ok (.aload_n 0, 1) := by decide +kernel
theorem dX1_behindExpr_55 : decode cX1_behindExpr 55 = .ok (.invokevirtual 50, 3) := by decide +kernel
theorem dX1_behindExpr_58 : decode cX1_behindExpr 58 = .ok (.iconst 1, 1) := by decide +kernel
theorem dX1_behindExpr_59 : decode cX1_behindExpr 59 = .ok (.invokevirtual 69, 3) := by decide +kernel
theorem dX1_behindExpr_62 : decode cX1_behindExpr 62 = .ok (.iconst 1, 1) := by decide +kernel
theorem dX1_behindExpr_63 : decode cX1_behindExpr 63 = .ok (.ireturn, 1) := by decide +kernel
theorem dX1_behindExpr_64 : decode cX1_behindExpr 64 = .ok (.aload_n 0, 1) := by decide +kernel
theorem dX1_behindExpr_65 : decode cX1_behindExpr 65 = .ok (.bipush 66, 2) := by decide +kernel
theorem dX1_behindExpr_67 : decode cX1_behindExpr 67 = .ok (.invokevirtual 46, 3) := by decide +kernel
theorem dX1_behindExpr_70 : decode cX1_behindExpr 70 = .ok (.ifCond .eq 19, 3) := by decide +kernel
theorem dX1_behindExpr_73 : decode cX1_behindExpr 73 = .ok (.aload_n 0, 1) := by decide +kernel
theorem dX1_behindExpr_74 : decode cX1_behindExpr 74 = .ok (.getfield 17, 3) := by decide +kernel
theorem dX1_behindExpr_77 : decode cX1_behindExpr 77 = .ok (.bipush 53, 2) := by decide +kernel
theorem dX1_behindExpr_79 : decode cX1_behindExpr 79 = .ok (.aload_n 0, 1) := by decide +kernel
theorem dX1_behindExpr_80 : decode cX1_behindExpr 80 = .ok (.invokevirtual 50, 3) := by decide +kernel
theorem dX1_behindExpr_83 : decode cX1_behindExpr 83 = .ok (.iconst 1, 1) := by decide +kernel
theorem dX1_behindExpr_84 : decode cX1_behindExpr 84 = .ok (.invokevirtual 69, 3) := by decide +kernel
theorem dX1_behindExpr_87 : decode cX1_behindExpr 87 = .ok (.iconst 1, 1) := by decide +kernel
theorem dX1_behindExpr_88 : decode cX1_behindExpr 88 = .ok (.ireturn, 1) := by decide +kernel
theorem dX1_behindExpr_89 : decode cX1_behindExpr 89 = .ok (.aload_n 0, 1) := by decide +kernel
theorem dX1_behindExpr_90 : decode cX1_behindExpr 90 = .ok (.getfield 33, 3) := by decide +kernel
theorem dX1_behindExpr_93 : decode cX1_behindExpr 93 = .ok (.invokestatic 250, 3) := by decide +kernel
theorem dX1_behindExpr_96 : decode cX1_behindExpr 96 = .ok (.ifCond .eq 26, 3) := by decide +kernel
theorem dX1_behindExpr_99 : decode cX1_behindExpr 99 = .ok (.aload_n 0, 1) := by decide +kernel
theorem dX1_behindExpr_100 : decode cX1_behindExpr 100 = .ok (.invokevirtual 50, 3) := by decide +kernel
theorem dX1_behindExpr_103 : decode cX1_behindExpr 103 = .ok (.istore_n 2, 1) := by decide +kernel
theorem dX1_behindExpr_104 : decode cX1_behindExpr 104 = .ok (.aload_n 0, 1) := by decide +kernel
theorem dX1_behindExpr_105 : decode cX1_behindExpr 105 = .ok (.iconst 0, 1) := by decide +kernel
theorem dX1_behindExpr_106 : decode cX1_behindExpr 106 = .ok (.invokevirtual 181, 3) := by decide +kernel
theorem dX1_behindExpr_109 : decode cX1_behindExpr 109 = .ok (.aload_n 0, 1) := by decide +kernel
theorem dX1_behindExpr_110 : decode cX1_behindExpr 110 = .ok (.getfield 17, 3) := by decide +kernel
theorem dX1_behindExpr_113 : decode cX1_behindExpr 113 = .ok (.bipush 55, 2) := by decide +kernel
theorem dX1_behindExpr_115 : decode cX1_behindExpr 115 = .ok (.iload_n 2, 1) := by decide +kernel
theorem dX1_behindExpr_116 : decode cX1_behindExpr 116 = .ok (.iconst 2, 1) := by decide +kernel
theorem dX1_behindExpr_117 : decode cX1_behindExpr 117 = .ok (.invokevirtual 69, 3) := by decide +kernel
theorem dX1_behindExpr_120 : decode cX1_behindExpr 120 = .ok (.iconst 1, 1) := by decide +kernel
theorem dX1_behindExpr_121 : decode cX1_behindExpr 121 = .ok (.ireturn, 1) := by decide +kernel
theorem dX1_behindExpr_122 : decode cX1_behindExpr 122 = .ok (.iconst 0, 1) := by decide +kernel
theorem dX1_behindExpr_123 : decode cX1_behindExpr 123 = .ok (.ireturn, 1) := by decide +kernel
theorem dX1_putGuard_0 : decode cX1_putGuard 0 = .ok (.aload_n 0, 1) := by decide +kernel
theorem dX1_putGuard_1 : decode cX1_putGuard 1 = .ok (.getfield 17, 3) := by decide +kernel
theorem dX1_putGuard_4 : decode cX1_putGuard 4 = .ok (.bipush 69, 2) := by decide +kernel
theorem dX1_putGuard_6 : decode cX1_putGuard 6 = .ok (.aload_n 0, 1) := by decide +kernel
theorem dX1_putGuard_7 : decode cX1_putGuard 7 = .ok (.getfield 25, 3) := by decide +kernel
theorem dX1_putGuard_10 : decode cX1_putGuard 10 = .ok (.iload_n 1, 1) := by decide +kernel
theorem dX1_putGuard_11 : decode cX1_putGuard 11 = .ok (.invokevirtual 69, 3) := by decide +kernel
theorem dX1_putGuard_14 : decode cX1_putGuard 14 = .ok (.aload_n 0, 1) := by decide +kernel
theorem dX1_putGuard_15 : decode cX1_putGuard 15 = .ok (.iconst (-1), 1) := by decide +kernel
theorem dX1_putGuard_16 : decode cX1_putGuard 16 = .ok (.putfield 25, 3) := by decide +kernel
theorem dX1_putGuard_19 : decode cX1_putGuard 19 = .ok (.return_, 1) := by decide +kernel
theorem dX1_opening_0 : decode cX1_opening 0 = .ok (.iconst 0, 1) := by decide +kernel
theorem dX1_opening_1 : decode cX1_opening 1 = .ok (.istore_n 3, 1) := by decide +kernel
theorem dX1_opening_2 : decode cX1_opening 2 = .ok (.aload_n 0, 1) := by decide +kernel
theorem dX1_opening_3 : decode cX1_opening 3 = .ok (.bipush 85, 2) := by decide +kernel
theorem dX1_opening_5 : decode cX1_opening 5 = .ok (.invokevirtual 46, 3) := by decide +kernel
theorem dX1_opening_8 : decode cX1_opening 8 = .ok (.ifCond .ne 69, 3) := by decide +kernel
theorem dX1_opening_11 : decode cX1_opening 11 = .ok (.aload_n 0, 1) := by decide +kernel
theorem dX1_opening_12 : decode cX1_opening 12 = .ok (.getfield 43, 3) := by decide +kernel
theorem dX1_opening_15 : decode cX1_opening 15 = .ok (.istore 4, 2) := by decide +kernel
theorem dX1_opening_17 : decode cX1_opening 17 = .ok (.aload_n 0, 1) := by decide +kernel
theorem dX1_opening_18 : decode cX1_opening 18 = .ok (.iload_n 1, 1) := by decide +kernel
theorem dX1_opening_19 : decode cX1_opening 19 = .ok (.invokevirtual 228, 3) := by decide +kernel
theorem dX1_opening_22 : decode cX1_opening 22 = .ok (.istore 5, 2) := by decide +kernel
theorem dX1_opening_24 : decode cX1_opening 24 = .ok (.iload 5, 2) := by decide +kernel
theorem dX1_opening_26 : decode cX1_opening 26 = .ok (.ifCond .ne 7, 3) := by decide +kernel
theorem dX1_opening_29 : decode cX1_opening 29 = .ok (.iconst 1, 1) := by decide +kernel
theorem dX1_opening_30 : decode cX1_opening 30 = .ok (.goto 4, 3) := by decide +kernel
theorem dX1_opening_33 : decode cX1_opening 33 = .ok (.iconst 0, 1) := by decide +kernel
theorem dX1_opening_34 : decode cX1_opening 34 = .ok (.istore 6, 2) := by decide +kernel
theorem dX1_opening_36 : decode cX1_opening 36 = .ok (.iload 6, 2) := by decide +kernel
theorem dX1_opening_38 : decode cX1_opening 38 = .ok (.ifCond .eq 27, 3) := by decide +kernel
theorem dX1_opening_41 : decode cX1_opening 41 = .ok (.aload_n 0, 1) := by decide +kernel
theorem dX1_opening_42 : decode cX1_opening 42 = .ok (.bipush 85, 2) := by decide +kernel
theorem dX1_opening_44 : decode cX1_opening 44 = .ok (.invokevirtual 46, 3) := by decide +kernel
theorem dX1_opening_47 : decode cX1_opening 47 = .ok (.ifCond .eq 18, 3) := by decide +kernel
theorem dX1_opening_50 : decode cX1_opening 50 = .ok (.aload_n 0, 1) := by decide +kernel
theorem dX1_opening_51 : decode cX1_opening 51 = .ok (.getfield 17, 3) := by decide +kernel
theorem dX1_opening_54 : decode cX1_opening 54 = .ok (.bipush 50, 2) := by decide +kernel
theorem dX1_opening_56 : decode cX1_opening 56 = .ok (.iload 4, 2) := by decide +kernel
theorem dX1_opening_58 : decode cX1_opening 58 = .ok (.iconst 1, 1) := by decide +kernel
theorem dX1_opening_59 : decode cX1_opening 59 = .ok (.invokevirtual 69, 3) := by decide +kernel
theorem dX1_opening_62 : decode cX1_opening 62 = .ok (.goto 12, 3) := by decide +kernel
theorem dX1_opening_65 : decode cX1_opening 65 = .ok (.iload 5, 2) := by decide +kernel
theorem dX1_opening_67 : decode cX1_opening 67 = .ok (.iconst 1, 1) := by decide +kernel
theorem dX1_opening_68 : decode cX1_opening 68 = .ok (.if_icmp .eq 6, 3) := by decide +kernel
theorem dX1_opening_71 : decode cX1_opening 71 = .ok (.iload 5, 2) := by decide +kernel
theorem dX1_opening_73 : decode cX1_opening 73 = .ok (.ireturn, 1) := by decide +kernel
theorem dX1_opening_74 : decode cX1_opening 74 = .ok (.iinc 3 1, 3) := by decide +kernel
theorem dX1_opening_77 : decode cX1_opening 77 = .ok (.aload_n 0, 1) := by decide +kernel
theorem dX1_opening_78 : decode cX1_opening 78 = .ok (.getfield 17, 3) := by decide +kernel
theorem dX1_opening_81 : decode cX1_opening 81 = .ok (.iload_n 2, 1) := by decide +kernel
theorem dX1_opening_82 : decode cX1_opening 82 = .ok (.aload_n 0, 1) := by decide +kernel
theorem dX1_opening_83 : decode cX1_opening 83 = .ok (.bipush 85, 2) := by decide +kernel
theorem dX1_opening_85 : decode cX1_opening 85 = .ok (.invokevirtual 63, 3) := by decide +kernel
theorem dX1_opening_88 : decode cX1_opening 88 = .ok (.iload_n 3, 1) := by decide +kernel
theorem dX1_opening_89 : decode cX1_opening 89 = .ok (.invokevirtual 69, 3) := by decide +kernel
theorem dX1_opening_92 : decode cX1_opening 92 = .ok (.iconst 1, 1) := by decide +kernel
theorem dX1_opening_93 : decode cX1_opening 93 = .ok (.ireturn, 1) := by decide +kernel
theorem dX1_ifStmt_0 : decode cX1_ifStmt 0 = .ok (.aload_n 0, 1) := by decide +kernel
theorem dX1_ifStmt_1 : decode cX1_ifStmt 1 = .ok (.invokevirtual 50, 3) := by decide +kernel
theorem dX1_ifStmt_4 : decode cX1_ifStmt 4 = .ok (.istore_n 1, 1) := by decide +kernel
theorem dX1_ifStmt_5 : decode cX1_ifStmt 5 = .ok (.aload_n 0, 1) := by decide +kernel
theorem dX1_ifStmt_6 : decode cX1_ifStmt 6 = .ok (.getfield 119, 3) := by decide +kernel
theorem dX1_ifStmt_9 : decode cX1_ifStmt 9 = .ok (.istore_n 2, 1) := by decide +kernel
theorem dX1_ifStmt_10 : decode cX1_ifStmt 10 = .ok (.aload_n 0, 1) := by decide +kernel
theorem dX1_ifStmt_11 : decode cX1_ifStmt 11 = .ok (.iconst 1, 1) := by decide +kernel
theorem dX1_ifStmt_12 : decode cX1_ifStmt 12 = .ok (.putfield 119, 3) := by decide +kernel
theorem dX1_ifStmt_15 : decode cX1_ifStmt 15 = .ok (.iconst 2, 1) := by decide +kernel
theorem dX1_ifStmt_16 : decode cX1_ifStmt 16 = .ok (.istore_n 3, 1) := by decide +kernel
theorem dX1_ifStmt_17 : decode cX1_ifStmt 17 = .ok (.aload_n 0, 1) := by decide +kernel
theorem dX1_ifStmt_18 : decode cX1_ifStmt 18 = .ok (.iconst 1, 1) := by decide +kernel
theorem dX1_ifStmt_19 : decode cX1_ifStmt 19 = .ok (.bipush 61, 2) := by decide +kernel
theorem dX1_ifStmt_21 : decode cX1_ifStmt 21 = .ok (.invokevirtual 253, 3) := by decide +kernel
theorem dX1_ifStmt_24 : decode cX1_ifStmt 24 = .ok (.iconst 1, 1) := by decide +kernel
theorem dX1_ifStmt_25 : decode cX1_ifStmt 25 = .ok (.if_icmp .ne 11, 3) := by decide +kernel
theorem dX1_ifStmt_28 : decode cX1_ifStmt 28 = .ok (.aload_n 0, 1) := by decide +kernel
theorem dX1_ifStmt_29 : decode cX1_ifStmt 29 = .ok (.iconst 0, 1) := by decide +kernel
theorem dX1_ifStmt_30 : decode cX1_ifStmt 30 = .ok (.invokevirtual 181, 3) := by decide +kernel
theorem dX1_ifStmt_33 : decode cX1_ifStmt 33 = .ok (.iinc 3 1, 3) := by decide +kernel
theorem dX1_ifStmt_36 : decode cX1_ifStmt 36 = .ok (.aload_n 0, 1) := by decide +kernel
theorem dX1_ifStmt_37 : decode cX1_ifStmt 37 = .ok (.iload_n 2, 1) := by decide +kernel
theorem dX1_ifStmt_38 : decode cX1_ifStmt 38 = .ok (.putfield 119, 3) := by decide +kernel
theorem dX1_ifStmt_41 : decode cX1_ifStmt 41 = .ok (.aload_n 0, 1) := by decide +kernel
theorem dX1_ifStmt_42 : decode cX1_ifStmt 42 = .ok (.invokevirtual 97, 3) := by decide +kernel
theorem dX1_ifStmt_45 : decode cX1_ifStmt 45 = .ok (.aload_n 0, 1) := by decide +kernel
theorem dX1_ifStmt_46 : decode cX1_ifStmt 46 = .ok (.bipush 17, 2) := by decide +kernel
theorem dX1_ifStmt_48 : decode cX1_ifStmt 48 = .ok (.invokevirtual 46, 3) := by decide +kernel
theorem dX1_ifStmt_51 : decode cX1_ifStmt 51 = .ok (.ifCond .eq 10, 3) := by decide +kernel
theorem dX1_ifStmt_54 : decode cX1_ifStmt 54 = .ok (.aload_n 0, 1) := by decide +kernel
theorem dX1_ifStmt_55 : decode cX1_ifStmt 55 = .ok (.invokevirtual 256, 3) := by decide +kernel
theorem dX1_ifStmt_58 : decode cX1_ifStmt 58 = .ok (.iinc 3 1, 3) := by decide +kernel
theorem dX1_ifStmt_61 : decode cX1_ifStmt 61 = .ok (.aload_n 0, 1) := by decide +kernel
theorem dX1_ifStmt_62 : decode cX1_ifStmt 62 = .ok (.getfield 17, 3) := by decide +kernel
theorem dX1_ifStmt_65 : decode cX1_ifStmt 65 = .ok (.bipush 60, 2) := by decide +kernel
theorem dX1_ifStmt_67 : decode cX1_ifStmt 67 = .ok (.iload_n 1, 1) := by decide +kernel
theorem dX1_ifStmt_68 : decode cX1_ifStmt 68 = .ok (.iload_n 3, 1) := by decide +kernel
theorem dX1_ifStmt_69 : decode cX1_ifStmt 69 = .ok (.invokevirtual 69, 3) := by decide +kernel
theorem dX1_ifStmt_72 : decode cX1_ifStmt 72 = .ok (.return_, 1) := by decide +kernel
theorem dX1_elseBranch_0 : decode cX1_elseBranch 0 = .ok (.aload_n 0, 1) := by decide +kernel
theorem dX1_elseBranch_1 : decode cX1_elseBranch 1 = .ok (.bipush 17, 2) := by decide +kernel
theorem dX1_elseBranch_3 : decode cX1_elseBranch 3 = .ok (.invokevirtual 100, 3) := by decide +kernel
theorem dX1_elseBranch_6 : decode cX1_elseBranch 6 = .ok (.pop, 1) := by decide +kernel
theorem dX1_elseBranch_7 : decode cX1_elseBranch 7 = .ok (.aload_n 0, 1) := by decide +kernel
theorem dX1_elseBranch_8 : decode cX1_elseBranch 8 = .ok (.bipush 23, 2) := by decide +kernel
theorem dX1_elseBranch_10 : decode cX1_elseBranch 10 = .ok (.invokevirtual 46, 3) := by decide +kernel
theorem dX1_elseBranch_13 : decode cX1_elseBranch 13 = .ok (.ifCond .eq 10, 3) := by decide +kernel
theorem dX1_elseBranch_16 : decode cX1_elseBranch 16 = .ok (.aload_n 0, 1) := by decide +kernel
theorem dX1_elseBranch_17 : decode cX1_elseBranch 17 = .ok (.invokevirtual 192, 3) := by decide +kernel
theorem dX1_elseBranch_20 : decode cX1_elseBranch 20 = .ok (.goto 7, 3) := by decide +kernel
theorem dX1_elseBranch_23 : decode cX1_elseBranch 23 = .ok (.aload_n 0, 1) := by decide +kernel
theorem dX1_elseBranch_24 : decode cX1_elseBranch 24 = .ok (.invokevirtual 97, 3) := by decide +kernel
theorem dX1_elseBranch_27 : decode cX1_elseBranch 27 = .ok (.aload_n 0, 1) := by decide +kernel
theorem dX1_elseBranch_28 : decode cX1_elseBranch 28 = .ok (.invokevirtual 66, 3) := by decide +kernel
theorem dX1_elseBranch_31 : decode cX1_elseBranch 31 = .ok (.return_, 1) := by decide +kernel
theorem dX1_forStmt_0 : decode cX1_forStmt 0 = .ok (.aload_n 0, 1) := by decide +kernel
theorem dX1_forStmt_1 : decode cX1_forStmt 1 = .ok (.invokevirtual 50, 3) := by decide +kernel
theorem dX1_forStmt_4 : decode cX1_forStmt 4 = .ok (.istore_n 1, 1) := by decide +kernel
theorem dX1_forStmt_5 : decode cX1_forStmt 5 = .ok (.aload_n 0, 1) := by decide +kernel
theorem dX1_forStmt_6 : decode cX1_forStmt 6 = .ok (.getfield 119, 3) := by decide +kernel
theorem dX1_forStmt_9 : decode cX1_forStmt 9 = .ok (.istore_n 2, 1) := by decide +kernel
theorem dX1_forStmt_10 : decode cX1_forStmt 10 = .ok (.aload_n 0, 1) := by decide +kernel
theorem dX1_forStmt_11 : decode cX1_forStmt 11 = .ok (.iconst 1, 1) := by decide +kernel
theorem dX1_forStmt_12 : decode cX1_forStmt 12 = .ok (.putfield 119, 3) := by decide +kernel
theorem dX1_forStmt_15 : decode cX1_forStmt 15 = .ok (.iconst 1, 1) := by decide +kernel
theorem dX1_forStmt_16 : decode cX1_forStmt 16 = .ok (.aload_n 0, 1) := by decide +kernel
theorem dX1_forStmt_17 : decode cX1_forStmt 17 = .ok (.invokevirtual 259, 3) := by decide +kernel
theorem dX1_forStmt_20 : decode cX1_forStmt 20 = .ok (.iadd, 1) := by decide +kernel
theorem dX1_forStmt_21 : decode cX1_forStmt 21 = .ok (.istore_n 3, 1) := by decide +kernel
theorem dX1_forStmt_22 : decode cX1_forStmt 22 = .ok (.aload_n 0, 1) := by decide +kernel
theorem dX1_forStmt_23 : decode cX1_forStmt 23 = .ok (.iload_n 2, 1) := by decide +kernel
theorem dX1_forStmt_24 : decode cX1_forStmt 24 = .ok (.putfield 119, 3) := by decide +kernel
theorem dX1_forStmt_27 : decode cX1_forStmt 27 = .ok (.aload_n 0, 1) := by decide +kernel
theorem dX1_forStmt_28 : decode cX1_forStmt 28 = .ok (.invokevirtual 97, 3) := by decide +kernel
theorem dX1_forStmt_31 : decode cX1_forStmt 31 = .ok (.aload_n 0, 1) := by decide +kernel
theorem dX1_forStmt_32 : decode cX1_forStmt 32 = .ok (.getfield 17, 3) := by decide +kernel
theorem dX1_forStmt_35 : decode cX1_forStmt 35 = .ok (.bipush 62, 2) := by decide +kernel
theorem dX1_forStmt_37 : decode cX1_forStmt 37 = .ok (.iload_n 1, 1) := by decide +kernel
theorem dX1_forStmt_38 : decode cX1_forStmt 38 = .ok (.iload_n 3, 1) := by decide +kernel
theorem dX1_forStmt_39 : decode cX1_forStmt 39 = .ok (.invokevirtual 69, 3) := by decide +kernel
theorem dX1_forStmt_42 : decode cX1_forStmt 42 = .ok (.return_, 1) := by decide +kernel
theorem dX1_forHead_0 : decode cX1_forHead 0 = .ok (.aload_n 0, 1) := by decide +kernel
theorem dX1_forHead_1 : decode cX1_forHead 1 = .ok (.bipush 82, 2) := by decide +kernel
theorem dX1_forHead_3 : decode cX1_forHead 3 = .ok (.invokevirtual 46, 3) := by decide +kernel
theorem dX1_forHead_6 : decode cX1_forHead 6 = .ok (.ifCond .eq 5, 3) := by decide +kernel
theorem dX1_forHead_9 : decode cX1_forHead 9 = .ok (.iconst 0, 1) := by decide +kernel
theorem dX1_forHead_10 : decode cX1_forHead 10 = .ok (.ireturn, 1) := by decide +kernel
theorem dX1_forHead_11 : decode cX1_forHead 11 = .ok (.aload_n 0, 1) := by decide +kernel
theorem dX1_forHead_12 : decode cX1_forHead 12 = .ok (.bipush 28, 2) := by decide +kernel
theorem dX1_forHead_14 : decode cX1_forHead 14 = .ok (.invokevirtual 46, 3) := by decide +kernel
theorem dX1_forHead_17 : decode cX1_forHead 17 = .ok (.ifCond .eq 10, 3) := by decide +kernel
theorem dX1_forHead_20 : decode cX1_forHead 20 = .ok (.aload_n 0, 1) := by decide +kernel
theorem dX1_forHead_21 : decode cX1_forHead 21 = .ok (.iconst 0, 1) := by decide +kernel
theorem dX1_forHead_22 : decode cX1_forHead 22 = .ok (.invokevirtual 262, 3) := by decide +kernel
theorem dX1_forHead_25 : decode cX1_forHead 25 = .ok (.iconst 1, 1) := by decide +kernel
theorem dX1_forHead_26 : decode cX1_forHead 26 = .ok (.ireturn, 1) := by decide +kernel
theorem dX1_forHead_27 : decode cX1_forHead 27 = .ok (.aload_n 0, 1) := by decide +kernel
theorem dX1_forHead_28 : decode cX1_forHead 28 = .ok (.iconst 2, 1) := by decide +kernel
theorem dX1_forHead_29 : decode cX1_forHead 29 = .ok (.bipush 63, 2) := by decide +kernel
theorem dX1_forHead_31 : decode cX1_forHead 31 = .ok (.invokevirtual 253, 3) := by decide +kernel
theorem dX1_forHead_34 : decode cX1_forHead 34 = .ok (.istore_n 1, 1) := by decide +kernel
theorem dX1_forHead_35 : decode cX1_forHead 35 = .ok (.iload_n 1, 1) := by decide +kernel
theorem dX1_forHead_36 : decode cX1_forHead 36 = .ok (.iconst 1, 1) := by decide +kernel
theorem dX1_forHead_37 : decode cX1_forHead 37 = .ok (.if_icmp .ne 9, 3) := by decide +kernel
theorem dX1_forHead_40 : decode cX1_forHead 40 = .ok (.aload_n 0, 1) := by decide +kernel
theorem dX1_forHead_41 : decode cX1_forHead 41 = .ok (.invokevirtual 265, 3) := by decide +kernel
theorem dX1_forHead_44 : decode cX1_forHead 44 = .ok (.iconst 3, 1) := by decide +kernel
theorem dX1_forHead_45 : decode cX1_forHead 45 = .ok (.ireturn, 1) := by decide +kernel
theorem dX1_forHead_46 : decode cX1_forHead 46 = .ok (.iload_n 1, 1) := by decide +kernel
theorem dX1_forHead_47 : decode cX1_forHead 47 = .ok (.iconst 2, 1) := by decide +kernel
theorem dX1_forHead_48 : decode cX1_forHead 48 = .ok (.if_icmp .ne 8, 3) := by decide +kernel
theorem dX1_forHead_51 : decode cX1_forHead 51 = .ok (.aload_n 0, 1) := by decide +kernel
theorem dX1_forHead_52 : decode cX1_forHead 52 = .ok (.iconst 1, 1) := by decide +kernel
theorem dX1_forHead_53 : decode cX1_forHead 53 = .ok (.invokevirtual 262, 3) := by decide +kernel
theorem dX1_forHead_56 : decode cX1_forHead 56 = .ok (.iconst 1, 1) := by decide +kernel
theorem dX1_forHead_57 : decode cX1_forHead 57 = .ok (.ireturn, 1) := by decide +kernel
theorem dX1_range_0 : decode cX1_range 0 = .ok (.aload_n 0, 1) := by decide +kernel
theorem dX1_range_1 : decode cX1_range 1 = .ok (.invokevirtual 50, 3) := by decide +kernel
theorem dX1_range_4 : decode cX1_range 4 = .ok (.istore_n 2, 1) := by decide +kernel
theorem dX1_range_5 : decode cX1_range 5 = .ok (.aload_n 0, 1) := by decide +kernel
theorem dX1_range_6 : decode cX1_range 6 = .ok (.iconst 0, 1) := by decide +kernel
theorem dX1_range_7 : decode cX1_range 7 = .ok (.invokevirtual 181, 3) := by decide +kernel
theorem dX1_range_10 : decode cX1_range 10 = .ok (.aload_n 0, 1) := by decide +kernel
theorem dX1_range_11 : decode cX1_range 11 = .ok (.getfield 17, 3) := by decide +kernel
theorem dX1_range_14 : decode cX1_range 14 = .ok (.bipush 66, 2) := by decide +kernel
theorem dX1_range_16 : decode cX1_range 16 = .ok (.iload_n 2, 1) := by decide +kernel
theorem dX1_range_17 : decode cX1_range 17 = .ok (.iload_n 1, 1) := by decide +kernel
theorem dX1_range_18 : decode cX1_range 18 = .ok (.iconst 1, 1) := by decide +kernel
theorem dX1_range_19 : decode cX1_range 19 = .ok (.iadd, 1) := by decide +kernel
theorem dX1_range_20 : decode cX1_range 20 = .ok (.invokevirtual 69, 3) := by decide +kernel
theorem dX1_range_23 : decode cX1_range 23 = .ok (.return_, 1) := by decide +kernel
theorem dX1_restOfForHead_0 : decode cX1_restOfForHead 0 = .ok (.iconst 0, 1) := by decide +kernel
theorem dX1_restOfForHead_1 : decode cX1_restOfForHead 1 = .ok (.istore_n 1, 1) := by decide +kernel
theorem dX1_restOfForHead_2 : decode cX1_restOfForHead 2 = .ok (.aload_n 0, 1) := by decide +kernel
theorem dX1_restOfForHead_3 : decode cX1_restOfForHead 3 = .ok (.bipush 85, 2) := by decide +kernel
theorem dX1_restOfForHead_5 : decode cX1_restOfForHead 5 = .ok (.invokevirtual 46, 3) := by decide +kernel
theorem dX1_restOfForHead_8 : decode cX1_restOfForHead 8 = .ok (.ifCond .ne 11, 3) := by decide +kernel
theorem dX1_restOfForHead_11 : decode cX1_restOfForHead 11 = .ok (.aload_n 0, 1) := by decide +kernel
theorem dX1_restOfForHead_12 : decode cX1_restOfForHead 12 = .ok (.iconst 0, 1) := by decide +kernel
theorem dX1_restOfForHead_13 : decode cX1_restOfForHead 13 = .ok (.invokevirtual 181, 3) := by decide +kernel
theorem dX1_restOfForHead_16 : decode cX1_restOfForHead 16 = .ok (.iinc 1 1, 3) := by decide +kernel
theorem dX1_restOfForHead_19 : decode cX1_restOfForHead 19 = .ok (.aload_n 0, 1) := by decide +kernel
theorem dX1_restOfForHead_20 : decode cX1_restOfForHead 20 = .ok (.bipush 85, 2) := by decide +kernel
theorem dX1_restOfForHead_22 : decode cX1_restOfForHead 22 = .ok (.invokevirtual 63, 3) := by decide +kernel
theorem dX1_restOfForHead_25 : decode cX1_restOfForHead 25 = .ok (.istore_n 2, 1) := by decide +kernel
theorem dX1_restOfForHead_26 : decode cX1_restOfForHead 26 = .ok (.aload_n 0, 1) := by decide +kernel
theorem dX1_restOfForHead_27 : decode cX1_restOfForHead 27 = .ok (.getfield 17, 3) := by decide +kernel
theorem dX1_restOfForHead_30 : decode cX1_restOfForHead 30 = .ok (.bipush 64, 2) := by decide +kernel
theorem dX1_restOfForHead_32 : decode cX1_restOfForHead 32 = .ok (.iload_n 2, 1) := by decide +kernel
theorem dX1_restOfForHead_33 : decode cX1_restOfForHead 33 = .ok (.iload_n 1, 1) := by decide +kernel
theorem dX1_restOfForHead_34 : decode cX1_restOfForHead 34 = .ok (.invokevirtual 69, 3) := by decide +kernel
theorem dX1_restOfForHead_37 : decode cX1_restOfForHead 37 = .ok (.iconst 0, 1) := by decide +kernel
theorem dX1_restOfForHead_38 : decode cX1_restOfForHead 38 = .ok (.istore_n 1, 1) := by decide +kernel
theorem dX1_restOfForHead_39 : decode cX1_restOfForHead 39 = .ok (.aload_n 0, 1) := by decide +kernel
theorem dX1_restOfForHead_40 : decode cX1_restOfForHead 40 = .ok (.bipush 82, 2) := by decide +kernel
theorem dX1_restOfForHead_42 : decode cX1_restOfForHead 42 = .ok (.invokevirtual 46, 3) := by decide +kernel
theorem dX1_restOfForHead_45 : decode cX1_restOfForHead 45 = .ok (.ifCond .ne 11, 3) := by decide +kernel
theorem dX1_restOfForHead_48 : decode cX1_restOfForHead 48 = .ok (.aload_n 0, 1) := by decide +kernel
theorem dX1_restOfForHead_49 : decode cX1_restOfForHead 49 = .ok (.iconst 3, 1) := by decide +kernel
theorem dX1_restOfForHead_50 : decode cX1_restOfForHead 50 = .ok (.invokevirtual 225, 3) := by decide +kernel
theorem dX1_restOfForHead_53 : decode cX1_restOfForHead 53 = .ok (.iinc 1 1, 3) := by decide +kernel
theorem dX1_restOfForHead_56 : decode cX1_restOfForHead 56 = .ok (.aload_n 0, 1) := by decide +kernel
theorem dX1_restOfForHead_57 : decode cX1_restOfForHead 57 = .ok (.getfield 17, 3) := by decide +kernel
theorem dX1_restOfForHead_60 : decode cX1_restOfForHead 60 = .ok (.bipush 65, 2) := by decide +kernel
theorem dX1_restOfForHead_62 : decode cX1_restOfForHead 62 = .ok (.iload_n 2, 1) := by decide +kernel
theorem dX1_restOfForHead_63 : decode cX1_restOfForHead 63 = .ok (.iload_n 1, 1) := by decide +kernel
theorem dX1_restOfForHead_64 : decode cX1_restOfForHead 64 = .ok (.invokevirtual 69, 3) := by decide +kernel
theorem dX1_restOfForHead_67 : decode cX1_restOfForHead 67 = .ok (.return_, 1) := by decide +kernel
theorem dX1_switchStmt_0 : decode cX1_switchStmt 0 = .ok (.aload_n 0, 1) := by decide +kernel
theorem dX1_switchStmt_1 : decode cX1_switchStmt 1 = .ok (.invokevirtual 50, 3) := by decide +kernel
theorem dX1_switchStmt_4 : decode cX1_switchStmt 4 = .ok (.istore_n 1, 1) := by decide +kernel
theorem dX1_switchStmt_5 : decode cX1_switchStmt 5 = .ok (.aload_n 0, 1) := by decide +kernel
theorem dX1_switchStmt_6 : decode cX1_switchStmt 6 = .ok (.getfield 119, 3) := by decide +kernel
theorem dX1_switchStmt_9 : decode cX1_switchStmt 9 = .ok (.istore_n 2, 1) := by decide +kernel
theorem dX1_switchStmt_10 : decode cX1_switchStmt 10 = .ok (.aload_n 0, 1) := by decide +kernel
theorem dX1_switchStmt_11 : decode cX1_switchStmt 11 = .ok (.iconst 1, 1) := by decide +kernel
theorem dX1_switchStmt_12 : decode cX1_switchStmt 12 = .ok (.putfield 119, 3) := by decide +kernel
theorem dX1_switchStmt_15 : decode cX1_switchStmt 15 = .ok (.iconst 0, 1) := by decide +kernel
theorem dX1_switchStmt_16 : decode cX1_switchStmt 16 = .ok (.istore_n 3, 1) := by decide +kernel
theorem dX1_switchStmt_17 : decode cX1_switchStmt 17 = .ok (.iconst 0, 1) := by decide +kernel
theorem dX1_switchStmt_18 : decode cX1_switchStmt 18 = .ok (.istore 4, 2) := by decide +kernel
theorem dX1_switchStmt_20 : decode cX1_switchStmt 20 = .ok (.aload_n 0, 1) := by decide +kernel
theorem dX1_switchStmt_21 : decode cX1_switchStmt 21 = .ok (.bipush 82, 2) := by decide +kernel
theorem dX1_switchStmt_23 : decode cX1_switchStmt 23 = .ok (.invokevirtual 46, 3) := by decide +kernel
theorem dX1_switchStmt_26 : decode cX1_switchStmt 26 = .ok (.ifCond .ne 52, 3) := by decide +kernel
theorem dX1_switchStmt_29 : decode cX1_switchStmt 29 = .ok (.aload_n 0, 1) := by decide +kernel
theorem dX1_switchStmt_30 : decode cX1_switchStmt 30 = .ok (.iconst 4, 1) := by decide +kernel
theorem dX1_switchStmt_31 : decode cX1_switchStmt 31 = .ok (.bipush 61, 2) := by decide +kernel
theorem dX1_switchStmt_33 : decode cX1_switchStmt 33 = .ok (.invokevirtual 253, 3) := by decide +kernel
theorem dX1_switchStmt_36 : decode cX1_switchStmt 36 = .ok (.istore 5, 2) := by decide +kernel
theorem dX1_switchStmt_38 : decode cX1_switchStmt 38 = .ok (.iload 5, 2) := by decide +kernel
theorem dX1_switchStmt_40 : decode cX1_switchStmt 40 = .ok (.iconst 3, 1) := by decide +kernel
theorem dX1_switchStmt_41 : decode cX1_switchStmt 41 = .ok (.if_icmp .ne 7, 3) := by decide +kernel
theorem dX1_switchStmt_44 : decode cX1_switchStmt 44 = .ok (.iconst 1, 1) := by decide +kernel
theorem dX1_switchStmt_45 : decode cX1_switchStmt 45 = .ok (.goto 4, 3) := by decide +kernel
theorem dX1_switchStmt_48 : decode cX1_switchStmt 48 = .ok (.iconst 0, 1) := by decide +kernel
theorem dX1_switchStmt_49 : decode cX1_switchStmt 49 = .ok (.istore 4, 2) := by decide +kernel
theorem dX1_switchStmt_51 : decode cX1_switchStmt 51 = .ok (.iinc 3 1, 3) := by decide +kernel
theorem dX1_switchStmt_54 : decode cX1_switchStmt 54 = .ok (.iload 5, 2) := by decide +kernel
theorem dX1_switchStmt_56 : decode cX1_switchStmt 56 = .ok (.iconst 1, 1) := by decide +kernel
theorem dX1_switchStmt_57 : decode cX1_switchStmt 57 = .ok (.if_icmp .ne 21, 3) := by decide +kernel
theorem dX1_switchStmt_60 : decode cX1_switchStmt 60 = .ok (.aload_n 0, 1) := by decide +kernel
theorem dX1_switchStmt_61 : decode cX1_switchStmt 61 = .ok (.bipush 82, 2) := by decide +kernel
theorem dX1_switchStmt_63 : decode cX1_switchStmt 63 = .ok (.invokevirtual 46, 3) := by decide +kernel
theorem dX1_switchStmt_66 : decode cX1_switchStmt 66 = .ok (.ifCond .ne 12, 3) := by decide +kernel
theorem dX1_switchStmt_69 : decode cX1_switchStmt 69 = .ok (.aload_n 0, 1) := by decide +kernel
theorem dX1_switchStmt_70 : decode cX1_switchStmt 70 = .ok (.invokevirtual 268, 3) := by decide +kernel
theorem dX1_switchStmt_73 : decode cX1_switchStmt 73 = .ok (.istore 4, 2) := by decide +kernel
theorem dX1_switchStmt_75 : decode cX1_switchStmt 75 = .ok (.iinc 3 1, 3) := by decide +kernel
theorem dX1_switchStmt_78 : decode cX1_switchStmt 78 = .ok (.aload_n 0, 1) := by decide +kernel
theorem dX1_switchStmt_79 : decode cX1_switchStmt 79 = .ok (.iload_n 2, 1) := by decide +kernel
theorem dX1_switchStmt_80 : decode cX1_switchStmt 80 = .ok (.putfield 119, 3) := by decide +kernel
theorem dX1_switchStmt_83 : decode cX1_switchStmt 83 = .ok (.iload_n 3, 1) := by decide +kernel
theorem dX1_switchStmt_84 : decode cX1_switchStmt 84 = .ok (.aload_n 0, 1) := by decide +kernel
theorem dX1_switchStmt_85 : decode cX1_switchStmt 85 = .ok (.iload 4, 2) := by decide +kernel
theorem dX1_switchStmt_87 : decode cX1_switchStmt 87 = .ok (.ifCond .eq 7, 3) := by decide +kernel
theorem dX1_switchStmt_90 : decode cX1_switchStmt 90 = .ok (.iconst 1, 1) := by decide +kernel
theorem dX1_switchStmt_91 : decode cX1_switchStmt 91 = .ok (.goto 4, 3) := by decide +kernel
theorem dX1_switchStmt_94 : decode cX1_switchStmt 94 = .ok (.iconst 0, 1) := by decide +kernel
theorem dX1_switchStmt_95 : decode cX1_switchStmt 95 = .ok (.invokevirtual 271, 3) := by decide +kernel
theorem dX1_switchStmt_98 : decode cX1_switchStmt 98 = .ok (.iadd, 1) := by decide +kernel
theorem dX1_switchStmt_99 : decode cX1_switchStmt 99 = .ok (.istore_n 3, 1) := by decide +kernel
theorem dX1_switchStmt_100 : decode cX1_switchStmt 100 = .ok (.aload_n 0, 1) := by decide +kernel
theorem dX1_switchStmt_101 : decode cX1_switchStmt 101 = .ok (.getfield 17, 3) := by decide +kernel
theorem dX1_switchStmt_104 : decode cX1_switchStmt 104 = .ok (.bipush 68, 2) := by decide +kernel
theorem dX1_switchStmt_106 : decode cX1_switchStmt 106 = .ok (.iload_n 1, 1) := by decide +kernel
theorem dX1_switchStmt_107 : decode cX1_switchStmt 107 = .ok (.iload_n 3, 1) := by decide +kernel
theorem dX1_switchStmt_108 : decode cX1_switchStmt 108 = .ok (.invokevirtual 69, 3) := by decide +kernel
theorem dX1_switchStmt_111 : decode cX1_switchStmt 111 = .ok (.return_, 1) := by decide +kernel
theorem dX1_tag_0 : decode cX1_tag 0 = .ok (.aload_n 0, 1) := by decide +kernel
theorem dX1_tag_1 : decode cX1_tag 1 = .ok (.getfield 43, 3) := by decide +kernel
theorem dX1_tag_4 : decode cX1_tag 4 = .ok (.istore_n 1, 1) := by decide +kernel
theorem dX1_tag_5 : decode cX1_tag 5 = .ok (.aload_n 0, 1) := by decide +kernel
theorem dX1_tag_6 : decode cX1_tag 6 = .ok (.iconst 1, 1) := by decide +kernel
theorem dX1_tag_7 : decode cX1_tag 7 = .ok (.invokevirtual 181, 3) := by decide +kernel
theorem dX1_tag_10 : decode cX1_tag 10 = .ok (.aload_n 0, 1) := by decide +kernel
theorem dX1_tag_11 : decode cX1_tag 11 = .ok (.getfield 25, 3) := by decide +kernel
theorem dX1_tag_14 : decode cX1_tag 14 = .ok (.iconst (-1), 1) := by decide +kernel
theorem dX1_tag_15 : decode cX1_tag 15 = .ok (.if_icmp .eq 10, 3) := by decide +kernel
theorem dX1_tag_18 : decode cX1_tag 18 = .ok (.aload_n 0, 1) := by decide +kernel
theorem dX1_tag_19 : decode cX1_tag 19 = .ok (.iconst 1, 1) := by decide +kernel
theorem dX1_tag_20 : decode cX1_tag 20 = .ok (.invokevirtual 231, 3) := by decide +kernel
theorem dX1_tag_23 : decode cX1_tag 23 = .ok (.iconst 1, 1) := by decide +kernel
theorem dX1_tag_24 : decode cX1_tag 24 = .ok (.ireturn, 1) := by decide +kernel
theorem dX1_tag_25 : decode cX1_tag 25 = .ok (.aload_n 0, 1) := by decide +kernel
theorem dX1_tag_26 : decode cX1_tag 26 = .ok (.bipush 76, 2) := by decide +kernel
theorem dX1_tag_28 : decode cX1_tag 28 = .ok (.invokevirtual 46, 3) := by decide +kernel
theorem dX1_tag_31 : decode cX1_tag 31 = .ok (.ifCond .eq 11, 3) := by decide +kernel
theorem dX1_tag_34 : decode cX1_tag 34 = .ok (.aload_n 0, 1) := by decide +kernel
theorem dX1_tag_35 : decode cX1_tag 35 = .ok (.iload_n 1, 1) := by decide +kernel
theorem dX1_tag_36 : decode cX1_tag 36 = .ok (.invokevirtual 234, 3) := by decide +kernel
theorem dX1_tag_39 : decode cX1_tag 39 = .ok (.ifCond .ne 5, 3) := by decide +kernel
theorem dX1_tag_42 : decode cX1_tag 42 = .ok (.iconst 0, 1) := by decide +kernel
theorem dX1_tag_43 : decode cX1_tag 43 = .ok (.ireturn, 1) := by decide +kernel
theorem dX1_tag_44 : decode cX1_tag 44 = .ok (.aload_n 0, 1) := by decide +kernel
theorem dX1_tag_45 : decode cX1_tag 45 = .ok (.getfield 17, 3) := by decide +kernel
theorem dX1_tag_48 : decode cX1_tag 48 = .ok (.bipush 12, 2) := by decide +kernel
theorem dX1_tag_50 : decode cX1_tag 50 = .ok (.iload_n 1, 1) := by decide +kernel
theorem dX1_tag_51 : decode cX1_tag 51 = .ok (.iconst 1, 1) := by decide +kernel
theorem dX1_tag_52 : decode cX1_tag 52 = .ok (.invokevirtual 69, 3) := by decide +kernel
theorem dX1_tag_55 : decode cX1_tag 55 = .ok (.aload_n 0, 1) := by decide +kernel
theorem dX1_tag_56 : decode cX1_tag 56 = .ok (.invokevirtual 50, 3) := by decide +kernel
theorem dX1_tag_59 : decode cX1_tag 59 = .ok (.pop, 1) := by decide +kernel
theorem dX1_tag_60 : decode cX1_tag 60 = .ok (.aload_n 0, 1) := by decide +kernel
theorem dX1_tag_61 : decode cX1_tag 61 = .ok (.iconst 1, 1) := by decide +kernel
theorem dX1_tag_62 : decode cX1_tag 62 = .ok (.invokevirtual 274, 3) := by decide +kernel
theorem dX1_tag_65 : decode cX1_tag 65 = .ok (.aload_n 0, 1) := by decide +kernel
theorem dX1_tag_66 : decode cX1_tag 66 = .ok (.getfield 25, 3) := by decide +kernel
theorem dX1_tag_69 : decode cX1_tag 69 = .ok (.iconst (-1), 1) := by decide +kernel
theorem dX1_tag_70 : decode cX1_tag 70 = .ok (.if_icmp .ne 7, 3) := by decide +kernel
theorem dX1_tag_73 : decode cX1_tag 73 = .ok (.aload_n 0, 1) := by decide +kernel
theorem dX1_tag_74 : decode cX1_tag 74 = .ok (.invokevirtual 54, 3) := by decide +kernel
theorem dX1_tag_77 : decode cX1_tag 77 = .ok (.aload_n 0, 1) := by decide +kernel
theorem dX1_tag_78 : decode cX1_tag 78 = .ok (.iconst 2, 1) := by decide +kernel
theorem dX1_tag_79 : decode cX1_tag 79 = .ok (.invokevirtual 231, 3) := by decide +kernel
theorem dX1_tag_82 : decode cX1_tag 82 = .ok (.iconst 1, 1) := by decide +kernel
theorem dX1_tag_83 : decode cX1_tag 83 = .ok (.ireturn, 1) := by decide +kernel
theorem dX1_selectStmt_0 : decode cX1_selectStmt 0 = .ok (.aload_n 0, 1) := by decide +kernel
theorem dX1_selectStmt_1 : decode cX1_selectStmt 1 = .ok (.invokevirtual 50, 3) := by decide +kernel
theorem dX1_selectStmt_4 : decode cX1_selectStmt 4 = .ok (.istore_n 1, 1) := by decide +kernel
theorem dX1_selectStmt_5 : decode cX1_selectStmt 5 = .ok (.aload_n 0, 1) := by decide +kernel
theorem dX1_selectStmt_6 : decode cX1_selectStmt 6 = .ok (.getfield 17, 3) := by decide +kernel
theorem dX1_selectStmt_9 : decode cX1_selectStmt 9 = .ok (.bipush 73, 2) := by decide +kernel
theorem dX1_selectStmt_11 : decode cX1_selectStmt 11 = .ok (.iload_n 1, 1) := by decide +kernel
theorem dX1_selectStmt_12 : decode cX1_selectStmt 12 = .ok (.aload_n 0, 1) := by decide +kernel
theorem dX1_selectStmt_13 : decode cX1_selectStmt 13 = .ok (.iconst 2, 1) := by decide +kernel
theorem dX1_selectStmt_14 : decode cX1_selectStmt 14 = .ok (.invokevirtual 271, 3) := by decide +kernel
theorem dX1_selectStmt_17 : decode cX1_selectStmt 17 = .ok (.invokevirtual 69, 3) := by decide +kernel
theorem dX1_selectStmt_20 : decode cX1_selectStmt 20 = .ok (.return_, 1) := by decide +kernel
theorem dX1_clauses_0 : decode cX1_clauses 0 = .ok (.aload_n 0, 1) := by decide +kernel
theorem dX1_clauses_1 : decode cX1_clauses 1 = .ok (.bipush 82, 2) := by decide +kernel
theorem dX1_clauses_3 : decode cX1_clauses 3 = .ok (.invokevirtual 100, 3) := by decide +kernel
theorem dX1_clauses_6 : decode cX1_clauses 6 = .ok (.pop, 1) := by decide +kernel
theorem dX1_clauses_7 : decode cX1_clauses 7 = .ok (.iconst 0, 1) := by decide +kernel
theorem dX1_clauses_8 : decode cX1_clauses 8 = .ok (.istore_n 2, 1) := by decide +kernel
theorem dX1_clauses_9 : decode cX1_clauses 9 = .ok (.iload_n 2, 1) := by decide +kernel
theorem dX1_clauses_10 : decode cX1_clauses 10 = .ok (.sipush 16385, 3) := by decide +kernel
theorem dX1_clauses_13 : decode cX1_clauses 13 = .ok (.if_icmp .ge 49, 3) := by decide +kernel
theorem dX1_clauses_16 : decode cX1_clauses 16 = .ok (.aload_n 0, 1) := by decide +kernel
theorem dX1_clauses_17 : decode cX1_clauses 17 = .ok (.bipush 11, 2) := by decide +kernel
theorem dX1_clauses_19 : decode cX1_clauses 19 = .ok (.invokevirtual 46, 3) := by decide +kernel
theorem dX1_clauses_22 : decode cX1_clauses 22 = .ok (.ifCond .ne 12, 3) := by decide +kernel
theorem dX1_clauses_25 : decode cX1_clauses 25 = .ok (.aload_n 0, 1) := by decide +kernel
theorem dX1_clauses_26 : decode cX1_clauses 26 = .ok (.bipush 15, 2) := by decide +kernel
theorem dX1_clauses_28 : decode cX1_clauses 28 = .ok (.invokevirtual 46, 3) := by decide +kernel
theorem dX1_clauses_31 : decode cX1_clauses 31 = .ok (.ifCond .eq 31, 3) := by decide +kernel
theorem dX1_clauses_34 : decode cX1_clauses 34 = .ok (.aload_n 0, 1) := by decide +kernel
theorem dX1_clauses_35 : decode cX1_clauses 35 = .ok (.bipush 11, 2) := by decide +kernel
theorem dX1_clauses_37 : decode cX1_clauses 37 = .ok (.invokevirtual 46, 3) := by decide +kernel
theorem dX1_clauses_40 : decode cX1_clauses 40 = .ok (.ifCond .eq 11, 3) := by decide +kernel
theorem dX1_clauses_43 : decode cX1_clauses 43 = .ok (.aload_n 0, 1) := by decide +kernel
theorem dX1_clauses_44 : decode cX1_clauses 44 = .ok (.iload_n 1, 1) := by decide +kernel
theorem dX1_clauses_45 : decode cX1_clauses 45 = .ok (.invokevirtual 277, 3) := by decide +kernel
theorem dX1_clauses_48 : decode cX1_clauses 48 = .ok (.goto 8, 3) := by decide +kernel
theorem dX1_clauses_51 : decode cX1_clauses 51 = .ok (.aload_n 0, 1) := by decide +kernel
theorem dX1_clauses_52 : decode cX1_clauses 52 = .ok (.iload_n 1, 1) := by decide +kernel
theorem dX1_clauses_53 : decode cX1_clauses 53 = .ok (.invokevirtual 280, 3) := by decide +kernel
theorem dX1_clauses_56 : decode cX1_clauses 56 = .ok (.iinc 2 1, 3) := by decide +kernel
theorem dX1_clauses_59 : decode cX1_clauses 59 = .ok (.goto (-50), 3) := by decide +kernel
theorem dX1_clauses_62 : decode cX1_clauses 62 = .ok (.aload_n 0, 1) := by decide +kernel
theorem dX1_clauses_63 : decode cX1_clauses 63 = .ok (.bipush 83, 2) := by decide +kernel
theorem dX1_clauses_65 : decode cX1_clauses 65 = .ok (.invokevirtual 106, 3) := by decide +kernel
theorem dX1_clauses_68 : decode cX1_clauses 68 = .ok (.iload_n 2, 1) := by decide +kernel
theorem dX1_clauses_69 : decode cX1_clauses 69 = .ok (.ireturn, 1) := by decide +kernel
theorem dX1_caseClause_0 : decode cX1_caseClause 0 = .ok (.aload_n 0, 1) := by decide +kernel
theorem dX1_caseClause_1 : decode cX1_caseClause 1 = .ok (.invokevirtual 50, 3) := by decide +kernel
theorem dX1_caseClause_4 : decode cX1_caseClause 4 = .ok (.istore_n 2, 1) := by decide +kernel
theorem dX1_caseClause_5 : decode cX1_caseClause 5 = .ok (.iload_n 1, 1) := by decide +kernel
theorem dX1_caseClause_6 : decode cX1_caseClause 6 = .ok (.lookupswitch 41 #[(1, 26), (2, 33)], 26) := by decide +kernel
theorem dX1_caseClause_32 : decode cX1_caseClause 32 = .ok (.aload_n 0, 1) := by decide +kernel
theorem dX1_caseClause_33 : decode cX1_caseClause 33 = .ok (.invokevirtual 283, 3) := by decide +kernel
theorem dX1_caseClause_36 : decode cX1_caseClause 36 = .ok (.goto 15, 3) := by decide +kernel
theorem dX1_caseClause_39 : decode cX1_caseClause 39 = .ok (.aload_n 0, 1) := by decide +kernel
theorem dX1_caseClause_40 : decode cX1_caseClause 40 = .ok (.iconst 5, 1) := by decide +kernel
theorem dX1_caseClause_41 : decode cX1_caseClause 41 = .ok (.invokevirtual 225, 3) := by decide +kernel
theorem dX1_caseClause_44 : decode cX1_caseClause 44 = .ok (.goto 7, 3) := by decide +kernel
theorem dX1_caseClause_47 : decode cX1_caseClause 47 = .ok (.aload_n 0, 1) := by decide +kernel
theorem dX1_caseClause_48 : decode cX1_caseClause 48 = .ok (.invokevirtual 141, 3) := by decide +kernel
theorem dX1_caseClause_51 : decode cX1_caseClause 51 = .ok (.aload_n 0, 1) := by decide +kernel
theorem dX1_caseClause_52 : decode cX1_caseClause 52 = .ok (.invokevirtual 286, 3) := by decide +kernel
theorem dX1_caseClause_55 : decode cX1_caseClause 55 = .ok (.aload_n 0, 1) := by decide +kernel
theorem dX1_caseClause_56 : decode cX1_caseClause 56 = .ok (.getfield 17, 3) := by decide +kernel
theorem dX1_caseClause_59 : decode cX1_caseClause 59 = .ok (.iload_n 1, 1) := by decide +kernel
theorem dX1_caseClause_60 : decode cX1_caseClause 60 = .ok (.iconst 2, 1) := by decide +kernel
theorem dX1_caseClause_61 : decode cX1_caseClause 61 = .ok (.if_icmp .ne 8, 3) := by decide +kernel
theorem dX1_caseClause_64 : decode cX1_caseClause 64 = .ok (.bipush 74, 2) := by decide +kernel
theorem dX1_caseClause_66 : decode cX1_caseClause 66 = .ok (.goto 5, 3) := by decide +kernel
theorem dX1_caseClause_69 : decode cX1_caseClause 69 = .ok (.bipush 71, 2) := by decide +kernel
theorem dX1_caseClause_71 : decode cX1_caseClause 71 = .ok (.iload_n 2, 1) := by decide +kernel
theorem dX1_caseClause_72 : decode cX1_caseClause 72 = .ok (.iconst 2, 1) := by decide +kernel
theorem dX1_caseClause_73 : decode cX1_caseClause 73 = .ok (.invokevirtual 69, 3) := by decide +kernel
theorem dX1_caseClause_76 : decode cX1_caseClause 76 = .ok (.return_, 1) := by decide +kernel
theorem dX1_defaultClause_0 : decode cX1_defaultClause 0 = .ok (.aload_n 0, 1) := by decide +kernel
theorem dX1_defaultClause_1 : decode cX1_defaultClause 1 = .ok (.invokevirtual 50, 3) := by decide +kernel
theorem dX1_defaultClause_4 : decode cX1_defaultClause 4 = .ok (.istore_n 2, 1) := by decide +kernel
theorem dX1_defaultClause_5 : decode cX1_defaultClause 5 = .ok (.aload_n 0, 1) := by decide +kernel
theorem dX1_defaultClause_6 : decode cX1_defaultClause 6 = .ok (.invokevirtual 286, 3) := by decide +kernel
theorem dX1_defaultClause_9 : decode cX1_defaultClause 9 = .ok (.aload_n 0, 1) := by decide +kernel
theorem dX1_defaultClause_10 : decode cX1_defaultClause 10 = .ok (.getfield 17, 3) := by decide +kernel
theorem dX1_defaultClause_13 : decode cX1_defaultClause 13 = .ok (.iload_n 1, 1) := by decide +kernel
theorem dX1_defaultClause_14 : decode cX1_defaultClause 14 = .ok (.iconst 2, 1) := by decide +kernel
theorem dX1_defaultClause_15 : decode cX1_defaultClause 15 = .ok (.if_icmp .ne 8, 3) := by decide +kernel
theorem dX1_defaultClause_18 : decode cX1_defaultClause 18 = .ok (.bipush 75, 2) := by decide +kernel
theorem dX1_defaultClause_20 : decode cX1_defaultClause 20 = .ok (.goto 5, 3) := by decide +kernel
theorem dX1_defaultClause_23 : decode cX1_defaultClause 23 = .ok (.bipush 72, 2) := by decide +kernel
theorem dX1_defaultClause_25 : decode cX1_defaultClause 25 = .ok (.iload_n 2, 1) := by decide +kernel
theorem dX1_defaultClause_26 : decode cX1_defaultClause 26 = .ok (.iconst 1, 1) := by decide +kernel
theorem dX1_defaultClause_27 : decode cX1_defaultClause 27 = .ok (.invokevirtual 69, 3) := by decide +kernel
theorem dX1_defaultClause_30 : decode cX1_defaultClause 30 = .ok (.return_, 1) := by decide +kernel
theorem dX1_clauseBody_0 : decode cX1_clauseBody 0 = .ok (.aload_n 0, 1) := by decide +kernel
theorem dX1_clauseBody_1 : decode cX1_clauseBody 1 = .ok (.bipush 87, 2) := by decide +kernel
theorem dX1_clauseBody_3 : decode cX1_clauseBody 3 = .ok (.invokevirtual 63, 3) := by decide +kernel
theorem dX1_clauseBody_6 : decode cX1_clauseBody 6 = .ok (.istore_n 1, 1) := by decide +kernel
theorem dX1_clauseBody_7 : decode cX1_clauseBody 7 = .ok (.aload_n 0, 1) := by decide +kernel
theorem dX1_clauseBody_8 : decode cX1_clauseBody 8 = .ok (.getfield 17, 3) := by decide +kernel
theorem dX1_clauseBody_11 : decode cX1_clauseBody 11 = .ok (.bipush 40, 2) := by decide +kernel
theorem dX1_clauseBody_13 : decode cX1_clauseBody 13 = .ok (.iload_n 1, 1) := by decide +kernel
theorem dX1_clauseBody_14 : decode cX1_clauseBody 14 = .ok (.aload_n 0, 1) := by decide +kernel
theorem dX1_clauseBody_15 : decode cX1_clauseBody 15 = .ok (.invokevirtual 185, 3) := by decide +kernel
theorem dX1_clauseBody_18 : decode cX1_clauseBody 18 = .ok (.invokevirtual 69, 3) := by decide +kernel
theorem dX1_clauseBody_21 : decode cX1_clauseBody 21 = .ok (.return_, 1) := by decide +kernel
theorem dX1_types_0 : decode cX1_types 0 = .ok (.aload_n 0, 1) := by decide +kernel
theorem dX1_types_1 : decode cX1_types 1 = .ok (.getfield 43, 3) := by decide +kernel
theorem dX1_types_4 : decode cX1_types 4 = .ok (.istore_n 1, 1) := by decide +kernel
theorem dX1_types_5 : decode cX1_types 5 = .ok (.aload_n 0, 1) := by decide +kernel
theorem dX1_types_6 : decode cX1_types 6 = .ok (.invokevirtual 103, 3) := by decide +kernel
theorem dX1_types_9 : decode cX1_types 9 = .ok (.iconst 1, 1) := by decide +kernel
theorem dX1_types_10 : decode cX1_types 10 = .ok (.istore_n 2, 1) := by decide +kernel
theorem dX1_types_11 : decode cX1_types 11 = .ok (.iload_n 2, 1) := by decide +kernel
theorem dX1_types_12 : decode cX1_types 12 = .ok (.sipush 16385, 3) := by decide +kernel
theorem dX1_types_15 : decode cX1_types 15 = .ok (.if_icmp .ge 22, 3) := by decide +kernel
theorem dX1_types_18 : decode cX1_types 18 = .ok (.aload_n 0, 1) := by decide +kernel
theorem dX1_types_19 : decode cX1_types 19 = .ok (.bipush 84, 2) := by decide +kernel
theorem dX1_types_21 : decode cX1_types 21 = .ok (.invokevirtual 123, 3) := by decide +kernel
theorem dX1_types_24 : decode cX1_types 24 = .ok (.ifCond .eq 13, 3) := by decide +kernel
theorem dX1_types_27 : decode cX1_types 27 = .ok (.aload_n 0, 1) := by decide +kernel
theorem dX1_types_28 : decode cX1_types 28 = .ok (.invokevirtual 103, 3) := by decide +kernel
theorem dX1_types_31 : decode cX1_types 31 = .ok (.iinc 2 1, 3) := by decide +kernel
theorem dX1_types_34 : decode cX1_types 34 = .ok (.goto (-23), 3) := by decide +kernel
theorem dX1_types_37 : decode cX1_types 37 = .ok (.aload_n 0, 1) := by decide +kernel
theorem dX1_types_38 : decode cX1_types 38 = .ok (.getfield 17, 3) := by decide +kernel
theorem dX1_types_41 : decode cX1_types 41 = .ok (.bipush 70, 2) := by decide +kernel
theorem dX1_types_43 : decode cX1_types 43 = .ok (.iload_n 1, 1) := by decide +kernel
theorem dX1_types_44 : decode cX1_types 44 = .ok (.iload_n 2, 1) := by decide +kernel
theorem dX1_types_45 : decode cX1_types 45 = .ok (.invokevirtual 69, 3) := by decide +kernel
theorem dX1_types_48 : decode cX1_types 48 = .ok (.return_, 1) := by decide +kernel
theorem dX1_exprs_0 : decode cX1_exprs 0 = .ok (.aload_n 0, 1) := by decide +kernel
theorem dX1_exprs_1 : decode cX1_exprs 1 = .ok (.getfield 43, 3) := by decide +kernel
theorem dX1_exprs_4 : decode cX1_exprs 4 = .ok (.istore_n 1, 1) := by decide +kernel
theorem dX1_exprs_5 : decode cX1_exprs 5 = .ok (.aload_n 0, 1) := by decide +kernel
theorem dX1_exprs_6 : decode cX1_exprs 6 = .ok (.iconst 0, 1) := by decide +kernel
theorem dX1_exprs_7 : decode cX1_exprs 7 = .ok (.invokevirtual 181, 3) := by decide +kernel
theorem dX1_exprs_10 : decode cX1_exprs 10 = .ok (.aload_n 0, 1) := by decide +kernel
theorem dX1_exprs_11 : decode cX1_exprs 11 = .ok (.iconst 0, 1) := by decide +kernel
theorem dX1_exprs_12 : decode cX1_exprs 12 = .ok (.iload_n 1, 1) := by decide +kernel
theorem dX1_exprs_13 : decode cX1_exprs 13 = .ok (.invokevirtual 246, 3) := by decide +kernel
theorem dX1_exprs_16 : decode cX1_exprs 16 = .ok (.return_, 1) := by decide +kernel
theorem dX1_restOfExprs_0 : decode cX1_restOfExprs 0 = .ok (.iconst 1, 1) := by decide +kernel
theorem dX1_restOfExprs_1 : decode cX1_restOfExprs 1 = .ok (.istore_n 3, 1) := by decide +kernel
theorem dX1_restOfExprs_2 : decode cX1_restOfExprs 2 = .ok (.iload_n 3, 1) := by decide +kernel
theorem dX1_restOfExprs_3 : decode cX1_restOfExprs 3 = .ok (.sipush 16385, 3) := by decide +kernel
theorem dX1_restOfExprs_6 : decode cX1_restOfExprs 6 = .ok (.if_icmp .ge 28, 3) := by decide +kernel
theorem dX1_restOfExprs_9 : decode cX1_restOfExprs 9 = .ok (.iload_n 1, 1) := by decide +kernel
theorem dX1_restOfExprs_10 : decode cX1_restOfExprs 10 = .ok (.iconst 5, 1) := by decide +kernel
theorem dX1_restOfExprs_11 : decode cX1_restOfExprs 11 = .ok (.if_icmp .eq 23, 3) := by decide +kernel
theorem dX1_restOfExprs_14 : decode cX1_restOfExprs 14 = .ok (.aload_n 0, 1) := by decide +kernel
theorem dX1_restOfExprs_15 : decode cX1_restOfExprs 15 = .ok (.bipush 84, 2) := by decide +kernel
theorem dX1_restOfExprs_17 : decode cX1_restOfExprs 17 = .ok (.invokevirtual 123, 3) := by decide +kernel
theorem dX1_restOfExprs_20 : decode cX1_restOfExprs 20 = .ok (.ifCond .eq 14, 3) := by decide +kernel
theorem dX1_restOfExprs_23 : decode cX1_restOfExprs 23 = .ok (.aload_n 0, 1) := by decide +kernel
theorem dX1_restOfExprs_24 : decode cX1_restOfExprs 24 = .ok (.iconst 0, 1) := by decide +kernel
theorem dX1_restOfExprs_25 : decode cX1_restOfExprs 25 = .ok (.invokevirtual 181, 3) := by decide +kernel
theorem dX1_restOfExprs_28 : decode cX1_restOfExprs 28 = .ok (.iinc 3 1, 3) := by decide +kernel
theorem dX1_restOfExprs_31 : decode cX1_restOfExprs 31 = .ok (.goto (-29), 3) := by decide +kernel
theorem dX1_restOfExprs_34 : decode cX1_restOfExprs 34 = .ok (.aload_n 0, 1) := by decide +kernel
theorem dX1_restOfExprs_35 : decode cX1_restOfExprs 35 = .ok (.getfield 17, 3) := by decide +kernel
theorem dX1_restOfExprs_38 : decode cX1_restOfExprs 38 = .ok (.bipush 13, 2) := by decide +kernel
theorem dX1_restOfExprs_40 : decode cX1_restOfExprs 40 = .ok (.iload_n 2, 1) := by decide +kernel
theorem dX1_restOfExprs_41 : decode cX1_restOfExprs 41 = .ok (.iload_n 3, 1) := by decide +kernel
theorem dX1_restOfExprs_42 : decode cX1_restOfExprs 42 = .ok (.invokevirtual 69, 3) := by decide +kernel
theorem dX1_restOfExprs_45 : decode cX1_restOfExprs 45 = .ok (.return_, 1) := by decide +kernel
theorem dX1_expr_0 : decode cX1_expr 0 = .ok (.aload_n 0, 1) := by decide +kernel
theorem dX1_expr_1 : decode cX1_expr 1 = .ok (.getfield 289, 3) := by decide +kernel
theorem dX1_expr_4 : decode cX1_expr 4 = .ok (.istore_n 2, 1) := by decide +kernel
theorem dX1_expr_5 : decode cX1_expr 5 = .ok (.aload_n 0, 1) := by decide +kernel
theorem dX1_expr_6 : decode cX1_expr 6 = .ok (.iload_n 1, 1) := by decide +kernel
theorem dX1_expr_7 : decode cX1_expr 7 = .ok (.invokevirtual 292, 3) := by decide +kernel
theorem dX1_expr_10 : decode cX1_expr 10 = .ok (.aload_n 0, 1) := by decide +kernel
theorem dX1_expr_11 : decode cX1_expr 11 = .ok (.getfield 25, 3) := by decide +kernel
theorem dX1_expr_14 : decode cX1_expr 14 = .ok (.iconst (-1), 1) := by decide +kernel
theorem dX1_expr_15 : decode cX1_expr 15 = .ok (.if_icmp .eq 4, 3) := by decide +kernel
theorem dX1_expr_18 : decode cX1_expr 18 = .ok (.return_, 1) := by decide +kernel
theorem dX1_expr_19 : decode cX1_expr 19 = .ok (.iconst 0, 1) := by decide +kernel
theorem dX1_expr_20 : decode cX1_expr 20 = .ok (.istore_n 3, 1) := by decide +kernel
theorem dX1_expr_21 : decode cX1_expr 21 = .ok (.iload_n 3, 1) := by decide +kernel
theorem dX1_expr_22 : decode cX1_expr 22 = .ok (.sipush 16385, 3) := by decide +kernel
theorem dX1_expr_25 : decode cX1_expr 25 = .ok (.if_icmp .ge 44, 3) := by decide +kernel
theorem dX1_expr_28 : decode cX1_expr 28 = .ok (.aload_n 0, 1) := by decide +kernel
theorem dX1_expr_29 : decode cX1_expr 29 = .ok (.getfield 33, 3) := by decide +kernel
theorem dX1_expr_32 : decode cX1_expr 32 = .ok (.invokestatic 295, 3) := by decide +kernel
theorem dX1_expr_35 : decode cX1_expr 35 = .ok (.ifCond .le 34, 3) := by decide +kernel
theorem dX1_expr_38 : decode cX1_expr 38 = .ok (.aload_n 0, 1) := by decide +kernel
theorem dX1_expr_39 : decode cX1_expr 39 = .ok (.iload_n 2, 1) := by decide +kernel
theorem dX1_expr_40 : decode cX1_expr 40 = .ok (.aload_n 0, 1) := by decide +kernel
theorem dX1_expr_41 : decode cX1_expr 41 = .ok (.getfield 33, 3) := by decide +kernel
theorem dX1_expr_44 : decode cX1_expr 44 = .ok (.invokestatic 295, 3) := by decide +kernel
theorem dX1_expr_47 : decode cX1_expr 47 = .ok (.invokevirtual 298, 3) := by decide +kernel
theorem dX1_expr_50 : decode cX1_expr 50 = .ok (.aload_n 0, 1) := by decide +kernel
theorem dX1_expr_51 : decode cX1_expr 51 = .ok (.aload_n 0, 1) := by decide +kernel
theorem dX1_expr_52 : decode cX1_expr 52 = .ok (.invokevirtual 50, 3) := by decide +kernel
theorem dX1_expr_55 : decode cX1_expr 55 = .ok (.invokevirtual 301, 3) := by decide +kernel
theorem dX1_expr_58 : decode cX1_expr 58 = .ok (.aload_n 0, 1) := by decide +kernel
theorem dX1_expr_59 : decode cX1_expr 59 = .ok (.iconst 0, 1) := by decide +kernel
theorem dX1_expr_60 : decode cX1_expr 60 = .ok (.invokevirtual 292, 3) := by decide +kernel
theorem dX1_expr_63 : decode cX1_expr 63 = .ok (.iinc 3 1, 3) := by decide +kernel
theorem dX1_expr_66 : decode cX1_expr 66 = .ok (.goto (-45), 3) := by decide +kernel
theorem dX1_expr_69 : decode cX1_expr 69 = .ok (.aload_n 0, 1) := by decide +kernel
theorem dX1_expr_70 : decode cX1_expr 70 = .ok (.iload_n 2, 1) := by decide +kernel
theorem dX1_expr_71 : decode cX1_expr 71 = .ok (.iconst 1, 1) := by decide +kernel
theorem dX1_expr_72 : decode cX1_expr 72 = .ok (.invokevirtual 298, 3) := by decide +kernel
theorem dX1_expr_75 : decode cX1_expr 75 = .ok (.return_, 1) := by decide +kernel
theorem dX1_await_0 : decode cX1_await 0 = .ok (.aload_n 0, 1) := by decide +kernel
theorem dX1_await_1 : decode cX1_await 1 = .ok (.getfield 289, 3) := by decide +kernel
theorem dX1_await_4 : decode cX1_await 4 = .ok (.ifCond .lt 35, 3) := by decide +kernel
theorem dX1_await_7 : decode cX1_await 7 = .ok (.aload_n 0, 1) := by decide +kernel
theorem dX1_await_8 : decode cX1_await 8 = .ok (.getfield 289, 3) := by decide +kernel
theorem dX1_await_11 : decode cX1_await 11 = .ok (.aload_n 0, 1) := by decide +kernel
theorem dX1_await_12 : decode cX1_await 12 = .ok (.getfield 21, 3) := by decide +kernel
theorem dX1_await_15 : decode cX1_await 15 = .ok (.arraylength, 1) := by decide +kernel
theorem dX1_await_16 : decode cX1_await 16 = .ok (.if_icmp .ge 23, 3) := by decide +kernel
theorem dX1_await_19 : decode cX1_await 19 = .ok (.aload_n 0, 1) := by decide +kernel
theorem dX1_await_20 : decode cX1_await 20 = .ok (.getfield 21, 3) := by decide +kernel
theorem dX1_await_23 : decode cX1_await 23 = .ok (.aload_n 0, 1) := by decide +kernel
theorem dX1_await_24 : decode cX1_await 24 = .ok (.getfield 289, 3) := by decide +kernel
theorem dX1_await_27 : decode cX1_await 27 = .ok (.iload_n 1, 1) := by decide +kernel
theorem dX1_await_28 : decode cX1_await 28 = .ok (.iastore, 1) := by decide +kernel
theorem dX1_await_29 : decode cX1_await 29 = .ok (.aload_n 0, 1) := by decide +kernel
theorem dX1_await_30 : decode cX1_await 30 = .ok (.dup, 1) := by decide +kernel
theorem dX1_await_31 : decode cX1_await 31 = .ok (.getfield 289, 3) := by decide +kernel
theorem dX1_await_34 : decode cX1_await 34 = .ok (.iconst 1, 1) := by decide +kernel
theorem dX1_await_35 : decode cX1_await 35 = .ok (.iadd, 1) := by decide +kernel
theorem dX1_await_36 : decode cX1_await 36 = .ok (.putfield 289, 3) := by decide +kernel
theorem dX1_await_39 : decode cX1_await 39 = .ok (.return_, 1) := by decide +kernel
theorem dX1_putWaiting_0 : decode cX1_putWaiting 0 = .ok (.aload_n 0, 1) := by decide +kernel
theorem dX1_putWaiting_1 : decode cX1_putWaiting 1 = .ok (.getfield 289, 3) := by decide +kernel
theorem dX1_putWaiting_4 : decode cX1_putWaiting 4 = .ok (.iconst 1, 1) := by decide +kernel
theorem dX1_putWaiting_5 : decode cX1_putWaiting 5 = .ok (.isub, 1) := by decide +kernel
theorem dX1_putWaiting_6 : decode cX1_putWaiting 6 = .ok (.istore_n 3, 1) := by decide +kernel
theorem dX1_putWaiting_7 : decode cX1_putWaiting 7 = .ok (.iload_n 3, 1) := by decide +kernel
theorem dX1_putWaiting_8 : decode cX1_putWaiting 8 = .ok (.iload_n 1, 1) := by decide +kernel
theorem dX1_putWaiting_9 : decode cX1_putWaiting 9 = .ok (.if_icmp .lt 58, 3) := by decide +kernel
theorem dX1_putWaiting_12 : decode cX1_putWaiting 12 = .ok (.iload_n 3, 1) := by decide +kernel
theorem dX1_putWaiting_13 : decode cX1_putWaiting 13 = .ok (.ifCond .lt 54, 3) := by decide +kernel
theorem dX1_putWaiting_16 : decode cX1_putWaiting 16 = .ok (.iload_n 3, 1) := by decide +kernel
theorem dX1_putWaiting_17 : decode cX1_putWaiting 17 = .ok (.aload_n 0, 1) := by decide +kernel
theorem dX1_putWaiting_18 : decode cX1_putWaiting 18 = .ok (.getfield 21, 3) := by decide +kernel
theorem dX1_putWaiting_21 : decode cX1_putWaiting 21 = .ok (.arraylength, 1) := by decide +kernel
theorem dX1_putWaiting_22 : decode cX1_putWaiting 22 = .ok (.if_icmp .ge 45, 3) := by decide +kernel
theorem dX1_putWaiting_25 : decode cX1_putWaiting 25 = .ok (.aload_n 0, 1) := by decide +kernel
theorem dX1_putWaiting_26 : decode cX1_putWaiting 26 = .ok (.getfield 11, 3) := by decide +kernel
theorem dX1_putWaiting_29 : decode cX1_putWaiting 29 = .ok (.aload_n 0, 1) := by decide +kernel
theorem dX1_putWaiting_30 : decode cX1_putWaiting 30 = .ok (.getfield 21, 3) := by decide +kernel
theorem dX1_putWaiting_33 : decode cX1_putWaiting 33 = .ok (.iload_n 3, 1) := by decide +kernel
theorem dX1_putWaiting_34 : decode cX1_putWaiting 34 = .ok (.iaload, 1) := by decide +kernel
theorem dX1_putWaiting_35 : decode cX1_putWaiting 35 = .ok (.invokevirtual 29, 3) := by decide +kernel
theorem dX1_putWaiting_38 : decode cX1_putWaiting 38 = .ok (.invokestatic 295, 3) := by decide +kernel
theorem dX1_putWaiting_41 : decode cX1_putWaiting 41 = .ok (.iload_n 2, 1) := by decide +kernel
theorem dX1_putWaiting_42 : decode cX1_putWaiting 42 = .ok (.if_icmp .lt 25, 3) := by decide +kernel
theorem dX1_putWaiting_45 : decode cX1_putWaiting 45 = .ok (.aload_n 0, 1) := by decide +kernel
theorem dX1_putWaiting_46 : decode cX1_putWaiting 46 = .ok (.getfield 17, 3) := by decide +kernel
theorem dX1_putWaiting_49 : decode cX1_putWaiting 49 = .ok (.bipush 80, 2) := by decide +kernel
theorem dX1_putWaiting_51 : decode cX1_putWaiting 51 = .ok (.aload_n 0, 1) := by decide +kernel
theorem dX1_putWaiting_52 : decode cX1_putWaiting 52 = .ok (.getfield 21, 3) := by decide +kernel
theorem dX1_putWaiting_55 : decode cX1_putWaiting 55 = .ok (.iload_n 3, 1) := by decide +kernel
theorem dX1_putWaiting_56 : decode cX1_putWaiting 56 = .ok (.iaload, 1) := by decide +kernel
theorem dX1_putWaiting_57 : decode cX1_putWaiting 57 = .ok (.iconst 2, 1) := by decide +kernel
theorem dX1_putWaiting_58 : decode cX1_putWaiting 58 = .ok (.invokevirtual 69, 3) := by decide +kernel
theorem dX1_putWaiting_61 : decode cX1_putWaiting 61 = .ok (.iinc 3 (-1), 3) := by decide +kernel
theorem dX1_putWaiting_64 : decode cX1_putWaiting 64 = .ok (.goto (-57), 3) := by decide +kernel
theorem dX1_putWaiting_67 : decode cX1_putWaiting 67 = .ok (.aload_n 0, 1) := by decide +kernel
theorem dX1_putWaiting_68 : decode cX1_putWaiting 68 = .ok (.iload_n 3, 1) := by decide +kernel
theorem dX1_putWaiting_69 : decode cX1_putWaiting 69 = .ok (.iconst 1, 1) := by decide +kernel
theorem dX1_putWaiting_70 : decode cX1_putWaiting 70 = .ok (.iadd, 1) := by decide +kernel
theorem dX1_putWaiting_71 : decode cX1_putWaiting 71 = .ok (.putfield 289, 3) := by decide +kernel
theorem dX1_putWaiting_74 : decode cX1_putWaiting 74 = .ok (.return_, 1) := by decide +kernel
theorem dX1_unary_0 : decode cX1_unary 0 = .ok (.aload_n 0, 1) := by decide +kernel
theorem dX1_unary_1 : decode cX1_unary 1 = .ok (.getfield 43, 3) := by decide +kernel
theorem dX1_unary_4 : decode cX1_unary 4 = .ok (.istore_n 2, 1) := by decide +kernel
theorem dX1_unary_5 : decode cX1_unary 5 = .ok (.iconst 0, 1) := by decide +kernel
theorem dX1_unary_6 : decode cX1_unary 6 = .ok (.istore_n 3, 1) := by decide +kernel
theorem dX1_unary_7 : decode cX1_unary 7 = .ok (.iload_n 3, 1) := by decide +kernel
theorem dX1_unary_8 : decode cX1_unary 8 = .ok (.sipush 16385, 3) := by decide +kernel
theorem dX1_unary_11 : decode cX1_unary 11 = .ok (.if_icmp .ge 25, 3) := by decide +kernel
theorem dX1_unary_14 : decode cX1_unary 14 = .ok (.aload_n 0, 1) := by decide +kernel
theorem dX1_unary_15 : decode cX1_unary 15 = .ok (.invokevirtual 304, 3) := by decide +kernel
theorem dX1_unary_18 : decode cX1_unary 18 = .ok (.ifCond .eq 18, 3) := by decide +kernel
theorem dX1_unary_21 : decode cX1_unary 21 = .ok (.aload_n 0, 1) := by decide +kernel
theorem dX1_unary_22 : decode cX1_unary 22 = .ok (.invokevirtual 60, 3) := by decide +kernel
theorem dX1_unary_25 : decode cX1_unary 25 = .ok (.aload_n 0, 1) := by decide +kernel
theorem dX1_unary_26 : decode cX1_unary 26 = .ok (.invokevirtual 50, 3) := by decide +kernel
theorem dX1_unary_29 : decode cX1_unary 29 = .ok (.pop, 1) := by decide +kernel
theorem dX1_unary_30 : decode cX1_unary 30 = .ok (.iinc 3 1, 3) := by decide +kernel
theorem dX1_unary_33 : decode cX1_unary 33 = .ok (.goto (-26), 3) := by decide +kernel
theorem dX1_unary_36 : decode cX1_unary 36 = .ok (.aload_n 0, 1) := by decide +kernel
theorem dX1_unary_37 : decode cX1_unary 37 = .ok (.iload_n 1, 1) := by decide +kernel
theorem dX1_unary_38 : decode cX1_unary 38 = .ok (.ifCond .eq 11, 3) := by decide +kernel
theorem dX1_unary_41 : decode cX1_unary 41 = .ok (.iload_n 3, 1) := by decide +kernel
theorem dX1_unary_42 : decode cX1_unary 42 = .ok (.ifCond .ne 7, 3) := by decide +kernel
theorem dX1_unary_45 : decode cX1_unary 45 = .ok (.iconst 1, 1) := by decide +kernel
theorem dX1_unary_46 : decode cX1_unary 46 = .ok (.goto 4, 3) := by decide +kernel
theorem dX1_unary_49 : decode cX1_unary 49 = .ok (.iconst 0, 1) := by decide +kernel
theorem dX1_unary_50 : decode cX1_unary 50 = .ok (.invokevirtual 274, 3) := by decide +kernel
theorem dX1_unary_53 : decode cX1_unary 53 = .ok (.iload_n 3, 1) := by decide +kernel
theorem dX1_unary_54 : decode cX1_unary 54 = .ok (.iconst 1, 1) := by decide +kernel
theorem dX1_unary_55 : decode cX1_unary 55 = .ok (.isub, 1) := by decide +kernel
theorem dX1_unary_56 : decode cX1_unary 56 = .ok (.istore 4, 2) := by decide +kernel
theorem dX1_unary_58 : decode cX1_unary 58 = .ok (.iload 4, 2) := by decide +kernel
theorem dX1_unary_60 : decode cX1_unary 60 = .ok (.ifCond .lt 27, 3) := by decide +kernel
theorem dX1_unary_63 : decode cX1_unary 63 = .ok (.aload_n 0, 1) := by decide +kernel
theorem dX1_unary_64 : decode cX1_unary 64 = .ok (.getfield 17, 3) := by decide +kernel
theorem dX1_unary_67 : decode cX1_unary 67 = .ok (.bipush 81, 2) := by decide +kernel
theorem dX1_unary_69 : decode cX1_unary 69 = .ok (.iload_n 2, 1) := by decide +kernel
theorem dX1_unary_70 : decode cX1_unary 70 = .ok (.iload 4, 2) := by decide +kernel
theorem dX1_unary_72 : decode cX1_unary 72 = .ok (.iadd, 1) := by decide +kernel
theorem dX1_unary_73 : decode cX1_unary 73 = .ok (.iconst 1, 1) := by decide +kernel
theorem dX1_unary_74 : decode cX1_unary 74 = .ok (.invokevirtual 69, 3) := by decide +kernel
theorem dX1_unary_77 : decode cX1_unary 77 = .ok (.aload_n 0, 1) := by decide +kernel
theorem dX1_unary_78 : decode cX1_unary 78 = .ok (.invokevirtual 66, 3) := by decide +kernel
theorem dX1_unary_81 : decode cX1_unary 81 = .ok (.iinc 4 (-1), 3) := by decide +kernel
theorem dX1_unary_84 : decode cX1_unary 84 = .ok (.goto (-26), 3) := by decide +kernel
theorem dX1_unary_87 : decode cX1_unary 87 = .ok (.return_, 1) := by decide +kernel
theorem dX1_seesUnarySign_0 : decode cX1_seesUnarySign 0 = .ok (.aload_n 0, 1) := by decide +kernel
theorem dX1_seesUnarySign_1 : decode cX1_seesUnarySign 1 = .ok (.bipush 64, 2) := by decide +kernel
theorem dX1_seesUnarySign_3 : decode cX1_seesUnarySign 3 = .ok (.invokevirtual 46, 3) := by decide +kernel
theorem dX1_seesUnarySign_6 : decode cX1_seesUnarySign 6 = .ok (.ifCond .eq 16, 3) := by decide +kernel
theorem dX1_seesUnarySign_9 : decode cX1_seesUnarySign 9 = .ok (.aload_n 0, 1) := by decide +kernel
theorem dX1_seesUnarySign_10 : decode cX1_seesUnarySign 10 = .ok (.invokevirtual 147, 3) := by decide +kernel
theorem dX1_seesUnarySign_13 : decode cX1_seesUnarySign 13 = .ok (.bipush 12, 2) := by decide +kernel
theorem dX1_seesUnarySign_15 : decode cX1_seesUnarySign 15 = .ok (.if_icmp .ne 7, 3) := by decide +kernel
theorem dX1_seesUnarySign_18 : decode cX1_seesUnarySign 18 = .ok (.iconst 1, 1) := by decide +kernel
theorem dX1_seesUnarySign_19 : decode cX1_seesUnarySign 19 = .ok (.goto 4, 3) := by decide +kernel
theorem dX1_seesUnarySign_22 : decode cX1_seesUnarySign 22 = .ok (.iconst 0, 1) := by decide +kernel
theorem dX1_seesUnarySign_23 : decode cX1_seesUnarySign 23 = .ok (.istore_n 1, 1) := by decide +kernel
theorem dX1_seesUnarySign_24 : decode cX1_seesUnarySign 24 = .ok (.aload_n 0, 1) := by decide +kernel
theorem dX1_seesUnarySign_25 : decode cX1_seesUnarySign 25 = .ok (.getfield 33, 3) := by decide +kernel
theorem dX1_seesUnarySign_28 : decode cX1_seesUnarySign 28 = .ok (.invokestatic 307, 3) := by decide +kernel
theorem dX1_seesUnarySign_31 : decode cX1_seesUnarySign 31 = .ok (.ifCond .eq 11, 3) := by decide +kernel
theorem dX1_seesUnarySign_34 : decode cX1_seesUnarySign 34 = .ok (.iload_n 1, 1) := by decide +kernel
theorem dX1_seesUnarySign_35 : decode cX1_seesUnarySign 35 = .ok (.ifCond .ne 7, 3) := by decide +kernel
theorem dX1_seesUnarySign_38 : decode cX1_seesUnarySign 38 = .ok (.iconst 1, 1) := by decide +kernel
theorem dX1_seesUnarySign_39 : decode cX1_seesUnarySign 39 = .ok (.goto 4, 3) := by decide +kernel
theorem dX1_seesUnarySign_42 : decode cX1_seesUnarySign 42 = .ok (.iconst 0, 1) := by decide +kernel
theorem dX1_seesUnarySign_43 : decode cX1_seesUnarySign 43 = .ok (.ireturn, 1) := by decide +kernel
theorem dX1_primary_0 : decode cX1_primary 0 = .ok (.aload_n 0, 1) := by decide +kernel
theorem dX1_primary_1 : decode cX1_primary 1 = .ok (.invokevirtual 310, 3) := by decide +kernel
theorem dX1_primary_4 : decode cX1_primary 4 = .ok (.iconst 1, 1) := by decide +kernel
theorem dX1_primary_5 : decode cX1_primary 5 = .ok (.istore_n 2, 1) := by decide +kernel
theorem dX1_primary_6 : decode cX1_primary 6 = .ok (.iconst 0, 1) := by decide +kernel
theorem dX1_primary_7 : decode cX1_primary 7 = .ok (.istore_n 3, 1) := by decide +kernel
theorem dX1_primary_8 : decode cX1_primary 8 = .ok (.iload_n 3, 1) := by decide +kernel
theorem dX1_primary_9 : decode cX1_primary 9 = .ok (.sipush 16385, 3) := by decide +kernel
theorem dX1_primary_12 : decode cX1_primary 12 = .ok (.if_icmp .ge 19, 3) := by decide +kernel
theorem dX1_primary_15 : decode cX1_primary 15 = .ok (.iload_n 2, 1) := by decide +kernel
theorem dX1_primary_16 : decode cX1_primary 16 = .ok (.ifCond .eq 15, 3) := by decide +kernel
theorem dX1_primary_19 : decode cX1_primary 19 = .ok (.aload_n 0, 1) := by decide +kernel
theorem dX1_primary_20 : decode cX1_primary 20 = .ok (.iload_n 1, 1) := by decide +kernel
theorem dX1_primary_21 : decode cX1_primary 21 = .ok (.invokevirtual 313, 3) := by decide +kernel
theorem dX1_primary_24 : decode cX1_primary 24 = .ok (.istore_n 2, 1) := by decide +kernel
theorem dX1_primary_25 : decode cX1_primary 25 = .ok (.iinc 3 1, 3) := by decide +kernel
theorem dX1_primary_28 : decode cX1_primary 28 = .ok (.goto (-20), 3) := by decide +kernel
theorem dX1_primary_31 : decode cX1_primary 31 = .ok (.return_, 1) := by decide +kernel
theorem dX1_behindOperand_0 : decode cX1_behindOperand 0 = .ok (.aload_n 0, 1) := by decide +kernel
theorem dX1_behindOperand_1 : decode cX1_behindOperand 1 = .ok (.getfield 33, 3) := by decide +kernel
theorem dX1_behindOperand_4 : decode cX1_behindOperand 4 = .ok (.lookupswitch 54 #[(78, 48), (80, 42), (86, 36)], 36) := by decide +kernel
theorem dX1_behindOperand_40 : decode cX1_behindOperand 40 = .ok (.aload_n 0, 1) := by decide +kernel
theorem dX1_behindOperand_41 : decode cX1_behindOperand 41 = .ok (.iload_n 1, 1) := by decide +kernel
theorem dX1_behindOperand_42 : decode cX1_behindOperand 42 = .ok (.invokevirtual 317, 3) := by decide +kernel
theorem dX1_behindOperand_45 : decode cX1_behindOperand 45 = .ok (.ireturn, 1) := by decide +kernel
theorem dX1_behindOperand_46 : decode cX1_behindOperand 46 = .ok (.aload_n 0, 1) := by decide +kernel
theorem dX1_behindOperand_47 : decode cX1_behindOperand 47 = .ok (.invokevirtual 320, 3) := by decide +kernel
theorem dX1_behindOperand_50 : decode cX1_behindOperand 50 = .ok (.iconst 1, 1) := by decide +kernel
theorem dX1_behindOperand_51 : decode cX1_behindOperand 51 = .ok (.ireturn, 1) := by decide +kernel
theorem dX1_behindOperand_52 : decode cX1_behindOperand 52 = .ok (.aload_n 0, 1) := by decide +kernel
theorem dX1_behindOperand_53 : decode cX1_behindOperand 53 = .ok (.invokevirtual 323, 3) := by decide +kernel
theorem dX1_behindOperand_56 : decode cX1_behindOperand 56 = .ok (.iconst 1, 1) := by decide +kernel
theorem dX1_behindOperand_57 : decode cX1_behindOperand 57 = .ok (.ireturn, 1) := by decide +kernel
theorem dX1_behindOperand_58 : decode cX1_behindOperand 58 = .ok (.iconst 0, 1) := by decide +kernel
theorem dX1_behindOperand_59 : decode cX1_behindOperand 59 = .ok (.ireturn, 1) := by decide +kernel
theorem dX1_dot_0 : decode cX1_dot 0 = .ok (.aload_n 0, 1) := by decide +kernel
theorem dX1_dot_1 : decode cX1_dot 1 = .ok (.invokevirtual 50, 3) := by decide +kernel
theorem dX1_dot_4 : decode cX1_dot 4 = .ok (.istore_n 2, 1) := by decide +kernel
theorem dX1_dot_5 : decode cX1_dot 5 = .ok (.aload_n 0, 1) := by decide +kernel
theorem dX1_dot_6 : decode cX1_dot 6 = .ok (.bipush 78, 2) := by decide +kernel
theorem dX1_dot_8 : decode cX1_dot 8 = .ok (.invokevirtual 46, 3) := by decide +kernel
theorem dX1_dot_11 : decode cX1_dot 11 = .ok (.ifCond .ne 20, 3) := by decide +kernel
theorem dX1_dot_14 : decode cX1_dot 14 = .ok (.aload_n 0, 1) := by decide +kernel
theorem dX1_dot_15 : decode cX1_dot 15 = .ok (.invokevirtual 79, 3) := by decide +kernel
theorem dX1_dot_18 : decode cX1_dot 18 = .ok (.aload_n 0, 1) := by decide +kernel
theorem dX1_dot_19 : decode cX1_dot 19 = .ok (.getfield 17, 3) := by decide +kernel
theorem dX1_dot_22 : decode cX1_dot 22 = .ok (.bipush 82, 2) := by decide +kernel
theorem dX1_dot_24 : decode cX1_dot 24 = .ok (.iload_n 2, 1) := by decide +kernel
theorem dX1_dot_25 : decode cX1_dot 25 = .ok (.iconst 2, 1) := by decide +kernel
theorem dX1_dot_26 : decode cX1_dot 26 = .ok (.invokevirtual 69, 3) := by decide +kernel
theorem dX1_dot_29 : decode cX1_dot 29 = .ok (.iconst 1, 1) := by decide +kernel
theorem dX1_dot_30 : decode cX1_dot 30 = .ok (.ireturn, 1) := by decide +kernel
theorem dX1_dot_31 : decode cX1_dot 31 = .ok (.aload_n 0, 1) := by decide +kernel
theorem dX1_dot_32 : decode cX1_dot 32 = .ok (.bipush 78, 2) := by decide +kernel
theorem dX1_dot_34 : decode cX1_dot 34 = .ok (.invokevirtual 100, 3) := by decide +kernel
theorem dX1_dot_37 : decode cX1_dot 37 = .ok (.pop, 1) := by decide +kernel
theorem dX1_dot_38 : decode cX1_dot 38 = .ok (.iload_n 1, 1) := by decide +kernel
theorem dX1_dot_39 : decode cX1_dot 39 = .ok (.ifCond .eq 16, 3) := by decide +kernel
theorem dX1_dot_42 : decode cX1_dot 42 = .ok (.aload_n 0, 1) := by decide +kernel
theorem dX1_dot_43 : decode cX1_dot 43 = .ok (.bipush 33, 2) := by decide +kernel
theorem dX1_dot_45 : decode cX1_dot 45 = .ok (.invokevirtual 46, 3) := by decide +kernel
theorem dX1_dot_48 : decode cX1_dot 48 = .ok (.ifCond .eq 7, 3) := by decide +kernel
theorem dX1_dot_51 : decode cX1_dot 51 = .ok (.iconst 1, 1) := by decide +kernel
theorem dX1_dot_52 : decode cX1_dot 52 = .ok (.goto 4, 3) := by decide +kernel
theorem dX1_dot_55 : decode cX1_dot 55 = .ok (.iconst 0, 1) := by decide +kernel
theorem dX1_dot_56 : decode cX1_dot 56 = .ok (.istore_n 3, 1) := by decide +kernel
theorem dX1_dot_57 : decode cX1_dot 57 = .ok (.iload_n 3, 1) := by decide +kernel
theorem dX1_dot_58 : decode cX1_dot 58 = .ok (.ifCond .eq 14, 3) := by decide +kernel
theorem dX1_dot_61 : decode cX1_dot 61 = .ok (.aload_n 0, 1) := by decide +kernel
theorem dX1_dot_62 : decode cX1_dot 62 = .ok (.aload_n 0, 1) := by decide +kernel
theorem dX1_dot_63 : decode cX1_dot 63 = .ok (.invokevirtual 50, 3) := by decide +kernel
theorem dX1_dot_66 : decode cX1_dot 66 = .ok (.putfield 25, 3) := by decide +kernel
theorem dX1_dot_69 : decode cX1_dot 69 = .ok (.goto 18, 3) := by decide +kernel
theorem dX1_dot_72 : decode cX1_dot 72 = .ok (.aload_n 0, 1) := by decide +kernel
theorem dX1_dot_73 : decode cX1_dot 73 = .ok (.invokevirtual 103, 3) := by decide +kernel
theorem dX1_dot_76 : decode cX1_dot 76 = .ok (.aload_n 0, 1) := by decide +kernel
theorem dX1_dot_77 : decode cX1_dot 77 = .ok (.getfield 17, 3) := by decide +kernel
theorem dX1_dot_80 : decode cX1_dot 80 = .ok (.bipush 83, 2) := by decide +kernel
theorem dX1_dot_82 : decode cX1_dot 82 = .ok (.iload_n 2, 1) := by decide +kernel
theorem dX1_dot_83 : decode cX1_dot 83 = .ok (.iconst 2, 1) := by decide +kernel
theorem dX1_dot_84 : decode cX1_dot 84 = .ok (.invokevirtual 69, 3) := by decide +kernel
theorem dX1_dot_87 : decode cX1_dot 87 = .ok (.aload_n 0, 1) := by decide +kernel
theorem dX1_dot_88 : decode cX1_dot 88 = .ok (.bipush 79, 2) := by decide +kernel
theorem dX1_dot_90 : decode cX1_dot 90 = .ok (.invokevirtual 106, 3) := by decide +kernel
theorem dX1_dot_93 : decode cX1_dot 93 = .ok (.iload_n 3, 1) := by decide +kernel
theorem dX1_dot_94 : decode cX1_dot 94 = .ok (.ifCond .ne 7, 3) := by decide +kernel
theorem dX1_dot_97 : decode cX1_dot 97 = .ok (.iconst 1, 1) := by decide +kernel
theorem dX1_dot_98 : decode cX1_dot 98 = .ok (.goto 4, 3) := by decide +kernel
theorem dX1_dot_101 : decode cX1_dot 101 = .ok (.iconst 0, 1) := by decide +kernel
theorem dX1_dot_102 : decode cX1_dot 102 = .ok (.ireturn, 1) := by decide +kernel
theorem dX1_index_0 : decode cX1_index 0 = .ok (.aload_n 0, 1) := by decide +kernel
theorem dX1_index_1 : decode cX1_index 1 = .ok (.getfield 119, 3) := by decide +kernel
theorem dX1_index_4 : decode cX1_index 4 = .ok (.istore_n 1, 1) := by decide +kernel
theorem dX1_index_5 : decode cX1_index 5 = .ok (.aload_n 0, 1) := by decide +kernel
theorem dX1_index_6 : decode cX1_index 6 = .ok (.bipush 80, 2) := by decide +kernel
theorem dX1_index_8 : decode cX1_index 8 = .ok (.invokevirtual 100, 3) := by decide +kernel
theorem dX1_index_11 : decode cX1_index 11 = .ok (.istore_n 2, 1) := by decide +kernel
theorem dX1_index_12 : decode cX1_index 12 = .ok (.aload_n 0, 1) := by decide +kernel
theorem dX1_index_13 : decode cX1_index 13 = .ok (.iconst 0, 1) := by decide +kernel
theorem dX1_index_14 : decode cX1_index 14 = .ok (.putfield 119, 3) := by decide +kernel
theorem dX1_index_17 : decode cX1_index 17 = .ok (.aload_n 0, 1) := by decide +kernel
theorem dX1_index_18 : decode cX1_index 18 = .ok (.bipush 87, 2) := by decide +kernel
theorem dX1_index_20 : decode cX1_index 20 = .ok (.invokevirtual 46, 3) := by decide +kernel
theorem dX1_index_23 : decode cX1_index 23 = .ok (.ifCond .eq 20, 3) := by decide +kernel
theorem dX1_index_26 : decode cX1_index 26 = .ok (.aload_n 0, 1) := by decide +kernel
theorem dX1_index_27 : decode cX1_index 27 = .ok (.getfield 17, 3) := by decide +kernel
theorem dX1_index_30 : decode cX1_index 30 = .ok (.bipush 86, 2) := by decide +kernel
theorem dX1_index_32 : decode cX1_index 32 = .ok (.aload_n 0, 1) := by decide +kernel
theorem dX1_index_33 : decode cX1_index 33 = .ok (.getfield 43, 3) := by decide +kernel
theorem dX1_index_36 : decode cX1_index 36 = .ok (.iconst 0, 1) := by decide +kernel
theorem dX1_index_37 : decode cX1_index 37 = .ok (.invokevirtual 69, 3) := by decide +kernel
theorem dX1_index_40 : decode cX1_index 40 = .ok (.goto 8, 3) := by decide +kernel
theorem dX1_index_43 : decode cX1_index 43 = .ok (.aload_n 0, 1) := by decide +kernel
theorem dX1_index_44 : decode cX1_index 44 = .ok (.iconst 0, 1) := by decide +kernel
theorem dX1_index_45 : decode cX1_index 45 = .ok (.invokevirtual 181, 3) := by decide +kernel
theorem dX1_index_48 : decode cX1_index 48 = .ok (.bipush 84, 2) := by decide +kernel
theorem dX1_index_50 : decode cX1_index 50 = .ok (.istore_n 3, 1) := by decide +kernel
theorem dX1_index_51 : decode cX1_index 51 = .ok (.iconst 2, 1) := by decide +kernel
theorem dX1_index_52 : decode cX1_index 52 = .ok (.istore 4, 2) := by decide +kernel
theorem dX1_index_54 : decode cX1_index 54 = .ok (.aload_n 0, 1) := by decide +kernel
theorem dX1_index_55 : decode cX1_index 55 = .ok (.bipush 87, 2) := by decide +kernel
theorem dX1_index_57 : decode cX1_index 57 = .ok (.invokevirtual 123, 3) := by decide +kernel
theorem dX1_index_60 : decode cX1_index 60 = .ok (.ifCond .eq 15, 3) := by decide +kernel
theorem dX1_index_63 : decode cX1_index 63 = .ok (.bipush 85, 2) := by decide +kernel
theorem dX1_index_65 : decode cX1_index 65 = .ok (.istore_n 3, 1) := by decide +kernel
theorem dX1_index_66 : decode cX1_index 66 = .ok (.iload 4, 2) := by decide +kernel
theorem dX1_index_68 : decode cX1_index 68 = .ok (.aload_n 0, 1) := by decide +kernel
theorem dX1_index_69 : decode cX1_index 69 = .ok (.invokevirtual 326, 3) := by decide +kernel
theorem dX1_index_72 : decode cX1_index 72 = .ok (.iadd, 1) := by decide +kernel
theorem dX1_index_73 : decode cX1_index 73 = .ok (.istore 4, 2) := by decide +kernel
theorem dX1_index_75 : decode cX1_index 75 = .ok (.aload_n 0, 1) := by decide +kernel
theorem dX1_index_76 : decode cX1_index 76 = .ok (.bipush 81, 2) := by decide +kernel
theorem dX1_index_78 : decode cX1_index 78 = .ok (.invokevirtual 106, 3) := by decide +kernel
theorem dX1_index_81 : decode cX1_index 81 = .ok (.aload_n 0, 1) := by decide +kernel
theorem dX1_index_82 : decode cX1_index 82 = .ok (.iload_n 1, 1) := by decide +kernel
theorem dX1_index_83 : decode cX1_index 83 = .ok (.putfield 119, 3) := by decide +kernel
theorem dX1_index_86 : decode cX1_index 86 = .ok (.aload_n 0, 1) := by decide +kernel
theorem dX1_index_87 : decode cX1_index 87 = .ok (.getfield 17, 3) := by decide +kernel
theorem dX1_index_90 : decode cX1_index 90 = .ok (.iload_n 3, 1) := by decide +kernel
theorem dX1_index_91 : decode cX1_index 91 = .ok (.iload_n 2, 1) := by decide +kernel
theorem dX1_index_92 : decode cX1_index 92 = .ok (.iload 4, 2) := by decide +kernel
theorem dX1_index_94 : decode cX1_index 94 = .ok (.invokevirtual 69, 3) := by decide +kernel
theorem dX1_index_97 : decode cX1_index 97 = .ok (.return_, 1) := by decide +kernel
theorem dX1_upperBounds_0 : decode cX1_upperBounds 0 = .ok (.aload_n 0, 1) := by decide +kernel
theorem dX1_upperBounds_1 : decode cX1_upperBounds 1 = .ok (.bipush 81, 2) := by decide +kernel
theorem dX1_upperBounds_3 : decode cX1_upperBounds 3 = .ok (.invokevirtual 46, 3) := by decide +kernel
theorem dX1_upperBounds_6 : decode cX1_upperBounds 6 = .ok (.ifCond .eq 19, 3) := by decide +kernel
theorem dX1_upperBounds_9 : decode cX1_upperBounds 9 = .ok (.aload_n 0, 1) := by decide +kernel
theorem dX1_upperBounds_10 : decode cX1_upperBounds 10 = .ok (.getfield 17, 3) := by decide +kernel
theorem dX1_upperBounds_13 : decode cX1_upperBounds 13 = .ok (.bipush 86, 2) := by decide +kernel
theorem dX1_upperBounds_15 : decode cX1_upperBounds 15 = .ok (.aload_n 0, 1) := by decide +kernel
theorem dX1_upperBounds_16 : decode cX1_upperBounds 16 = .ok (.getfield 43, 3) := by decide +kernel
theorem dX1_upperBounds_19 : decode cX1_upperBounds 19 = .ok (.iconst 0, 1) := by decide +kernel
theorem dX1_upperBounds_20 : decode cX1_upperBounds 20 = .ok (.invokevirtual 69, 3) := by decide +kernel
theorem dX1_upperBounds_23 : decode cX1_upperBounds 23 = .ok (.iconst 1, 1) := by decide +kernel
theorem dX1_upperBounds_24 : decode cX1_upperBounds 24 = .ok (.ireturn, 1) := by decide +kernel
theorem dX1_upperBounds_25 : decode cX1_upperBounds 25 = .ok (.aload_n 0, 1) := by decide +kernel
theorem dX1_upperBounds_26 : decode cX1_upperBounds 26 = .ok (.iconst 0, 1) := by decide +kernel
theorem dX1_upperBounds_27 : decode cX1_upperBounds 27 = .ok (.invokevirtual 181, 3) := by decide +kernel
theorem dX1_upperBounds_30 : decode cX1_upperBounds 30 = .ok (.aload_n 0, 1) := by decide +kernel
theorem dX1_upperBounds_31 : decode cX1_upperBounds 31 = .ok (.bipush 87, 2) := by decide +kernel
theorem dX1_upperBounds_33 : decode cX1_upperBounds 33 = .ok (.invokevirtual 123, 3) := by decide +kernel
theorem dX1_upperBounds_36 : decode cX1_upperBounds 36 = .ok (.ifCond .ne 5, 3) := by decide +kernel
theorem dX1_upperBounds_39 : decode cX1_upperBounds 39 = .ok (.iconst 1, 1) := by decide +kernel
theorem dX1_upperBounds_40 : decode cX1_upperBounds 40 = .ok (.ireturn, 1) := by decide +kernel
theorem dX1_upperBounds_41 : decode cX1_upperBounds 41 = .ok (.aload_n 0, 1) := by decide +kernel
theorem dX1_upperBounds_42 : decode cX1_upperBounds 42 = .ok (.iconst 0, 1) := by decide +kernel
theorem dX1_upperBounds_43 : decode cX1_upperBounds 43 = .ok (.invokevirtual 181, 3) := by decide +kernel
theorem dX1_upperBounds_46 : decode cX1_upperBounds 46 = .ok (.iconst 2, 1) := by decide +kernel
theorem dX1_upperBounds_47 : decode cX1_upperBounds 47 = .ok (.ireturn, 1) := by decide +kernel
theorem dX1_call_0 : decode cX1_call 0 = .ok (.aload_n 0, 1) := by decide +kernel
theorem dX1_call_1 : decode cX1_call 1 = .ok (.getfield 119, 3) := by decide +kernel
theorem dX1_call_4 : decode cX1_call 4 = .ok (.istore_n 1, 1) := by decide +kernel
theorem dX1_call_5 : decode cX1_call 5 = .ok (.aload_n 0, 1) := by decide +kernel
theorem dX1_call_6 : decode cX1_call 6 = .ok (.bipush 78, 2) := by decide +kernel
theorem dX1_call_8 : decode cX1_call 8 = .ok (.invokevirtual 100, 3) := by decide +kernel
theorem dX1_call_11 : decode cX1_call 11 = .ok (.istore_n 2, 1) := by decide +kernel
theorem dX1_call_12 : decode cX1_call 12 = .ok (.aload_n 0, 1) := by decide +kernel
theorem dX1_call_13 : decode cX1_call 13 = .ok (.iconst 0, 1) := by decide +kernel
theorem dX1_call_14 : decode cX1_call 14 = .ok (.putfield 119, 3) := by decide +kernel
theorem dX1_call_17 : decode cX1_call 17 = .ok (.iconst 1, 1) := by decide +kernel
theorem dX1_call_18 : decode cX1_call 18 = .ok (.istore_n 3, 1) := by decide +kernel
theorem dX1_call_19 : decode cX1_call 19 = .ok (.iconst 1, 1) := by decide +kernel
theorem dX1_call_20 : decode cX1_call 20 = .ok (.istore 4, 2) := by decide +kernel
theorem dX1_call_22 : decode cX1_call 22 = .ok (.iload_n 3, 1) := by decide +kernel
theorem dX1_call_23 : decode cX1_call 23 = .ok (.sipush 16385, 3) := by decide +kernel
theorem dX1_call_26 : decode cX1_call 26 = .ok (.if_icmp .ge 71, 3) := by decide +kernel
theorem dX1_call_29 : decode cX1_call 29 = .ok (.iload 4, 2) := by decide +kernel
theorem dX1_call_31 : decode cX1_call 31 = .ok (.ifCond .eq 66, 3) := by decide +kernel
theorem dX1_call_34 : decode cX1_call 34 = .ok (.aload_n 0, 1) := by decide +kernel
theorem dX1_call_35 : decode cX1_call 35 = .ok (.bipush 79, 2) := by decide +kernel
theorem dX1_call_37 : decode cX1_call 37 = .ok (.invokevirtual 46, 3) := by decide +kernel
theorem dX1_call_40 : decode cX1_call 40 = .ok (.ifCond .ne 57, 3) := by decide +kernel
theorem dX1_call_43 : decode cX1_call 43 = .ok (.aload_n 0, 1) := by decide +kernel
theorem dX1_call_44 : decode cX1_call 44 = .ok (.iconst 0, 1) := by decide +kernel
theorem dX1_call_45 : decode cX1_call 45 = .ok (.invokevirtual 181, 3) := by decide +kernel
theorem dX1_call_48 : decode cX1_call 48 = .ok (.iinc 3 1, 3) := by decide +kernel
theorem dX1_call_51 : decode cX1_call 51 = .ok (.aload_n 0, 1) := by decide +kernel
theorem dX1_call_52 : decode cX1_call 52 = .ok (.bipush 77, 2) := by decide +kernel
theorem dX1_call_54 : decode cX1_call 54 = .ok (.invokevirtual 46, 3) := by decide +kernel
theorem dX1_call_57 : decode cX1_call 57 = .ok (.istore 5, 2) := by decide +kernel
theorem dX1_call_59 : decode cX1_call 59 = .ok (.iload 5, 2) := by decide +kernel
theorem dX1_call_61 : decode cX1_call 61 = .ok (.ifCond .eq 12, 3) := by decide +kernel
theorem dX1_call_64 : decode cX1_call 64 = .ok (.aload_n 0, 1) := by decide +kernel
theorem dX1_call_65 : decode cX1_call 65 = .ok (.bipush 17, 2) := by decide +kernel
theorem dX1_call_67 : decode cX1_call 67 = .ok (.invokevirtual 154, 3) := by decide +kernel
theorem dX1_call_70 : decode cX1_call 70 = .ok (.iinc 3 1, 3) := by decide +kernel
theorem dX1_call_73 : decode cX1_call 73 = .ok (.aload_n 0, 1) := by decide +kernel
theorem dX1_call_74 : decode cX1_call 74 = .ok (.bipush 84, 2) := by decide +kernel
theorem dX1_call_76 : decode cX1_call 76 = .ok (.invokevirtual 123, 3) := by decide +kernel
theorem dX1_call_79 : decode cX1_call 79 = .ok (.ifCond .eq 12, 3) := by decide +kernel
theorem dX1_call_82 : decode cX1_call 82 = .ok (.iload 5, 2) := by decide +kernel
theorem dX1_call_84 : decode cX1_call 84 = .ok (.ifCond .ne 7, 3) := by decide +kernel
theorem dX1_call_87 : decode cX1_call 87 = .ok (.iconst 1, 1) := by decide +kernel
theorem dX1_call_88 : decode cX1_call 88 = .ok (.goto 4, 3) := by decide +kernel
theorem dX1_call_91 : decode cX1_call 91 = .ok (.iconst 0, 1) := by decide +kernel
theorem dX1_call_92 : decode cX1_call 92 = .ok (.istore 4, 2) := by decide +kernel
theorem dX1_call_94 : decode cX1_call 94 = .ok (.goto (-72), 3) := by decide +kernel
theorem dX1_call_97 : decode cX1_call 97 = .ok (.aload_n 0, 1) := by decide +kernel
theorem dX1_call_98 : decode cX1_call 98 = .ok (.bipush 79, 2) := by decide +kernel
theorem dX1_call_100 : decode cX1_call 100 = .ok (.invokevirtual 106, 3) := by decide +kernel
theorem dX1_call_103 : decode cX1_call 103 = .ok (.aload_n 0, 1) := by decide +kernel
theorem dX1_call_104 : decode cX1_call 104 = .ok (.iload_n 1, 1) := by decide +kernel
theorem dX1_call_105 : decode cX1_call 105 = .ok (.putfield 119, 3) := by decide +kernel
theorem dX1_call_108 : decode cX1_call 108 = .ok (.aload_n 0, 1) := by decide +kernel
theorem dX1_call_109 : decode cX1_call 109 = .ok (.getfield 17, 3) := by decide +kernel
theorem dX1_call_112 : decode cX1_call 112 = .ok (.bipush 87, 2) := by decide +kernel
theorem dX1_call_114 : decode cX1_call 114 = .ok (.iload_n 2, 1) := by decide +kernel
theorem dX1_call_115 : decode cX1_call 115 = .ok (.iload_n 3, 1) := by decide +kernel
theorem dX1_call_116 : decode cX1_call 116 = .ok (.invokevirtual 69, 3) := by decide +kernel
theorem dX1_call_119 : decode cX1_call 119 = .ok (.return_, 1) := by decide +kernel
theorem dX1_operand_0 : decode cX1_operand 0 = .ok (.aload_n 0, 1) := by decide +kernel
theorem dX1_operand_1 : decode cX1_operand 1 = .ok (.getfield 33, 3) := by decide +kernel
theorem dX1_operand_4 : decode cX1_operand 4 = .ok (.lookupswitch 238 #[(1, 125), (2, 116), (3, 116), (4, 116), (5, 116), (12, 231), (20, 162), (25, 231), (26, 169), (31, 169), (64, 231), (78, 155), (80, 169)], 116) := by decide +kernel
theorem dX1_operand_120 : decode cX1_operand 120 = .ok (.aload_n 0, 1) := by decide +kernel
theorem dX1_operand_121 : decode cX1_operand 121 = .ok (.bipush 88, 2) := by decide +kernel
theorem dX1_operand_123 : decode cX1_operand 123 = .ok (.invokevirtual 154, 3) := by decide +kernel
theorem dX1_operand_126 : decode cX1_operand 126 = .ok (.goto 120, 3) := by decide +kernel
theorem dX1_operand_129 : decode cX1_operand 129 = .ok (.aload_n 0, 1) := by decide +kernel
theorem dX1_operand_130 : decode cX1_operand 130 = .ok (.invokevirtual 79, 3) := by decide +kernel
theorem dX1_operand_133 : decode cX1_operand 133 = .ok (.aload_n 0, 1) := by decide +kernel
theorem dX1_operand_134 : decode cX1_operand 134 = .ok (.getfield 119, 3) := by decide +kernel
theorem dX1_operand_137 : decode cX1_operand 137 = .ok (.ifCond .ne 109, 3) := by decide +kernel
theorem dX1_operand_140 : decode cX1_operand 140 = .ok (.aload_n 0, 1) := by decide +kernel
theorem dX1_operand_141 : decode cX1_operand 141 = .ok (.bipush 82, 2) := by decide +kernel
theorem dX1_operand_143 : decode cX1_operand 143 = .ok (.invokevirtual 46, 3) := by decide +kernel
theorem dX1_operand_146 : decode cX1_operand 146 = .ok (.ifCond .eq 100, 3) := by decide +kernel
theorem dX1_operand_149 : decode cX1_operand 149 = .ok (.aload_n 0, 1) := by decide +kernel
theorem dX1_operand_150 : decode cX1_operand 150 = .ok (.bipush 91, 2) := by decide +kernel
theorem dX1_operand_152 : decode cX1_operand 152 = .ok (.iconst 1, 1) := by decide +kernel
theorem dX1_operand_153 : decode cX1_operand 153 = .ok (.invokevirtual 329, 3) := by decide +kernel
theorem dX1_operand_156 : decode cX1_operand 156 = .ok (.goto 90, 3) := by decide +kernel
theorem dX1_operand_159 : decode cX1_operand 159 = .ok (.aload_n 0, 1) := by decide +kernel
theorem dX1_operand_160 : decode cX1_operand 160 = .ok (.invokevirtual 332, 3) := by decide +kernel
theorem dX1_operand_163 : decode cX1_operand 163 = .ok (.goto 83, 3) := by decide +kernel
theorem dX1_operand_166 : decode cX1_operand 166 = .ok (.aload_n 0, 1) := by decide +kernel
theorem dX1_operand_167 : decode cX1_operand 167 = .ok (.invokevirtual 335, 3) := by decide +kernel
theorem dX1_operand_170 : decode cX1_operand 170 = .ok (.goto 76, 3) := by decide +kernel
theorem dX1_operand_173 : decode cX1_operand 173 = .ok (.aload_n 0, 1) := by decide +kernel
theorem dX1_operand_174 : decode cX1_operand 174 = .ok (.bipush 80, 2) := by decide +kernel
theorem dX1_operand_176 : decode cX1_operand 176 = .ok (.invokevirtual 46, 3) := by decide +kernel
theorem dX1_operand_179 : decode cX1_operand 179 = .ok (.ifCond .eq 16, 3) := by decide +kernel
theorem dX1_operand_182 : decode cX1_operand 182 = .ok (.aload_n 0, 1) := by decide +kernel
theorem dX1_operand_183 : decode cX1_operand 183 = .ok (.invokevirtual 147, 3) := by decide +kernel
theorem dX1_operand_186 : decode cX1_operand 186 = .ok (.bipush 77, 2) := by decide +kernel
theorem dX1_operand_188 : decode cX1_operand 188 = .ok (.if_icmp .ne 7, 3) := by decide +kernel
theorem dX1_operand_191 : decode cX1_operand 191 = .ok (.iconst 1, 1) := by decide +kernel
theorem dX1_operand_192 : decode cX1_operand 192 = .ok (.goto 4, 3) := by decide +kernel
theorem dX1_operand_195 : decode cX1_operand 195 = .ok (.iconst 0, 1) := by decide +kernel
theorem dX1_operand_196 : decode cX1_operand 196 = .ok (.istore_n 1, 1) := by decide +kernel
theorem dX1_operand_197 : decode cX1_operand 197 = .ok (.iload_n 1, 1) := by decide +kernel
theorem dX1_operand_198 : decode cX1_operand 198 = .ok (.ifCond .eq 10, 3) := by decide +kernel
theorem dX1_operand_201 : decode cX1_operand 201 = .ok (.aload_n 0, 1) := by decide +kernel
theorem dX1_operand_202 : decode cX1_operand 202 = .ok (.invokevirtual 338, 3) := by decide +kernel
theorem dX1_operand_205 : decode cX1_operand 205 = .ok (.goto 7, 3) := by decide +kernel
theorem dX1_operand_208 : decode cX1_operand 208 = .ok (.aload_n 0, 1) := by decide +kernel
theorem dX1_operand_209 : decode cX1_operand 209 = .ok (.invokevirtual 103, 3) := by decide +kernel
theorem dX1_operand_212 : decode cX1_operand 212 = .ok (.iload_n 1, 1) := by decide +kernel
theorem dX1_operand_213 : decode cX1_operand 213 = .ok (.ifCond .ne 12, 3) := by decide +kernel
theorem dX1_operand_216 : decode cX1_operand 216 = .ok (.aload_n 0, 1) := by decide +kernel
theorem dX1_operand_217 : decode cX1_operand 217 = .ok (.bipush 82, 2) := by decide +kernel
theorem dX1_operand_219 : decode cX1_operand 219 = .ok (.invokevirtual 46, 3) := by decide +kernel
theorem dX1_operand_222 : decode cX1_operand 222 = .ok (.ifCond .eq 24, 3) := by decide +kernel
theorem dX1_operand_225 : decode cX1_operand 225 = .ok (.aload_n 0, 1) := by decide +kernel
theorem dX1_operand_226 : decode cX1_operand 226 = .ok (.bipush 91, 2) := by decide +kernel
theorem dX1_operand_228 : decode cX1_operand 228 = .ok (.iconst 1, 1) := by decide +kernel
theorem dX1_operand_229 : decode cX1_operand 229 = .ok (.invokevirtual 329, 3) := by decide +kernel
theorem dX1_operand_232 : decode cX1_operand 232 = .ok (.goto 14, 3) := by decide +kernel
theorem dX1_operand_235 : decode cX1_operand 235 = .ok (.aload_n 0, 1) := by decide +kernel
theorem dX1_operand_236 : decode cX1_operand 236 = .ok (.invokevirtual 103, 3) := by decide +kernel
theorem dX1_operand_239 : decode cX1_operand 239 = .ok (.goto 7, 3) := by decide +kernel
theorem dX1_operand_242 : decode cX1_operand 242 = .ok (.aload_n 0, 1) := by decide +kernel
theorem dX1_operand_243 : decode cX1_operand 243 = .ok (.invokevirtual 54, 3) := by decide +kernel
theorem dX1_operand_246 : decode cX1_operand 246 = .ok (.return_, 1) := by decide +kernel
theorem dX1_paren_0 : decode cX1_paren 0 = .ok (.aload_n 0, 1) := by decide +kernel
theorem dX1_paren_1 : decode cX1_paren 1 = .ok (.getfield 119, 3) := by decide +kernel
theorem dX1_paren_4 : decode cX1_paren 4 = .ok (.istore_n 1, 1) := by decide +kernel
theorem dX1_paren_5 : decode cX1_paren 5 = .ok (.aload_n 0, 1) := by decide +kernel
theorem dX1_paren_6 : decode cX1_paren 6 = .ok (.bipush 78, 2) := by decide +kernel
theorem dX1_paren_8 : decode cX1_paren 8 = .ok (.invokevirtual 100, 3) := by decide +kernel
theorem dX1_paren_11 : decode cX1_paren 11 = .ok (.istore_n 2, 1) := by decide +kernel
theorem dX1_paren_12 : decode cX1_paren 12 = .ok (.aload_n 0, 1) := by decide +kernel
theorem dX1_paren_13 : decode cX1_paren 13 = .ok (.iconst 0, 1) := by decide +kernel
theorem dX1_paren_14 : decode cX1_paren 14 = .ok (.putfield 119, 3) := by decide +kernel
theorem dX1_paren_17 : decode cX1_paren 17 = .ok (.aload_n 0, 1) := by decide +kernel
theorem dX1_paren_18 : decode cX1_paren 18 = .ok (.iconst 0, 1) := by decide +kernel
theorem dX1_paren_19 : decode cX1_paren 19 = .ok (.invokevirtual 181, 3) := by decide +kernel
theorem dX1_paren_22 : decode cX1_paren 22 = .ok (.aload_n 0, 1) := by decide +kernel
theorem dX1_paren_23 : decode cX1_paren 23 = .ok (.bipush 79, 2) := by decide +kernel
theorem dX1_paren_25 : decode cX1_paren 25 = .ok (.invokevirtual 106, 3) := by decide +kernel
theorem dX1_paren_28 : decode cX1_paren 28 = .ok (.aload_n 0, 1) := by decide +kernel
theorem dX1_paren_29 : decode cX1_paren 29 = .ok (.iload_n 1, 1) := by decide +kernel
theorem dX1_paren_30 : decode cX1_paren 30 = .ok (.putfield 119, 3) := by decide +kernel
theorem dX1_paren_33 : decode cX1_paren 33 = .ok (.aload_n 0, 1) := by decide +kernel
theorem dX1_paren_34 : decode cX1_paren 34 = .ok (.getfield 17, 3) := by decide +kernel
theorem dX1_paren_37 : decode cX1_paren 37 = .ok (.bipush 89, 2) := by decide +kernel
theorem dX1_paren_39 : decode cX1_paren 39 = .ok (.iload_n 2, 1) := by decide +kernel
theorem dX1_paren_40 : decode cX1_paren 40 = .ok (.iconst 1, 1) := by decide +kernel
theorem dX1_paren_41 : decode cX1_paren 41 = .ok (.invokevirtual 69, 3) := by decide +kernel
theorem dX1_paren_44 : decode cX1_paren 44 = .ok (.return_, 1) := by decide +kernel
theorem dX1_functionOrType_0 : decode cX1_functionOrType 0 = .ok (.aload_n 0, 1) := by decide +kernel
theorem dX1_functionOrType_1 : decode cX1_functionOrType 1 = .ok (.invokevirtual 60, 3) := by decide +kernel
theorem dX1_functionOrType_4 : decode cX1_functionOrType 4 = .ok (.aload_n 0, 1) := by decide +kernel
theorem dX1_functionOrType_5 : decode cX1_functionOrType 5 = .ok (.invokevirtual 50, 3) := by decide +kernel
theorem dX1_functionOrType_8 : decode cX1_functionOrType 8 = .ok (.istore_n 1, 1) := by decide +kernel
theorem dX1_functionOrType_9 : decode cX1_functionOrType 9 = .ok (.aload_n 0, 1) := by decide +kernel
theorem dX1_functionOrType_10 : decode cX1_functionOrType 10 = .ok (.invokevirtual 94, 3) := by decide +kernel
theorem dX1_functionOrType_13 : decode cX1_functionOrType 13 = .ok (.aload_n 0, 1) := by decide +kernel
theorem dX1_functionOrType_14 : decode cX1_functionOrType 14 = .ok (.bipush 82, 2) := by decide +kernel
theorem dX1_functionOrType_16 : decode cX1_functionOrType 16 = .ok (.invokevirtual 46, 3) := by decide +kernel
theorem dX1_functionOrType_19 : decode cX1_functionOrType 19 = .ok (.ifCond .eq 21, 3) := by decide +kernel
theorem dX1_functionOrType_22 : decode cX1_functionOrType 22 = .ok (.aload_n 0, 1) := by decide +kernel
theorem dX1_functionOrType_23 : decode cX1_functionOrType 23 = .ok (.invokevirtual 97, 3) := by decide +kernel
theorem dX1_functionOrType_26 : decode cX1_functionOrType 26 = .ok (.aload_n 0, 1) := by decide +kernel
theorem dX1_functionOrType_27 : decode cX1_functionOrType 27 = .ok (.getfield 17, 3) := by decide +kernel
theorem dX1_functionOrType_30 : decode cX1_functionOrType 30 = .ok (.bipush 90, 2) := by decide +kernel
theorem dX1_functionOrType_32 : decode cX1_functionOrType 32 = .ok (.iload_n 1, 1) := by decide +kernel
theorem dX1_functionOrType_33 : decode cX1_functionOrType 33 = .ok (.iconst 2, 1) := by decide +kernel
theorem dX1_functionOrType_34 : decode cX1_functionOrType 34 = .ok (.invokevirtual 69, 3) := by decide +kernel
theorem dX1_functionOrType_37 : decode cX1_functionOrType 37 = .ok (.goto 14, 3) := by decide +kernel
theorem dX1_functionOrType_40 : decode cX1_functionOrType 40 = .ok (.aload_n 0, 1) := by decide +kernel
theorem dX1_functionOrType_41 : decode cX1_functionOrType 41 = .ok (.getfield 17, 3) := by decide +kernel
theorem dX1_functionOrType_44 : decode cX1_functionOrType 44 = .ok (.bipush 29, 2) := by decide +kernel
theorem dX1_functionOrType_46 : decode cX1_functionOrType 46 = .ok (.iload_n 1, 1) := by decide +kernel
theorem dX1_functionOrType_47 : decode cX1_functionOrType 47 = .ok (.iconst 1, 1) := by decide +kernel
theorem dX1_functionOrType_48 : decode cX1_functionOrType 48 = .ok (.invokevirtual 69, 3) := by decide +kernel
theorem dX1_functionOrType_51 : decode cX1_functionOrType 51 = .ok (.aload_n 0, 1) := by decide +kernel
theorem dX1_functionOrType_52 : decode cX1_functionOrType 52 = .ok (.invokevirtual 66, 3) := by decide +kernel
theorem dX1_functionOrType_55 : decode cX1_functionOrType 55 = .ok (.return_, 1) := by decide +kernel
theorem dX1_countedArrayType_0 : decode cX1_countedArrayType 0 = .ok (.aload_n 0, 1) := by decide +kernel
theorem dX1_countedArrayType_1 : decode cX1_countedArrayType 1 = .ok (.invokevirtual 60, 3) := by decide +kernel
theorem dX1_countedArrayType_4 : decode cX1_countedArrayType 4 = .ok (.aload_n 0, 1) := by decide +kernel
theorem dX1_countedArrayType_5 : decode cX1_countedArrayType 5 = .ok (.invokevirtual 50, 3) := by decide +kernel
theorem dX1_countedArrayType_8 : decode cX1_countedArrayType 8 = .ok (.istore_n 1, 1) := by decide +kernel
theorem dX1_countedArrayType_9 : decode cX1_countedArrayType 9 = .ok (.aload_n 0, 1) := by decide +kernel
theorem dX1_countedArrayType_10 : decode cX1_countedArrayType 10 = .ok (.bipush 17, 2) := by decide +kernel
theorem dX1_countedArrayType_12 : decode cX1_countedArrayType 12 = .ok (.invokevirtual 154, 3) := by decide +kernel
theorem dX1_countedArrayType_15 : decode cX1_countedArrayType 15 = .ok (.aload_n 0, 1) := by decide +kernel
theorem dX1_countedArrayType_16 : decode cX1_countedArrayType 16 = .ok (.bipush 81, 2) := by decide +kernel
theorem dX1_countedArrayType_18 : decode cX1_countedArrayType 18 = .ok (.invokevirtual 63, 3) := by decide +kernel
theorem dX1_countedArrayType_21 : decode cX1_countedArrayType 21 = .ok (.pop, 1) := by decide +kernel
theorem dX1_countedArrayType_22 : decode cX1_countedArrayType 22 = .ok (.aload_n 0, 1) := by decide +kernel
theorem dX1_countedArrayType_23 : decode cX1_countedArrayType 23 = .ok (.invokevirtual 103, 3) := by decide +kernel
theorem dX1_countedArrayType_26 : decode cX1_countedArrayType 26 = .ok (.aload_n 0, 1) := by decide +kernel
theorem dX1_countedArrayType_27 : decode cX1_countedArrayType 27 = .ok (.invokevirtual 66, 3) := by decide +kernel
theorem dX1_countedArrayType_30 : decode cX1_countedArrayType 30 = .ok (.aload_n 0, 1) := by decide +kernel
theorem dX1_countedArrayType_31 : decode cX1_countedArrayType 31 = .ok (.getfield 17, 3) := by decide +kernel
theorem dX1_countedArrayType_34 : decode cX1_countedArrayType 34 = .ok (.bipush 21, 2) := by decide +kernel
theorem dX1_countedArrayType_36 : decode cX1_countedArrayType 36 = .ok (.iload_n 1, 1) := by decide +kernel
theorem dX1_countedArrayType_37 : decode cX1_countedArrayType 37 = .ok (.iconst 2, 1) := by decide +kernel
theorem dX1_countedArrayType_38 : decode cX1_countedArrayType 38 = .ok (.invokevirtual 69, 3) := by decide +kernel
theorem dX1_countedArrayType_41 : decode cX1_countedArrayType 41 = .ok (.return_, 1) := by decide +kernel
theorem dX1_elements_0 : decode cX1_elements 0 = .ok (.aload_n 0, 1) := by decide +kernel
theorem dX1_elements_1 : decode cX1_elements 1 = .ok (.getfield 119, 3) := by decide +kernel
theorem dX1_elements_4 : decode cX1_elements 4 = .ok (.istore_n 3, 1) := by decide +kernel
theorem dX1_elements_5 : decode cX1_elements 5 = .ok (.aload_n 0, 1) := by decide +kernel
theorem dX1_elements_6 : decode cX1_elements 6 = .ok (.bipush 82, 2) := by decide +kernel
theorem dX1_elements_8 : decode cX1_elements 8 = .ok (.invokevirtual 100, 3) := by decide +kernel
theorem dX1_elements_11 : decode cX1_elements 11 = .ok (.istore 4, 2) := by decide +kernel
theorem dX1_elements_13 : decode cX1_elements 13 = .ok (.aload_n 0, 1) := by decide +kernel
theorem dX1_elements_14 : decode cX1_elements 14 = .ok (.iconst 0, 1) := by decide +kernel
theorem dX1_elements_15 : decode cX1_elements 15 = .ok (.putfield 119, 3) := by decide +kernel
theorem dX1_elements_18 : decode cX1_elements 18 = .ok (.iload_n 2, 1) := by decide +kernel
theorem dX1_elements_19 : decode cX1_elements 19 = .ok (.istore 5, 2) := by decide +kernel
theorem dX1_elements_21 : decode cX1_elements 21 = .ok (.iconst 1, 1) := by decide +kernel
theorem dX1_elements_22 : decode cX1_elements 22 = .ok (.istore 6, 2) := by decide +kernel
theorem dX1_elements_24 : decode cX1_elements 24 = .ok (.iload 5, 2) := by decide +kernel
theorem dX1_elements_26 : decode cX1_elements 26 = .ok (.sipush 16385, 3) := by decide +kernel
theorem dX1_elements_29 : decode cX1_elements 29 = .ok (.if_icmp .ge 79, 3) := by decide +kernel
theorem dX1_elements_32 : decode cX1_elements 32 = .ok (.iload 6, 2) := by decide +kernel
theorem dX1_elements_34 : decode cX1_elements 34 = .ok (.ifCond .eq 74, 3) := by decide +kernel
theorem dX1_elements_37 : decode cX1_elements 37 = .ok (.aload_n 0, 1) := by decide +kernel
theorem dX1_elements_38 : decode cX1_elements 38 = .ok (.bipush 83, 2) := by decide +kernel
theorem dX1_elements_40 : decode cX1_elements 40 = .ok (.invokevirtual 46, 3) := by decide +kernel
theorem dX1_elements_43 : decode cX1_elements 43 = .ok (.ifCond .ne 65, 3) := by decide +kernel
theorem dX1_elements_46 : decode cX1_elements 46 = .ok (.aload_n 0, 1) := by decide +kernel
theorem dX1_elements_47 : decode cX1_elements 47 = .ok (.getfield 43, 3) := by decide +kernel
theorem dX1_elements_50 : decode cX1_elements 50 = .ok (.istore 7, 2) := by decide +kernel
theorem dX1_elements_52 : decode cX1_elements 52 = .ok (.aload_n 0, 1) := by decide +kernel
theorem dX1_elements_53 : decode cX1_elements 53 = .ok (.invokevirtual 341, 3) := by decide +kernel
theorem dX1_elements_56 : decode cX1_elements 56 = .ok (.aload_n 0, 1) := by decide +kernel
theorem dX1_elements_57 : decode cX1_elements 57 = .ok (.bipush 87, 2) := by decide +kernel
theorem dX1_elements_59 : decode cX1_elements 59 = .ok (.invokevirtual 123, 3) := by decide +kernel
theorem dX1_elements_62 : decode cX1_elements 62 = .ok (.istore 8, 2) := by decide +kernel
theorem dX1_elements_64 : decode cX1_elements 64 = .ok (.iload 8, 2) := by decide +kernel
theorem dX1_elements_66 : decode cX1_elements 66 = .ok (.ifCond .eq 7, 3) := by decide +kernel
theorem dX1_elements_69 : decode cX1_elements 69 = .ok (.aload_n 0, 1) := by decide +kernel
theorem dX1_elements_70 : decode cX1_elements 70 = .ok (.invokevirtual 341, 3) := by decide +kernel
theorem dX1_elements_73 : decode cX1_elements 73 = .ok (.aload_n 0, 1) := by decide +kernel
theorem dX1_elements_74 : decode cX1_elements 74 = .ok (.getfield 17, 3) := by decide +kernel
theorem dX1_elements_77 : decode cX1_elements 77 = .ok (.bipush 92, 2) := by decide +kernel
theorem dX1_elements_79 : decode cX1_elements 79 = .ok (.iload 7, 2) := by decide +kernel
theorem dX1_elements_81 : decode cX1_elements 81 = .ok (.iload 8, 2) := by decide +kernel
theorem dX1_elements_83 : decode cX1_elements 83 = .ok (.ifCond .eq 7, 3) := by decide +kernel
theorem dX1_elements_86 : decode cX1_elements 86 = .ok (.iconst 2, 1) := by decide +kernel
theorem dX1_elements_87 : decode cX1_elements 87 = .ok (.goto 4, 3) := by decide +kernel
theorem dX1_elements_90 : decode cX1_elements 90 = .ok (.iconst 1, 1) := by decide +kernel
theorem dX1_elements_91 : decode cX1_elements 91 = .ok (.invokevirtual 69, 3) := by decide +kernel
theorem dX1_elements_94 : decode cX1_elements 94 = .ok (.iinc 5 1, 3) := by decide +kernel
theorem dX1_elements_97 : decode cX1_elements 97 = .ok (.aload_n 0, 1) := by decide +kernel
theorem dX1_elements_98 : decode cX1_elements 98 = .ok (.bipush 84, 2) := by decide +kernel
theorem dX1_elements_100 : decode cX1_elements 100 = .ok (.invokevirtual 123, 3) := by decide +kernel
theorem dX1_elements_103 : decode cX1_elements 103 = .ok (.istore 6, 2) := by decide +kernel
theorem dX1_elements_105 : decode cX1_elements 105 = .ok (.goto (-81), 3) := by decide +kernel
theorem dX1_elements_108 : decode cX1_elements 108 = .ok (.aload_n 0, 1) := by decide +kernel
theorem dX1_elements_109 : decode cX1_elements 109 = .ok (.bipush 83, 2) := by decide +kernel
theorem dX1_elements_111 : decode cX1_elements 111 = .ok (.invokevirtual 106, 3) := by decide +kernel
theorem dX1_elements_114 : decode cX1_elements 114 = .ok (.aload_n 0, 1) := by decide +kernel
theorem dX1_elements_115 : decode cX1_elements 115 = .ok (.iload_n 3, 1) := by decide +kernel
theorem dX1_elements_116 : decode cX1_elements 116 = .ok (.putfield 119, 3) := by decide +kernel
theorem dX1_elements_119 : decode cX1_elements 119 = .ok (.aload_n 0, 1) := by decide +kernel
theorem dX1_elements_120 : decode cX1_elements 120 = .ok (.getfield 17, 3) := by decide +kernel
theorem dX1_elements_123 : decode cX1_elements 123 = .ok (.iload_n 1, 1) := by decide +kernel
theorem dX1_elements_124 : decode cX1_elements 124 = .ok (.iload 4, 2) := by decide +kernel
theorem dX1_elements_126 : decode cX1_elements 126 = .ok (.iload 5, 2) := by decide +kernel
theorem dX1_elements_128 : decode cX1_elements 128 = .ok (.invokevirtual 69, 3) := by decide +kernel
theorem dX1_elements_131 : decode cX1_elements 131 = .ok (.return_, 1) := by decide +kernel
theorem dX1_value_0 : decode cX1_value 0 = .ok (.aload_n 0, 1) := by decide +kernel
theorem dX1_value_1 : decode cX1_value 1 = .ok (.bipush 82, 2) := by decide +kernel
theorem dX1_value_3 : decode cX1_value 3 = .ok (.invokevirtual 46, 3) := by decide +kernel
theorem dX1_value_6 : decode cX1_value 6 = .ok (.ifCond .eq 13, 3) := by decide +kernel
theorem dX1_value_9 : decode cX1_value 9 = .ok (.aload_n 0, 1) := by decide +kernel
theorem dX1_value_10 : decode cX1_value 10 = .ok (.bipush 93, 2) := by decide +kernel
theorem dX1_value_12 : decode cX1_value 12 = .ok (.iconst 0, 1) := by decide +kernel
theorem dX1_value_13 : decode cX1_value 13 = .ok (.invokevirtual 329, 3) := by decide +kernel
theorem dX1_value_16 : decode cX1_value 16 = .ok (.goto 8, 3) := by decide +kernel
theorem dX1_value_19 : decode cX1_value 19 = .ok (.aload_n 0, 1) := by decide +kernel
theorem dX1_value_20 : decode cX1_value 20 = .ok (.iconst 0, 1) := by decide +kernel
theorem dX1_value_21 : decode cX1_value 21 = .ok (.invokevirtual 181, 3) := by decide +kernel
theorem dX1_value_24 : decode cX1_value 24 = .ok (.return_, 1) := by decide +kernel
theorem dX2_init_0 : decode cX2_init 0 = .ok (.aload_n 0, 1) := by decide +kernel
theorem dX2_init_1 : decode cX2_init 1 = .ok (.invokespecial 1, 3) := by decide +kernel
theorem dX2_init_4 : decode cX2_init 4 = .ok (.aload_n 0, 1) := by decide +kernel
theorem dX2_init_5 : decode cX2_init 5 = .ok (.sipush 16384, 3) := by decide +kernel
theorem dX2_init_8 : decode cX2_init 8 = .ok (.newarray .byte, 2) := by decide +kernel
theorem dX2_init_10 : decode cX2_init 10 = .ok (.putfield 9, 3) := by decide +kernel
theorem dX2_init_13 : decode cX2_init 13 = .ok (.return_, 1) := by decide +kernel
theorem dX2_haveRoomFor_0 : decode cX2_haveRoomFor 0 = .ok (.iload_n 1, 1) := by decide +kernel
theorem dX2_haveRoomFor_1 : decode cX2_haveRoomFor 1 = .ok (.sipush 16384, 3) := by decide +kernel
theorem dX2_haveRoomFor_4 : decode cX2_haveRoomFor 4 = .ok (.aload_n 0, 1) := by decide +kernel
theorem dX2_haveRoomFor_5 : decode cX2_haveRoomFor 5 = .ok (.getfield 13, 3) := by decide +kernel
theorem dX2_haveRoomFor_8 : decode cX2_haveRoomFor 8 = .ok (.isub, 1) := by decide +kernel
theorem dX2_haveRoomFor_9 : decode cX2_haveRoomFor 9 = .ok (.if_icmp .gt 7, 3) := by decide +kernel
theorem dX2_haveRoomFor_12 : decode cX2_haveRoomFor 12 = .ok (.iconst 1, 1) := by decide +kernel
theorem dX2_haveRoomFor_13 : decode cX2_haveRoomFor 13 = .ok (.goto 4, 3) := by decide +kernel
theorem dX2_haveRoomFor_16 : decode cX2_haveRoomFor 16 = .ok (.iconst 0, 1) := by decide +kernel
theorem dX2_haveRoomFor_17 : decode cX2_haveRoomFor 17 = .ok (.ireturn, 1) := by decide +kernel
theorem dX2_append_0 : decode cX2_append 0 = .ok (.aload_n 0, 1) := by decide +kernel
theorem dX2_append_1 : decode cX2_append 1 = .ok (.getfield 13, 3) := by decide +kernel
theorem dX2_append_4 : decode cX2_append 4 = .ok (.ifCond .lt 36, 3) := by decide +kernel
theorem dX2_append_7 : decode cX2_append 7 = .ok (.aload_n 0, 1) := by decide +kernel
theorem dX2_append_8 : decode cX2_append 8 = .ok (.getfield 13, 3) := by decide +kernel
theorem dX2_append_11 : decode cX2_append 11 = .ok (.aload_n 0, 1) := by decide +kernel
theorem dX2_append_12 : decode cX2_append 12 = .ok (.getfield 9, 3) := by decide +kernel
theorem dX2_append_15 : decode cX2_append 15 = .ok (.arraylength, 1) := by decide +kernel
theorem dX2_append_16 : decode cX2_append 16 = .ok (.if_icmp .ge 24, 3) := by decide +kernel
theorem dX2_append_19 : decode cX2_append 19 = .ok (.aload_n 0, 1) := by decide +kernel
theorem dX2_append_20 : decode cX2_append 20 = .ok (.getfield 9, 3) := by decide +kernel
theorem dX2_append_23 : decode cX2_append 23 = .ok (.aload_n 0, 1) := by decide +kernel
theorem dX2_append_24 : decode cX2_append 24 = .ok (.getfield 13, 3) := by decide +kernel
theorem dX2_append_27 : decode cX2_append 27 = .ok (.iload_n 1, 1) := by decide +kernel
theorem dX2_append_28 : decode cX2_append 28 = .ok (.i2b, 1) := by decide +kernel
theorem dX2_append_29 : decode cX2_append 29 = .ok (.bastore, 1) := by decide +kernel
theorem dX2_append_30 : decode cX2_append 30 = .ok (.aload_n 0, 1) := by decide +kernel
theorem dX2_append_31 : decode cX2_append 31 = .ok (.dup, 1) := by decide +kernel
theorem dX2_append_32 : decode cX2_append 32 = .ok (.getfield 13, 3) := by decide +kernel
theorem dX2_append_35 : decode cX2_append 35 = .ok (.iconst 1, 1) := by decide +kernel
theorem dX2_append_36 : decode cX2_append 36 = .ok (.iadd, 1) := by decide +kernel
theorem dX2_append_37 : decode cX2_append 37 = .ok (.putfield 13, 3) := by decide +kernel
theorem dX2_append_40 : decode cX2_append 40 = .ok (.return_, 1) := by decide +kernel
theorem dX2_kindAt_0 : decode cX2_kindAt 0 = .ok (.iload_n 1, 1) := by decide +kernel
theorem dX2_kindAt_1 : decode cX2_kindAt 1 = .ok (.ifCond .lt 29, 3) := by decide +kernel
theorem dX2_kindAt_4 : decode cX2_kindAt 4 = .ok (.iload_n 1, 1) := by decide +kernel
theorem dX2_kindAt_5 : decode cX2_kindAt 5 = .ok (.aload_n 0, 1) := by decide +kernel
theorem dX2_kindAt_6 : decode cX2_kindAt 6 = .ok (.getfield 13, 3) := by decide +kernel
theorem dX2_kindAt_9 : decode cX2_kindAt 9 = .ok (.if_icmp .ge 21, 3) := by decide +kernel
theorem dX2_kindAt_12 : decode cX2_kindAt 12 = .ok (.iload_n 1, 1) := by decide +kernel
theorem dX2_kindAt_13 : decode cX2_kindAt 13 = .ok (.aload_n 0, 1) := by decide +kernel
theorem dX2_kindAt_14 : decode cX2_kindAt 14 = .ok (.getfield 9, 3) := by decide +kernel
theorem dX2_kindAt_17 : decode cX2_kindAt 17 = .ok (.arraylength, 1) := by decide +kernel
theorem dX2_kindAt_18 : decode cX2_kindAt 18 = .ok (.if_icmp .ge 12, 3) := by decide +kernel
theorem dX2_kindAt_21 : decode cX2_kindAt 21 = .ok (.aload_n 0, 1) := by decide +kernel
theorem dX2_kindAt_22 : decode cX2_kindAt 22 = .ok (.getfield 9, 3) := by decide +kernel
theorem dX2_kindAt_25 : decode cX2_kindAt 25 = .ok (.iload_n 1, 1) := by decide +kernel
theorem dX2_kindAt_26 : decode cX2_kindAt 26 = .ok (.baload, 1) := by decide +kernel
theorem dX2_kindAt_27 : decode cX2_kindAt 27 = .ok (.goto 4, 3) := by decide +kernel
theorem dX2_kindAt_30 : decode cX2_kindAt 30 = .ok (.iconst 0, 1) := by decide +kernel
theorem dX2_kindAt_31 : decode cX2_kindAt 31 = .ok (.ireturn, 1) := by decide +kernel
theorem dX3_init_0 : decode cX3_init 0 = .ok (.aload_n 0, 1) := by decide +kernel
theorem dX3_init_1 : decode cX3_init 1 = .ok (.invokespecial 3, 3) := by decide +kernel
theorem dX3_init_4 : decode cX3_init 4 = .ok (.aload_n 0, 1) := by decide +kernel
theorem dX3_init_5 : decode cX3_init 5 = .ok (.sipush 1024, 3) := by decide +kernel
theorem dX3_init_8 : decode cX3_init 8 = .ok (.newarray .int, 2) := by decide +kernel
theorem dX3_init_10 : decode cX3_init 10 = .ok (.putfield 11, 3) := by decide +kernel
theorem dX3_init_13 : decode cX3_init 13 = .ok (.aload_n 0, 1) := by decide +kernel
theorem dX3_init_14 : decode cX3_init 14 = .ok (.sipush 1024, 3) := by decide +kernel
theorem dX3_init_17 : decode cX3_init 17 = .ok (.newarray .int, 2) := by decide +kernel
theorem dX3_init_19 : decode cX3_init 19 = .ok (.putfield 15, 3) := by decide +kernel
theorem dX3_init_22 : decode cX3_init 22 = .ok (.aload_n 0, 1) := by decide +kernel
theorem dX3_init_23 : decode cX3_init 23 = .ok (.sipush 1024, 3) := by decide +kernel
theorem dX3_init_26 : decode cX3_init 26 = .ok (.newarray .int, 2) := by decide +kernel
theorem dX3_init_28 : decode cX3_init 28 = .ok (.putfield 18, 3) := by decide +kernel
theorem dX3_init_31 : decode cX3_init 31 = .ok (.aload_n 0, 1) := by decide +kernel
theorem dX3_init_32 : decode cX3_init 32 = .ok (.sipush 1024, 3) := by decide +kernel
theorem dX3_init_35 : decode cX3_init 35 = .ok (.newarray .int, 2) := by decide +kernel
theorem dX3_init_37 : decode cX3_init 37 = .ok (.putfield 21, 3) := by decide +kernel
theorem dX3_init_40 : decode cX3_init 40 = .ok (.aload_n 0, 1) := by decide +kernel
theorem dX3_init_41 : decode cX3_init 41 = .ok (.sipush 1024, 3) := by decide +kernel
theorem dX3_init_44 : decode cX3_init 44 = .ok (.newarray .int, 2) := by decide +kernel
theorem dX3_init_46 : decode cX3_init 46 = .ok (.putfield 24, 3) := by decide +kernel
theorem dX3_init_49 : decode cX3_init 49 = .ok (.aload_n 0, 1) := by decide +kernel
theorem dX3_init_50 : decode cX3_init 50 = .ok (.sipush 1024, 3) := by decide +kernel
theorem dX3_init_53 : decode cX3_init 53 = .ok (.newarray .int, 2) := by decide +kernel
theorem dX3_init_55 : decode cX3_init 55 = .ok (.putfield 27, 3) := by decide +kernel
theorem dX3_init_58 : decode cX3_init 58 = .ok (.return_, 1) := by decide +kernel
theorem dX3_beginFor_0 : decode cX3_beginFor 0 = .ok (.aload_n 0, 1) := by decide +kernel
theorem dX3_beginFor_1 : decode cX3_beginFor 1 = .ok (.iconst 0, 1) := by decide +kernel
theorem dX3_beginFor_2 : decode cX3_beginFor 2 = .ok (.putfield 30, 3) := by decide +kernel
theorem dX3_beginFor_5 : decode cX3_beginFor 5 = .ok (.aload_n 0, 1) := by decide +kernel
theorem dX3_beginFor_6 : decode cX3_beginFor 6 = .ok (.iconst 0, 1) := by decide +kernel
theorem dX3_beginFor_7 : decode cX3_beginFor 7 = .ok (.putfield 34, 3) := by decide +kernel
theorem dX3_beginFor_10 : decode cX3_beginFor 10 = .ok (.iconst 2, 1) := by decide +kernel
theorem dX3_beginFor_11 : decode cX3_beginFor 11 = .ok (.iload_n 1, 1) := by decide +kernel
theorem dX3_beginFor_12 : decode cX3_beginFor 12 = .ok (.imul, 1) := by decide +kernel
theorem dX3_beginFor_13 : decode cX3_beginFor 13 = .ok (.istore_n 2, 1) := by decide +kernel
theorem dX3_beginFor_14 : decode cX3_beginFor 14 = .ok (.iload_n 2, 1) := by decide +kernel
theorem dX3_beginFor_15 : decode cX3_beginFor 15 = .ok (.aload_n 0, 1) := by decide +kernel
theorem dX3_beginFor_16 : decode cX3_beginFor 16 = .ok (.getfield 11, 3) := by decide +kernel
theorem dX3_beginFor_19 : decode cX3_beginFor 19 = .ok (.arraylength, 1) := by decide +kernel
theorem dX3_beginFor_20 : decode cX3_beginFor 20 = .ok (.if_icmp .le 18, 3) := by decide +kernel
theorem dX3_beginFor_23 : decode cX3_beginFor 23 = .ok (.aload_n 0, 1) := by decide +kernel
theorem dX3_beginFor_24 : decode cX3_beginFor 24 = .ok (.iload_n 2, 1) := by decide +kernel
theorem dX3_beginFor_25 : decode cX3_beginFor 25 = .ok (.iconst 2, 1) := by decide +kernel
theorem dX3_beginFor_26 : decode cX3_beginFor 26 = .ok (.aload_n 0, 1) := by decide +kernel
theorem dX3_beginFor_27 : decode cX3_beginFor 27 = .ok (.getfield 11, 3) := by decide +kernel
theorem dX3_beginFor_30 : decode cX3_beginFor 30 = .ok (.arraylength, 1) := by decide +kernel
theorem dX3_beginFor_31 : decode cX3_beginFor 31 = .ok (.imul, 1) := by decide +kernel
theorem dX3_beginFor_32 : decode cX3_beginFor 32 = .ok (.invokestatic 37, 3) := by decide +kernel
theorem dX3_beginFor_35 : decode cX3_beginFor 35 = .ok (.invokevirtual 43, 3) := by decide +kernel
theorem dX3_beginFor_38 : decode cX3_beginFor 38 = .ok (.return_, 1) := by decide +kernel
theorem dX3_makeRows_0 : decode cX3_makeRows 0 = .ok (.iload_n 1, 1) := by decide +kernel
theorem dX3_makeRows_1 : decode cX3_makeRows 1 = .ok (.ifCond .le 45, 3) := by decide +kernel
theorem dX3_makeRows_4 : decode cX3_makeRows 4 = .ok (.aload_n 0, 1) := by decide +kernel
theorem dX3_makeRows_5 : decode cX3_makeRows 5 = .ok (.iload_n 1, 1) := by decide +kernel
theorem dX3_makeRows_6 : decode cX3_makeRows 6 = .ok (.newarray .int, 2) := by decide +kernel
theorem dX3_makeRows_8 : decode cX3_makeRows 8 = .ok (.putfield 11, 3) := by decide +kernel
theorem dX3_makeRows_11 : decode cX3_makeRows 11 = .ok (.aload_n 0, 1) := by decide +kernel
theorem dX3_makeRows_12 : decode cX3_makeRows 12 = .ok (.iload_n 1, 1) := by decide +kernel
theorem dX3_makeRows_13 : decode cX3_makeRows 13 = .ok (.newarray .int, 2) := by decide +kernel
theorem dX3_makeRows_15 : decode cX3_makeRows 15 = .ok (.putfield 15, 3) := by decide +kernel
theorem dX3_makeRows_18 : decode cX3_makeRows 18 = .ok (.aload_n 0, 1) := by decide +kernel
theorem dX3_makeRows_19 : decode cX3_makeRows 19 = .ok (.iload_n 1, 1) := by decide +kernel
theorem dX3_makeRows_20 : decode cX3_makeRows 20 = .ok (.newarray .int, 2) := by decide +kernel
theorem dX3_makeRows_22 : decode cX3_makeRows 22 = .ok (.putfield 18, 3) := by decide +kernel
theorem dX3_makeRows_25 : decode cX3_makeRows 25 = .ok (.aload_n 0, 1) := by decide +kernel
theorem dX3_makeRows_26 : decode cX3_makeRows 26 = .ok (.iload_n 1, 1) := by decide +kernel
theorem dX3_makeRows_27 : decode cX3_makeRows 27 = .ok (.newarray .int, 2) := by decide +kernel
theorem dX3_makeRows_29 : decode cX3_makeRows 29 = .ok (.putfield 21, 3) := by decide +kernel
theorem dX3_makeRows_32 : decode cX3_makeRows 32 = .ok (.aload_n 0, 1) := by decide +kernel
theorem dX3_makeRows_33 : decode cX3_makeRows 33 = .ok (.iload_n 1, 1) := by decide +kernel
theorem dX3_makeRows_34 : decode cX3_makeRows 34 = .ok (.newarray .int, 2) := by decide +kernel
theorem dX3_makeRows_36 : decode cX3_makeRows 36 = .ok (.putfield 24, 3) := by decide +kernel
theorem dX3_makeRows_39 : decode cX3_makeRows 39 = .ok (.aload_n 0, 1) := by decide +kernel
theorem dX3_makeRows_40 : decode cX3_makeRows 40 = .ok (.iload_n 1, 1) := by decide +kernel
theorem dX3_makeRows_41 : decode cX3_makeRows 41 = .ok (.newarray .int, 2) := by decide +kernel
theorem dX3_makeRows_43 : decode cX3_makeRows 43 = .ok (.putfield 27, 3) := by decide +kernel
theorem dX3_makeRows_46 : decode cX3_makeRows 46 = .ok (.return_, 1) := by decide +kernel
theorem dX3_put_0 : decode cX3_put 0 = .ok (.aload_n 0, 1) := by decide +kernel
theorem dX3_put_1 : decode cX3_put 1 = .ok (.getfield 30, 3) := by decide +kernel
theorem dX3_put_4 : decode cX3_put 4 = .ok (.istore 4, 2) := by decide +kernel
theorem dX3_put_6 : decode cX3_put 6 = .ok (.iload 4, 2) := by decide +kernel
theorem dX3_put_8 : decode cX3_put 8 = .ok (.ifCond .lt 13, 3) := by decide +kernel
theorem dX3_put_11 : decode cX3_put 11 = .ok (.iload 4, 2) := by decide +kernel
theorem dX3_put_13 : decode cX3_put 13 = .ok (.aload_n 0, 1) := by decide +kernel
theorem dX3_put_14 : decode cX3_put 14 = .ok (.getfield 11, 3) := by decide +kernel
theorem dX3_put_17 : decode cX3_put 17 = .ok (.arraylength, 1) := by decide +kernel
theorem dX3_put_18 : decode cX3_put 18 = .ok (.if_icmp .lt 4, 3) := by decide +kernel
theorem dX3_put_21 : decode cX3_put 21 = .ok (.return_, 1) := by decide +kernel
theorem dX3_put_22 : decode cX3_put 22 = .ok (.iconst 1, 1) := by decide +kernel
theorem dX3_put_23 : decode cX3_put 23 = .ok (.istore 5, 2) := by decide +kernel
theorem dX3_put_25 : decode cX3_put 25 = .ok (.iconst 0, 1) := by decide +kernel
theorem dX3_put_26 : decode cX3_put 26 = .ok (.istore 6, 2) := by decide +kernel
theorem dX3_put_28 : decode cX3_put 28 = .ok (.iload 6, 2) := by decide +kernel
theorem dX3_put_30 : decode cX3_put 30 = .ok (.iload_n 3, 1) := by decide +kernel
theorem dX3_put_31 : decode cX3_put 31 = .ok (.if_icmp .ge 23, 3) := by decide +kernel
theorem dX3_put_34 : decode cX3_put 34 = .ok (.iload 5, 2) := by decide +kernel
theorem dX3_put_36 : decode cX3_put 36 = .ok (.aload_n 0, 1) := by decide +kernel
theorem dX3_put_37 : decode cX3_put 37 = .ok (.iload 4, 2) := by decide +kernel
theorem dX3_put_39 : decode cX3_put 39 = .ok (.iload 5, 2) := by decide +kernel
theorem dX3_put_41 : decode cX3_put 41 = .ok (.isub, 1) := by decide +kernel
theorem dX3_put_42 : decode cX3_put 42 = .ok (.invokevirtual 47, 3) := by decide +kernel
theorem dX3_put_45 : decode cX3_put 45 = .ok (.iadd, 1) := by decide +kernel
theorem dX3_put_46 : decode cX3_put 46 = .ok (.istore 5, 2) := by decide +kernel
theorem dX3_put_48 : decode cX3_put 48 = .ok (.iinc 6 1, 3) := by decide +kernel
theorem dX3_put_51 : decode cX3_put 51 = .ok (.goto (-23), 3) := by decide +kernel
theorem dX3_put_54 : decode cX3_put 54 = .ok (.aload_n 0, 1) := by decide +kernel
theorem dX3_put_55 : decode cX3_put 55 = .ok (.getfield 11, 3) := by decide +kernel
theorem dX3_put_58 : decode cX3_put 58 = .ok (.iload 4, 2) := by decide +kernel
theorem dX3_put_60 : decode cX3_put 60 = .ok (.iload_n 1, 1) := by decide +kernel
theorem dX3_put_61 : decode cX3_put 61 = .ok (.iastore, 1) := by decide +kernel
theorem dX3_put_62 : decode cX3_put 62 = .ok (.aload_n 0, 1) := by decide +kernel
theorem dX3_put_63 : decode cX3_put 63 = .ok (.getfield 15, 3) := by decide +kernel
theorem dX3_put_66 : decode cX3_put 66 = .ok (.iload 4, 2) := by decide +kernel
theorem dX3_put_68 : decode cX3_put 68 = .ok (.iload_n 2, 1) := by decide +kernel
theorem dX3_put_69 : decode cX3_put 69 = .ok (.iastore, 1) := by decide +kernel
theorem dX3_put_70 : decode cX3_put 70 = .ok (.aload_n 0, 1) := by decide +kernel
theorem dX3_put_71 : decode cX3_put 71 = .ok (.getfield 18, 3) := by decide +kernel
theorem dX3_put_74 : decode cX3_put 74 = .ok (.iload 4, 2) := by decide +kernel
theorem dX3_put_76 : decode cX3_put 76 = .ok (.iload 5, 2) := by decide +kernel
theorem dX3_put_78 : decode cX3_put 78 = .ok (.iastore, 1) := by decide +kernel
theorem dX3_put_79 : decode cX3_put 79 = .ok (.aload_n 0, 1) := by decide +kernel
theorem dX3_put_80 : decode cX3_put 80 = .ok (.getfield 21, 3) := by decide +kernel
theorem dX3_put_83 : decode cX3_put 83 = .ok (.iload 4, 2) := by decide +kernel
theorem dX3_put_85 : decode cX3_put 85 = .ok (.iload_n 3, 1) := by decide +kernel
theorem dX3_put_86 : decode cX3_put 86 = .ok (.iastore, 1) := by decide +kernel
theorem dX3_put_87 : decode cX3_put 87 = .ok (.aload_n 0, 1) := by decide +kernel
theorem dX3_put_88 : decode cX3_put 88 = .ok (.dup, 1) := by decide +kernel
theorem dX3_put_89 : decode cX3_put 89 = .ok (.getfield 30, 3) := by decide +kernel
theorem dX3_put_92 : decode cX3_put 92 = .ok (.iconst 1, 1) := by decide +kernel
theorem dX3_put_93 : decode cX3_put 93 = .ok (.iadd, 1) := by decide +kernel
theorem dX3_put_94 : decode cX3_put 94 = .ok (.putfield 30, 3) := by decide +kernel
theorem dX3_put_97 : decode cX3_put 97 = .ok (.return_, 1) := by decide +kernel
theorem dX3_spanPutAt_0 : decode cX3_spanPutAt 0 = .ok (.iload_n 1, 1) := by decide +kernel
theorem dX3_spanPutAt_1 : decode cX3_spanPutAt 1 = .ok (.ifCond .lt 21, 3) := by decide +kernel
theorem dX3_spanPutAt_4 : decode cX3_spanPutAt 4 = .ok (.iload_n 1, 1) := by decide +kernel
theorem dX3_spanPutAt_5 : decode cX3_spanPutAt 5 = .ok (.aload_n 0, 1) := by decide +kernel
theorem dX3_spanPutAt_6 : decode cX3_spanPutAt 6 = .ok (.getfield 18, 3) := by decide +kernel
theorem dX3_spanPutAt_9 : decode cX3_spanPutAt 9 = .ok (.arraylength, 1) := by decide +kernel
theorem dX3_spanPutAt_10 : decode cX3_spanPutAt 10 = .ok (.if_icmp .ge 12, 3) := by decide +kernel
theorem dX3_spanPutAt_13 : decode cX3_spanPutAt 13 = .ok (.aload_n 0, 1) := by decide +kernel
theorem dX3_spanPutAt_14 : decode cX3_spanPutAt 14 = .ok (.getfield 18, 3) := by decide +kernel
theorem dX3_spanPutAt_17 : decode cX3_spanPutAt 17 = .ok (.iload_n 1, 1) := by decide +kernel
theorem dX3_spanPutAt_18 : decode cX3_spanPutAt 18 = .ok (.iaload, 1) := by decide +kernel
theorem dX3_spanPutAt_19 : decode cX3_spanPutAt 19 = .ok (.goto 4, 3) := by decide +kernel
theorem dX3_spanPutAt_22 : decode cX3_spanPutAt 22 = .ok (.iconst 0, 1) := by decide +kernel
theorem dX3_spanPutAt_23 : decode cX3_spanPutAt 23 = .ok (.ireturn, 1) := by decide +kernel
theorem dX3_number_0 : decode cX3_number 0 = .ok (.aload_n 0, 1) := by decide +kernel
theorem dX3_number_1 : decode cX3_number 1 = .ok (.getfield 30, 3) := by decide +kernel
theorem dX3_number_4 : decode cX3_number 4 = .ok (.iconst 1, 1) := by decide +kernel
theorem dX3_number_5 : decode cX3_number 5 = .ok (.if_icmp .lt 15, 3) := by decide +kernel
theorem dX3_number_8 : decode cX3_number 8 = .ok (.aload_n 0, 1) := by decide +kernel
theorem dX3_number_9 : decode cX3_number 9 = .ok (.getfield 30, 3) := by decide +kernel
theorem dX3_number_12 : decode cX3_number 12 = .ok (.aload_n 0, 1) := by decide +kernel
theorem dX3_number_13 : decode cX3_number 13 = .ok (.getfield 24, 3) := by decide +kernel
theorem dX3_number_16 : decode cX3_number 16 = .ok (.arraylength, 1) := by decide +kernel
theorem dX3_number_17 : decode cX3_number 17 = .ok (.if_icmp .le 4, 3) := by decide +kernel
theorem dX3_number_20 : decode cX3_number 20 = .ok (.return_, 1) := by decide +kernel
theorem dX3_number_21 : decode cX3_number 21 = .ok (.aload_n 0, 1) := by decide +kernel
theorem dX3_number_22 : decode cX3_number 22 = .ok (.getfield 24, 3) := by decide +kernel
theorem dX3_number_25 : decode cX3_number 25 = .ok (.iconst 0, 1) := by decide +kernel
theorem dX3_number_26 : decode cX3_number 26 = .ok (.aload_n 0, 1) := by decide +kernel
theorem dX3_number_27 : decode cX3_number 27 = .ok (.getfield 30, 3) := by decide +kernel
theorem dX3_number_30 : decode cX3_number 30 = .ok (.iconst 1, 1) := by decide +kernel
theorem dX3_number_31 : decode cX3_number 31 = .ok (.isub, 1) := by decide +kernel
theorem dX3_number_32 : decode cX3_number 32 = .ok (.iastore, 1) := by decide +kernel
theorem dX3_number_33 : decode cX3_number 33 = .ok (.aload_n 0, 1) := by decide +kernel
theorem dX3_number_34 : decode cX3_number 34 = .ok (.getfield 27, 3) := by decide +kernel
theorem dX3_number_37 : decode cX3_number 37 = .ok (.iconst 0, 1) := by decide +kernel
theorem dX3_number_38 : decode cX3_number 38 = .ok (.iconst (-1), 1) := by decide +kernel
theorem dX3_number_39 : decode cX3_number 39 = .ok (.iastore, 1) := by decide +kernel
theorem dX3_number_40 : decode cX3_number 40 = .ok (.aload_n 0, 1) := by decide +kernel
theorem dX3_number_41 : decode cX3_number 41 = .ok (.aload_n 0, 1) := by decide +kernel
theorem dX3_number_42 : decode cX3_number 42 = .ok (.getfield 30, 3) := by decide +kernel
theorem dX3_number_45 : decode cX3_number 45 = .ok (.putfield 34, 3) := by decide +kernel
theorem dX3_number_48 : decode cX3_number 48 = .ok (.iconst 0, 1) := by decide +kernel
theorem dX3_number_49 : decode cX3_number 49 = .ok (.istore_n 1, 1) := by decide +kernel
theorem dX3_number_50 : decode cX3_number 50 = .ok (.iload_n 1, 1) := by decide +kernel
theorem dX3_number_51 : decode cX3_number 51 = .ok (.aload_n 0, 1) := by decide +kernel
theorem dX3_number_52 : decode cX3_number 52 = .ok (.getfield 34, 3) := by decide +kernel
theorem dX3_number_55 : decode cX3_number 55 = .ok (.if_icmp .ge 14, 3) := by decide +kernel
theorem dX3_number_58 : decode cX3_number 58 = .ok (.aload_n 0, 1) := by decide +kernel
theorem dX3_number_59 : decode cX3_number 59 = .ok (.iload_n 1, 1) := by decide +kernel
theorem dX3_number_60 : decode cX3_number 60 = .ok (.invokevirtual 51, 3) := by decide +kernel
theorem dX3_number_63 : decode cX3_number 63 = .ok (.iinc 1 1, 3) := by decide +kernel
theorem dX3_number_66 : decode cX3_number 66 = .ok (.goto (-16), 3) := by decide +kernel
theorem dX3_number_69 : decode cX3_number 69 = .ok (.return_, 1) := by decide +kernel
theorem dX3_numberChildren_0 : decode cX3_numberChildren 0 = .ok (.iload_n 1, 1) := by decide +kernel
theorem dX3_numberChildren_1 : decode cX3_numberChildren 1 = .ok (.aload_n 0, 1) := by decide +kernel
theorem dX3_numberChildren_2 : decode cX3_numberChildren 2 = .ok (.iload_n 1, 1) := by decide +kernel
theorem dX3_numberChildren_3 : decode cX3_numberChildren 3 = .ok (.invokevirtual 54, 3) := by decide +kernel
theorem dX3_numberChildren_6 : decode cX3_numberChildren 6 = .ok (.iadd, 1) := by decide +kernel
theorem dX3_numberChildren_7 : decode cX3_numberChildren 7 = .ok (.istore_n 2, 1) := by decide +kernel
theorem dX3_numberChildren_8 : decode cX3_numberChildren 8 = .ok (.aload_n 0, 1) := by decide +kernel
theorem dX3_numberChildren_9 : decode cX3_numberChildren 9 = .ok (.iload_n 1, 1) := by decide +kernel
theorem dX3_numberChildren_10 : decode cX3_numberChildren 10 = .ok (.invokevirtual 57, 3) := by decide +kernel
theorem dX3_numberChildren_13 : decode cX3_numberChildren 13 = .ok (.iconst 1, 1) := by decide +kernel
theorem dX3_numberChildren_14 : decode cX3_numberChildren 14 = .ok (.isub, 1) := by decide +kernel
theorem dX3_numberChildren_15 : decode cX3_numberChildren 15 = .ok (.istore_n 3, 1) := by decide +kernel
theorem dX3_numberChildren_16 : decode cX3_numberChildren 16 = .ok (.aload_n 0, 1) := by decide +kernel
theorem dX3_numberChildren_17 : decode cX3_numberChildren 17 = .ok (.iload_n 1, 1) := by decide +kernel
theorem dX3_numberChildren_18 : decode cX3_numberChildren 18 = .ok (.invokevirtual 60, 3) := by decide +kernel
theorem dX3_numberChildren_21 : decode cX3_numberChildren 21 = .ok (.istore 4, 2) := by decide +kernel
theorem dX3_numberChildren_23 : decode cX3_numberChildren 23 = .ok (.iconst 0, 1) := by decide +kernel
theorem dX3_numberChildren_24 : decode cX3_numberChildren 24 = .ok (.istore 5, 2) := by decide +kernel
theorem dX3_numberChildren_26 : decode cX3_numberChildren 26 = .ok (.iload 5, 2) := by decide +kernel
theorem dX3_numberChildren_28 : decode cX3_numberChildren 28 = .ok (.iload 4, 2) := by decide +kernel
theorem dX3_numberChildren_30 : decode cX3_numberChildren 30 = .ok (.if_icmp .ge 61, 3) := by decide +kernel
theorem dX3_numberChildren_33 : decode cX3_numberChildren 33 = .ok (.aload_n 0, 1) := by decide +kernel
theorem dX3_numberChildren_34 : decode cX3_numberChildren 34 = .ok (.iload_n 3, 1) := by decide +kernel
theorem dX3_numberChildren_35 : decode cX3_numberChildren 35 = .ok (.invokevirtual 47, 3) := by decide +kernel
theorem dX3_numberChildren_38 : decode cX3_numberChildren 38 = .ok (.istore 6, 2) := by decide +kernel
theorem dX3_numberChildren_40 : decode cX3_numberChildren 40 = .ok (.iload_n 2, 1) := by decide +kernel
theorem dX3_numberChildren_41 : decode cX3_numberChildren 41 = .ok (.iload 6, 2) := by decide +kernel
theorem dX3_numberChildren_43 : decode cX3_numberChildren 43 = .ok (.isub, 1) := by decide +kernel
theorem dX3_numberChildren_44 : decode cX3_numberChildren 44 = .ok (.istore 7, 2) := by decide +kernel
theorem dX3_numberChildren_46 : decode cX3_numberChildren 46 = .ok (.iload 7, 2) := by decide +kernel
theorem dX3_numberChildren_48 : decode cX3_numberChildren 48 = .ok (.ifCond .lt 29, 3) := by decide +kernel
theorem dX3_numberChildren_51 : decode cX3_numberChildren 51 = .ok (.iload 7, 2) := by decide +kernel
theorem dX3_numberChildren_53 : decode cX3_numberChildren 53 = .ok (.aload_n 0, 1) := by decide +kernel
theorem dX3_numberChildren_54 : decode cX3_numberChildren 54 = .ok (.getfield 24, 3) := by decide +kernel
theorem dX3_numberChildren_57 : decode cX3_numberChildren 57 = .ok (.arraylength, 1) := by decide +kernel
theorem dX3_numberChildren_58 : decode cX3_numberChildren 58 = .ok (.if_icmp .ge 19, 3) := by decide +kernel
theorem dX3_numberChildren_61 : decode cX3_numberChildren 61 = .ok (.aload_n 0, 1) := by decide +kernel
theorem dX3_numberChildren_62 : decode cX3_numberChildren 62 = .ok (.getfield 24, 3) := by decide +kernel
theorem dX3_numberChildren_65 : decode cX3_numberChildren 65 = .ok (.iload 7, 2) := by decide +kernel
theorem dX3_numberChildren_67 : decode cX3_numberChildren 67 = .ok (.iload_n 3, 1) := by decide +kernel
theorem dX3_numberChildren_68 : decode cX3_numberChildren 68 = .ok (.iastore, 1) := by decide +kernel
theorem dX3_numberChildren_69 : decode cX3_numberChildren 69 = .ok (.aload_n 0, 1) := by decide +kernel
theorem dX3_numberChildren_70 : decode cX3_numberChildren 70 = .ok (.getfield 27, 3) := by decide +kernel
theorem dX3_numberChildren_73 : decode cX3_numberChildren 73 = .ok (.iload 7, 2) := by decide +kernel
theorem dX3_numberChildren_75 : decode cX3_numberChildren 75 = .ok (.iload_n 1, 1) := by decide +kernel
theorem dX3_numberChildren_76 : decode cX3_numberChildren 76 = .ok (.iastore, 1) := by decide +kernel
theorem dX3_numberChildren_77 : decode cX3_numberChildren 77 = .ok (.iload 7, 2) := by decide +kernel
theorem dX3_numberChildren_79 : decode cX3_numberChildren 79 = .ok (.istore_n 2, 1) := by decide +kernel
theorem dX3_numberChildren_80 : decode cX3_numberChildren 80 = .ok (.iload_n 3, 1) := by decide +kernel
theorem dX3_numberChildren_81 : decode cX3_numberChildren 81 = .ok (.iload 6, 2) := by decide +kernel
theorem dX3_numberChildren_83 : decode cX3_numberChildren 83 = .ok (.isub, 1) := by decide +kernel
theorem dX3_numberChildren_84 : decode cX3_numberChildren 84 = .ok (.istore_n 3, 1) := by decide +kernel
theorem dX3_numberChildren_85 : decode cX3_numberChildren 85 = .ok (.iinc 5 1, 3) := by decide +kernel
theorem dX3_numberChildren_88 : decode cX3_numberChildren 88 = .ok (.goto (-62), 3) := by decide +kernel
theorem dX3_numberChildren_91 : decode cX3_numberChildren 91 = .ok (.return_, 1) := by decide +kernel
theorem dX3_has_0 : decode cX3_has 0 = .ok (.iload_n 1, 1) := by decide +kernel
theorem dX3_has_1 : decode cX3_has 1 = .ok (.ifCond .lt 15, 3) := by decide +kernel
theorem dX3_has_4 : decode cX3_has 4 = .ok (.iload_n 1, 1) := by decide +kernel
theorem dX3_has_5 : decode cX3_has 5 = .ok (.aload_n 0, 1) := by decide +kernel
theorem dX3_has_6 : decode cX3_has 6 = .ok (.getfield 34, 3) := by decide +kernel
theorem dX3_has_9 : decode cX3_has 9 = .ok (.if_icmp .ge 7, 3) := by decide +kernel
theorem dX3_has_12 : decode cX3_has 12 = .ok (.iconst 1, 1) := by decide +kernel
theorem dX3_has_13 : decode cX3_has 13 = .ok (.goto 4, 3) := by decide +kernel
theorem dX3_has_16 : decode cX3_has 16 = .ok (.iconst 0, 1) := by decide +kernel
theorem dX3_has_17 : decode cX3_has 17 = .ok (.ireturn, 1) := by decide +kernel
theorem dX3_placeOf_0 : decode cX3_placeOf 0 = .ok (.iload_n 1, 1) := by decide +kernel
theorem dX3_placeOf_1 : decode cX3_placeOf 1 = .ok (.ifCond .lt 29, 3) := by decide +kernel
theorem dX3_placeOf_4 : decode cX3_placeOf 4 = .ok (.iload_n 1, 1) := by decide +kernel
theorem dX3_placeOf_5 : decode cX3_placeOf 5 = .ok (.aload_n 0, 1) := by decide +kernel
theorem dX3_placeOf_6 : decode cX3_placeOf 6 = .ok (.getfield 34, 3) := by decide +kernel
theorem dX3_placeOf_9 : decode cX3_placeOf 9 = .ok (.if_icmp .ge 21, 3) := by decide +kernel
theorem dX3_placeOf_12 : decode cX3_placeOf 12 = .ok (.iload_n 1, 1) := by decide +kernel
theorem dX3_placeOf_13 : decode cX3_placeOf 13 = .ok (.aload_n 0, 1) := by decide +kernel
theorem dX3_placeOf_14 : decode cX3_placeOf 14 = .ok (.getfield 24, 3) := by decide +kernel
theorem dX3_placeOf_17 : decode cX3_placeOf 17 = .ok (.arraylength, 1) := by decide +kernel
theorem dX3_placeOf_18 : decode cX3_placeOf 18 = .ok (.if_icmp .ge 12, 3) := by decide +kernel
theorem dX3_placeOf_21 : decode cX3_placeOf 21 = .ok (.aload_n 0, 1) := by decide +kernel
theorem dX3_placeOf_22 : decode cX3_placeOf 22 = .ok (.getfield 24, 3) := by decide +kernel
theorem dX3_placeOf_25 : decode cX3_placeOf 25 = .ok (.iload_n 1, 1) := by decide +kernel
theorem dX3_placeOf_26 : decode cX3_placeOf 26 = .ok (.iaload, 1) := by decide +kernel
theorem dX3_placeOf_27 : decode cX3_placeOf 27 = .ok (.goto 4, 3) := by decide +kernel
theorem dX3_placeOf_30 : decode cX3_placeOf 30 = .ok (.iconst (-1), 1) := by decide +kernel
theorem dX3_placeOf_31 : decode cX3_placeOf 31 = .ok (.ireturn, 1) := by decide +kernel
theorem dX3_read_0 : decode cX3_read 0 = .ok (.iload_n 2, 1) := by decide +kernel
theorem dX3_read_1 : decode cX3_read 1 = .ok (.ifCond .lt 15, 3) := by decide +kernel
theorem dX3_read_4 : decode cX3_read 4 = .ok (.iload_n 2, 1) := by decide +kernel
theorem dX3_read_5 : decode cX3_read 5 = .ok (.aload_n 1, 1) := by decide +kernel
theorem dX3_read_6 : decode cX3_read 6 = .ok (.arraylength, 1) := by decide +kernel
theorem dX3_read_7 : decode cX3_read 7 = .ok (.if_icmp .ge 9, 3) := by decide +kernel
theorem dX3_read_10 : decode cX3_read 10 = .ok (.aload_n 1, 1) := by decide +kernel
theorem dX3_read_11 : decode cX3_read 11 = .ok (.iload_n 2, 1) := by decide +kernel
theorem dX3_read_12 : decode cX3_read 12 = .ok (.iaload, 1) := by decide +kernel
theorem dX3_read_13 : decode cX3_read 13 = .ok (.goto 4, 3) := by decide +kernel
theorem dX3_read_16 : decode cX3_read 16 = .ok (.iconst (-1), 1) := by decide +kernel
theorem dX3_read_17 : decode cX3_read 17 = .ok (.ireturn, 1) := by decide +kernel
theorem dX3_whatOf_0 : decode cX3_whatOf 0 = .ok (.aload_n 0, 1) := by decide +kernel
theorem dX3_whatOf_1 : decode cX3_whatOf 1 = .ok (.aload_n 0, 1) := by decide +kernel
theorem dX3_whatOf_2 : decode cX3_whatOf 2 = .ok (.getfield 11, 3) := by decide +kernel
theorem dX3_whatOf_5 : decode cX3_whatOf 5 = .ok (.aload_n 0, 1) := by decide +kernel
theorem dX3_whatOf_6 : decode cX3_whatOf 6 = .ok (.iload_n 1, 1) := by decide +kernel
theorem dX3_whatOf_7 : decode cX3_whatOf 7 = .ok (.invokevirtual 57, 3) := by decide +kernel
theorem dX3_whatOf_10 : decode cX3_whatOf 10 = .ok (.invokevirtual 63, 3) := by decide +kernel
theorem dX3_whatOf_13 : decode cX3_whatOf 13 = .ok (.ireturn, 1) := by decide +kernel
theorem dX3_tokenOf_0 : decode cX3_tokenOf 0 = .ok (.aload_n 0, 1) := by decide +kernel
theorem dX3_tokenOf_1 : decode cX3_tokenOf 1 = .ok (.aload_n 0, 1) := by decide +kernel
theorem dX3_tokenOf_2 : decode cX3_tokenOf 2 = .ok (.getfield 15, 3) := by decide +kernel
theorem dX3_tokenOf_5 : decode cX3_tokenOf 5 = .ok (.aload_n 0, 1) := by decide +kernel
theorem dX3_tokenOf_6 : decode cX3_tokenOf 6 = .ok (.iload_n 1, 1) := by decide +kernel
theorem dX3_tokenOf_7 : decode cX3_tokenOf 7 = .ok (.invokevirtual 57, 3) := by decide +kernel
theorem dX3_tokenOf_10 : decode cX3_tokenOf 10 = .ok (.invokevirtual 63, 3) := by decide +kernel
theorem dX3_tokenOf_13 : decode cX3_tokenOf 13 = .ok (.ireturn, 1) := by decide +kernel
theorem dX3_spanOf_0 : decode cX3_spanOf 0 = .ok (.aload_n 0, 1) := by decide +kernel
theorem dX3_spanOf_1 : decode cX3_spanOf 1 = .ok (.aload_n 0, 1) := by decide +kernel
theorem dX3_spanOf_2 : decode cX3_spanOf 2 = .ok (.getfield 18, 3) := by decide +kernel
theorem dX3_spanOf_5 : decode cX3_spanOf 5 = .ok (.aload_n 0, 1) := by decide +kernel
theorem dX3_spanOf_6 : decode cX3_spanOf 6 = .ok (.iload_n 1, 1) := by decide +kernel
theorem dX3_spanOf_7 : decode cX3_spanOf 7 = .ok (.invokevirtual 57, 3) := by decide +kernel
theorem dX3_spanOf_10 : decode cX3_spanOf 10 = .ok (.invokevirtual 63, 3) := by decide +kernel
theorem dX3_spanOf_13 : decode cX3_spanOf 13 = .ok (.ireturn, 1) := by decide +kernel
theorem dX3_childrenOf_0 : decode cX3_childrenOf 0 = .ok (.aload_n 0, 1) := by decide +kernel
theorem dX3_childrenOf_1 : decode cX3_childrenOf 1 = .ok (.aload_n 0, 1) := by decide +kernel
theorem dX3_childrenOf_2 : decode cX3_childrenOf 2 = .ok (.getfield 21, 3) := by decide +kernel
theorem dX3_childrenOf_5 : decode cX3_childrenOf 5 = .ok (.aload_n 0, 1) := by decide +kernel
theorem dX3_childrenOf_6 : decode cX3_childrenOf 6 = .ok (.iload_n 1, 1) := by decide +kernel
theorem dX3_childrenOf_7 : decode cX3_childrenOf 7 = .ok (.invokevirtual 57, 3) := by decide +kernel
theorem dX3_childrenOf_10 : decode cX3_childrenOf 10 = .ok (.invokevirtual 63, 3) := by decide +kernel
theorem dX3_childrenOf_13 : decode cX3_childrenOf 13 = .ok (.ireturn, 1) := by decide +kernel
theorem dX3_parentOf_0 : decode cX3_parentOf 0 = .ok (.aload_n 0, 1) := by decide +kernel
theorem dX3_parentOf_1 : decode cX3_parentOf 1 = .ok (.iload_n 1, 1) := by decide +kernel
theorem dX3_parentOf_2 : decode cX3_parentOf 2 = .ok (.invokevirtual 67, 3) := by decide +kernel
theorem dX3_parentOf_5 : decode cX3_parentOf 5 = .ok (.ifCond .eq 15, 3) := by decide +kernel
theorem dX3_parentOf_8 : decode cX3_parentOf 8 = .ok (.aload_n 0, 1) := by decide +kernel
theorem dX3_parentOf_9 : decode cX3_parentOf 9 = .ok (.aload_n 0, 1) := by decide +kernel
theorem dX3_parentOf_10 : decode cX3_parentOf 10 = .ok (.getfield 27, 3) := by decide +kernel
theorem dX3_parentOf_13 : decode cX3_parentOf 13 = .ok (.iload_n 1, 1) := by decide +kernel
theorem dX3_parentOf_14 : decode cX3_parentOf 14 = .ok (.invokevirtual 63, 3) := by decide +kernel
theorem dX3_parentOf_17 : decode cX3_parentOf 17 = .ok (.goto 4, 3) := by decide +kernel
theorem dX3_parentOf_20 : decode cX3_parentOf 20 = .ok (.iconst (-1), 1) := by decide +kernel
theorem dX3_parentOf_21 : decode cX3_parentOf 21 = .ok (.ireturn, 1) := by decide +kernel
theorem dX5_init_0 : decode cX5_init 0 = .ok (.aload_n 0, 1) := by decide +kernel
theorem dX5_init_1 : decode cX5_init 1 = .ok (.invokespecial 1, 3) := by decide +kernel
theorem dX5_init_4 : decode cX5_init 4 = .ok (.aload_n 0, 1) := by decide +kernel
theorem dX5_init_5 : decode cX5_init 5 = .ok (.new 7, 3) := by decide +kernel
theorem dX5_init_8 : decode cX5_init 8 = .ok (.dup, 1) := by decide +kernel
theorem dX5_init_9 : decode cX5_init 9 = .ok (.invokespecial 9, 3) := by decide +kernel
theorem dX5_init_12 : decode cX5_init 12 = .ok (.putfield 10, 3) := by decide +kernel
theorem dX5_init_15 : decode cX5_init 15 = .ok (.aload_n 0, 1) := by decide +kernel
theorem dX5_init_16 : decode cX5_init 16 = .ok (.new 16, 3) := by decide +kernel
theorem dX5_init_19 : decode cX5_init 19 = .ok (.dup, 1) := by decide +kernel
theorem dX5_init_20 : decode cX5_init 20 = .ok (.invokespecial 18, 3) := by decide +kernel
theorem dX5_init_23 : decode cX5_init 23 = .ok (.putfield 19, 3) := by decide +kernel
theorem dX5_init_26 : decode cX5_init 26 = .ok (.return_, 1) := by decide +kernel
theorem dX5_add_0 : decode cX5_add 0 = .ok (.iload_n 1, 1) := by decide +kernel
theorem dX5_add_1 : decode cX5_add 1 = .ok (.invokestatic 23, 3) := by decide +kernel
theorem dX5_add_4 : decode cX5_add 4 = .ok (.ifCond .eq 14, 3) := by decide +kernel
theorem dX5_add_7 : decode cX5_add 7 = .ok (.aload_n 0, 1) := by decide +kernel
theorem dX5_add_8 : decode cX5_add 8 = .ok (.getfield 10, 3) := by decide +kernel
theorem dX5_add_11 : decode cX5_add 11 = .ok (.iconst 1, 1) := by decide +kernel
theorem dX5_add_12 : decode cX5_add 12 = .ok (.invokevirtual 29, 3) := by decide +kernel
theorem dX5_add_15 : decode cX5_add 15 = .ok (.ifCond .ne 5, 3) := by decide +kernel
theorem dX5_add_18 : decode cX5_add 18 = .ok (.iconst 0, 1) := by decide +kernel
theorem dX5_add_19 : decode cX5_add 19 = .ok (.ireturn, 1) := by decide +kernel
theorem dX5_add_20 : decode cX5_add 20 = .ok (.aload_n 0, 1) := by decide +kernel
theorem dX5_add_21 : decode cX5_add 21 = .ok (.getfield 10, 3) := by decide +kernel
theorem dX5_add_24 : decode cX5_add 24 = .ok (.iload_n 1, 1) := by decide +kernel
theorem dX5_add_25 : decode cX5_add 25 = .ok (.invokevirtual 32, 3) := by decide +kernel
theorem dX5_add_28 : decode cX5_add 28 = .ok (.iconst 1, 1) := by decide +kernel
theorem dX5_add_29 : decode cX5_add 29 = .ok (.ireturn, 1) := by decide +kernel
theorem dX5_addAll_0 : decode cX5_addAll 0 = .ok (.iconst 0, 1) := by decide +kernel
theorem dX5_addAll_1 : decode cX5_addAll 1 = .ok (.istore_n 3, 1) := by decide +kernel
theorem dX5_addAll_2 : decode cX5_addAll 2 = .ok (.bipush 56, 2) := by decide +kernel
theorem dX5_addAll_4 : decode cX5_addAll 4 = .ok (.istore 4, 2) := by decide +kernel
theorem dX5_addAll_6 : decode cX5_addAll 6 = .ok (.iload 4, 2) := by decide +kernel
theorem dX5_addAll_8 : decode cX5_addAll 8 = .ok (.ifCond .lt 35, 3) := by decide +kernel
theorem dX5_addAll_11 : decode cX5_addAll 11 = .ok (.lload_n 1, 1) := by decide +kernel
theorem dX5_addAll_12 : decode cX5_addAll 12 = .ok (.iload 4, 2) := by decide +kernel
theorem dX5_addAll_14 : decode cX5_addAll 14 = .ok (.invokestatic 36, 3) := by decide +kernel
theorem dX5_addAll_17 : decode cX5_addAll 17 = .ok (.istore 5, 2) := by decide +kernel
theorem dX5_addAll_19 : decode cX5_addAll 19 = .ok (.iload 5, 2) := by decide +kernel
theorem dX5_addAll_21 : decode cX5_addAll 21 = .ok (.ifCond .eq 16, 3) := by decide +kernel
theorem dX5_addAll_24 : decode cX5_addAll 24 = .ok (.iload 5, 2) := by decide +kernel
theorem dX5_addAll_26 : decode cX5_addAll 26 = .ok (.invokestatic 23, 3) := by decide +kernel
theorem dX5_addAll_29 : decode cX5_addAll 29 = .ok (.ifCond .ne 5, 3) := by decide +kernel
theorem dX5_addAll_32 : decode cX5_addAll 32 = .ok (.iconst 0, 1) := by decide +kernel
theorem dX5_addAll_33 : decode cX5_addAll 33 = .ok (.ireturn, 1) := by decide +kernel
theorem dX5_addAll_34 : decode cX5_addAll 34 = .ok (.iinc 3 1, 3) := by decide +kernel
theorem dX5_addAll_37 : decode cX5_addAll 37 = .ok (.iinc 4 (-8), 3) := by decide +kernel
theorem dX5_addAll_40 : decode cX5_addAll 40 = .ok (.goto (-34), 3) := by decide +kernel
theorem dX5_addAll_43 : decode cX5_addAll 43 = .ok (.aload_n 0, 1) := by decide +kernel
theorem dX5_addAll_44 : decode cX5_addAll 44 = .ok (.getfield 10, 3) := by decide +kernel
theorem dX5_addAll_47 : decode cX5_addAll 47 = .ok (.iload_n 3, 1) := by decide +kernel
theorem dX5_addAll_48 : decode cX5_addAll 48 = .ok (.invokevirtual 29, 3) := by decide +kernel
theorem dX5_addAll_51 : decode cX5_addAll 51 = .ok (.ifCond .ne 5, 3) := by decide +kernel
theorem dX5_addAll_54 : decode cX5_addAll 54 = .ok (.iconst 0, 1) := by decide +kernel
theorem dX5_addAll_55 : decode cX5_addAll 55 = .ok (.ireturn, 1) := by decide +kernel
theorem dX5_addAll_56 : decode cX5_addAll 56 = .ok (.bipush 56, 2) := by decide +kernel
theorem dX5_addAll_58 : decode cX5_addAll 58 = .ok (.istore 4, 2) := by decide +kernel
theorem dX5_addAll_60 : decode cX5_addAll 60 = .ok (.iload 4, 2) := by decide +kernel
theorem dX5_addAll_62 : decode cX5_addAll 62 = .ok (.ifCond .lt 31, 3) := by decide +kernel
theorem dX5_addAll_65 : decode cX5_addAll 65 = .ok (.lload_n 1, 1) := by decide +kernel
theorem dX5_addAll_66 : decode cX5_addAll 66 = .ok (.iload 4, 2) := by decide +kernel
theorem dX5_addAll_68 : decode cX5_addAll 68 = .ok (.invokestatic 36, 3) := by decide +kernel
theorem dX5_addAll_71 : decode cX5_addAll 71 = .ok (.istore 5, 2) := by decide +kernel
theorem dX5_addAll_73 : decode cX5_addAll 73 = .ok (.iload 5, 2) := by decide +kernel
theorem dX5_addAll_75 : decode cX5_addAll 75 = .ok (.ifCond .eq 12, 3) := by decide +kernel
theorem dX5_addAll_78 : decode cX5_addAll 78 = .ok (.aload_n 0, 1) := by decide +kernel
theorem dX5_addAll_79 : decode cX5_addAll 79 = .ok (.getfield 10, 3) := by decide +kernel
theorem dX5_addAll_82 : decode cX5_addAll 82 = .ok (.iload 5, 2) := by decide +kernel
theorem dX5_addAll_84 : decode cX5_addAll 84 = .ok (.invokevirtual 32, 3) := by decide +kernel
theorem dX5_addAll_87 : decode cX5_addAll 87 = .ok (.iinc 4 (-8), 3) := by decide +kernel
theorem dX5_addAll_90 : decode cX5_addAll 90 = .ok (.goto (-30), 3) := by decide +kernel
theorem dX5_addAll_93 : decode cX5_addAll 93 = .ok (.iconst 1, 1) := by decide +kernel
theorem dX5_addAll_94 : decode cX5_addAll 94 = .ok (.ireturn, 1) := by decide +kernel
theorem dX5_byteOf_0 : decode cX5_byteOf 0 = .ok (.lload_n 0, 1) := by decide +kernel
theorem dX5_byteOf_1 : decode cX5_byteOf 1 = .ok (.iload_n 2, 1) := by decide +kernel
theorem dX5_byteOf_2 : decode cX5_byteOf 2 = .ok (.lushr, 1) := by decide +kernel
theorem dX5_byteOf_3 : decode cX5_byteOf 3 = .ok (.l2i, 1) := by decide +kernel
theorem dX5_byteOf_4 : decode cX5_byteOf 4 = .ok (.sipush 255, 3) := by decide +kernel
theorem dX5_byteOf_7 : decode cX5_byteOf 7 = .ok (.iand, 1) := by decide +kernel
theorem dX5_byteOf_8 : decode cX5_byteOf 8 = .ok (.ireturn, 1) := by decide +kernel
theorem dX5_build_0 : decode cX5_build 0 = .ok (.aload_n 0, 1) := by decide +kernel
theorem dX5_build_1 : decode cX5_build 1 = .ok (.getfield 19, 3) := by decide +kernel
theorem dX5_build_4 : decode cX5_build 4 = .ok (.aload_n 0, 1) := by decide +kernel
theorem dX5_build_5 : decode cX5_build 5 = .ok (.getfield 10, 3) := by decide +kernel
theorem dX5_build_8 : decode cX5_build 8 = .ok (.getfield 40, 3) := by decide +kernel
theorem dX5_build_11 : decode cX5_build 11 = .ok (.invokevirtual 44, 3) := by decide +kernel
theorem dX5_build_14 : decode cX5_build 14 = .ok (.new 47, 3) := by decide +kernel
theorem dX5_build_17 : decode cX5_build 17 = .ok (.dup, 1) := by decide +kernel
theorem dX5_build_18 : decode cX5_build 18 = .ok (.aload_n 0, 1) := by decide +kernel
theorem dX5_build_19 : decode cX5_build 19 = .ok (.getfield 10, 3) := by decide +kernel
theorem dX5_build_22 : decode cX5_build 22 = .ok (.aload_n 0, 1) := by decide +kernel
theorem dX5_build_23 : decode cX5_build 23 = .ok (.getfield 19, 3) := by decide +kernel
theorem dX5_build_26 : decode cX5_build 26 = .ok (.invokespecial 49, 3) := by decide +kernel
theorem dX5_build_29 : decode cX5_build 29 = .ok (.astore_n 1, 1) := by decide +kernel
theorem dX5_build_30 : decode cX5_build 30 = .ok (.iconst (-1), 1) := by decide +kernel
theorem dX5_build_31 : decode cX5_build 31 = .ok (.istore_n 2, 1) := by decide +kernel
theorem dX5_build_32 : decode cX5_build 32 = .ok (.aload_n 1, 1) := by decide +kernel
theorem dX5_build_33 : decode cX5_build 33 = .ok (.invokevirtual 52, 3) := by decide +kernel
theorem dX5_build_36 : decode cX5_build 36 = .ok (.goto 9, 3) := by decide +kernel
theorem dX5_build_39 : decode cX5_build 39 = .ok (.astore_n 3, 1) := by decide +kernel
theorem dX5_build_40 : decode cX5_build 40 = .ok (.aload_n 1, 1) := by decide +kernel
theorem dX5_build_41 : decode cX5_build 41 = .ok (.getfield 57, 3) := by decide +kernel
theorem dX5_build_44 : decode cX5_build 44 = .ok (.istore_n 2, 1) := by decide +kernel
theorem dX5_build_45 : decode cX5_build 45 = .ok (.aload_n 0, 1) := by decide +kernel
theorem dX5_build_46 : decode cX5_build 46 = .ok (.getfield 10, 3) := by decide +kernel
theorem dX5_build_49 : decode cX5_build 49 = .ok (.iconst 0, 1) := by decide +kernel
theorem dX5_build_50 : decode cX5_build 50 = .ok (.putfield 40, 3) := by decide +kernel
theorem dX5_build_53 : decode cX5_build 53 = .ok (.iload_n 2, 1) := by decide +kernel
theorem dX5_build_54 : decode cX5_build 54 = .ok (.iconst (-1), 1) := by decide +kernel
theorem dX5_build_55 : decode cX5_build 55 = .ok (.if_icmp .eq 7, 3) := by decide +kernel
theorem dX5_build_58 : decode cX5_build 58 = .ok (.iconst (-1), 1) := by decide +kernel
theorem dX5_build_59 : decode cX5_build 59 = .ok (.iload_n 2, 1) := by decide +kernel
theorem dX5_build_60 : decode cX5_build 60 = .ok (.isub, 1) := by decide +kernel
theorem dX5_build_61 : decode cX5_build 61 = .ok (.ireturn, 1) := by decide +kernel
theorem dX5_build_62 : decode cX5_build 62 = .ok (.aload_n 0, 1) := by decide +kernel
theorem dX5_build_63 : decode cX5_build 63 = .ok (.getfield 19, 3) := by decide +kernel
theorem dX5_build_66 : decode cX5_build 66 = .ok (.invokevirtual 60, 3) := by decide +kernel
theorem dX5_build_69 : decode cX5_build 69 = .ok (.aload_n 0, 1) := by decide +kernel
theorem dX5_build_70 : decode cX5_build 70 = .ok (.getfield 19, 3) := by decide +kernel
theorem dX5_build_73 : decode cX5_build 73 = .ok (.getfield 63, 3) := by decide +kernel
theorem dX5_build_76 : decode cX5_build 76 = .ok (.ireturn, 1) := by decide +kernel
theorem dX5_size_0 : decode cX5_size 0 = .ok (.aload_n 0, 1) := by decide +kernel
theorem dX5_size_1 : decode cX5_size 1 = .ok (.getfield 10, 3) := by decide +kernel
theorem dX5_size_4 : decode cX5_size 4 = .ok (.getfield 40, 3) := by decide +kernel
theorem dX5_size_7 : decode cX5_size 7 = .ok (.ireturn, 1) := by decide +kernel
theorem dX5_nodes_0 : decode cX5_nodes 0 = .ok (.aload_n 0, 1) := by decide +kernel
theorem dX5_nodes_1 : decode cX5_nodes 1 = .ok (.getfield 19, 3) := by decide +kernel
theorem dX5_nodes_4 : decode cX5_nodes 4 = .ok (.getfield 63, 3) := by decide +kernel
theorem dX5_nodes_7 : decode cX5_nodes 7 = .ok (.ireturn, 1) := by decide +kernel
theorem dX5_node_0 : decode cX5_node 0 = .ok (.aload_n 0, 1) := by decide +kernel
theorem dX5_node_1 : decode cX5_node 1 = .ok (.getfield 19, 3) := by decide +kernel
theorem dX5_node_4 : decode cX5_node 4 = .ok (.iload_n 1, 1) := by decide +kernel
theorem dX5_node_5 : decode cX5_node 5 = .ok (.invokevirtual 66, 3) := by decide +kernel
theorem dX5_node_8 : decode cX5_node 8 = .ok (.ifCond .ne 13, 3) := by decide +kernel
theorem dX5_node_11 : decode cX5_node 11 = .ok (.new 69, 3) := by decide +kernel
theorem dX5_node_14 : decode cX5_node 14 = .ok (.dup, 1) := by decide +kernel
theorem dX5_node_15 : decode cX5_node 15 = .ok (.ldc 71, 2) := by decide +kernel
theorem dX5_node_17 : decode cX5_node 17 = .ok (.invokespecial 73, 3) := by decide +kernel
theorem dX5_node_20 : decode cX5_node 20 = .ok (.athrow, 1) := by decide +kernel
theorem dX5_node_21 : decode cX5_node 21 = .ok (.iload_n 2, 1) := by decide +kernel
theorem dX5_node_22 : decode cX5_node 22 = .ok (.tableswitch 79 0 4 #[34, 43, 52, 61, 70], 34) := by decide +kernel
theorem dX5_node_56 : decode cX5_node 56 = .ok (.aload_n 0, 1) := by decide +kernel
theorem dX5_node_57 : decode cX5_node 57 = .ok (.getfield 19, 3) := by decide +kernel
theorem dX5_node_60 : decode cX5_node 60 = .ok (.iload_n 1, 1) := by decide +kernel
theorem dX5_node_61 : decode cX5_node 61 = .ok (.invokevirtual 76, 3) := by decide +kernel
theorem dX5_node_64 : decode cX5_node 64 = .ok (.ireturn, 1) := by decide +kernel
theorem dX5_node_65 : decode cX5_node 65 = .ok (.aload_n 0, 1) := by decide +kernel
theorem dX5_node_66 : decode cX5_node 66 = .ok (.getfield 19, 3) := by decide +kernel
theorem dX5_node_69 : decode cX5_node 69 = .ok (.iload_n 1, 1) := by decide +kernel
theorem dX5_node_70 : decode cX5_node 70 = .ok (.invokevirtual 80, 3) := by decide +kernel
theorem dX5_node_73 : decode cX5_node 73 = .ok (.ireturn, 1) := by decide +kernel
theorem dX5_node_74 : decode cX5_node 74 = .ok (.aload_n 0, 1) := by decide +kernel
theorem dX5_node_75 : decode cX5_node 75 = .ok (.getfield 19, 3) := by decide +kernel
theorem dX5_node_78 : decode cX5_node 78 = .ok (.iload_n 1, 1) := by decide +kernel
theorem dX5_node_79 : decode cX5_node 79 = .ok (.invokevirtual 83, 3) := by decide +kernel
theorem dX5_node_82 : decode cX5_node 82 = .ok (.ireturn, 1) := by decide +kernel
theorem dX5_node_83 : decode cX5_node 83 = .ok (.aload_n 0, 1) := by decide +kernel
theorem dX5_node_84 : decode cX5_node 84 = .ok (.getfield 19, 3) := by decide +kernel
theorem dX5_node_87 : decode cX5_node 87 = .ok (.iload_n 1, 1) := by decide +kernel
theorem dX5_node_88 : decode cX5_node 88 = .ok (.invokevirtual 86, 3) := by decide +kernel
theorem dX5_node_91 : decode cX5_node 91 = .ok (.ireturn, 1) := by decide +kernel
theorem dX5_node_92 : decode cX5_node 92 = .ok (.aload_n 0, 1) := by decide +kernel
theorem dX5_node_93 : decode cX5_node 93 = .ok (.getfield 19, 3) := by decide +kernel
theorem dX5_node_96 : decode cX5_node 96 = .ok (.iload_n 1, 1) := by decide +kernel
theorem dX5_node_97 : decode cX5_node 97 = .ok (.invokevirtual 89, 3) := by decide +kernel
theorem dX5_node_100 : decode cX5_node 100 = .ok (.ireturn, 1) := by decide +kernel
theorem dX5_node_101 : decode cX5_node 101 = .ok (.new 69, 3) := by decide +kernel
theorem dX5_node_104 : decode cX5_node 104 = .ok (.dup, 1) := by decide +kernel
theorem dX5_node_105 : decode cX5_node 105 = .ok (.ldc 92, 2) := by decide +kernel
theorem dX5_node_107 : decode cX5_node 107 = .ok (.invokespecial 73, 3) := by decide +kernel
theorem dX5_node_110 : decode cX5_node 110 = .ok (.athrow, 1) := by decide +kernel
theorem dX5_child_0 : decode cX5_child 0 = .ok (.aload_n 0, 1) := by decide +kernel
theorem dX5_child_1 : decode cX5_child 1 = .ok (.getfield 19, 3) := by decide +kernel
theorem dX5_child_4 : decode cX5_child 4 = .ok (.iload_n 1, 1) := by decide +kernel
theorem dX5_child_5 : decode cX5_child 5 = .ok (.invokevirtual 66, 3) := by decide +kernel
theorem dX5_child_8 : decode cX5_child 8 = .ok (.ifCond .eq 19, 3) := by decide +kernel
theorem dX5_child_11 : decode cX5_child 11 = .ok (.iload_n 2, 1) := by decide +kernel
theorem dX5_child_12 : decode cX5_child 12 = .ok (.ifCond .lt 15, 3) := by decide +kernel
theorem dX5_child_15 : decode cX5_child 15 = .ok (.iload_n 2, 1) := by decide +kernel
theorem dX5_child_16 : decode cX5_child 16 = .ok (.aload_n 0, 1) := by decide +kernel
theorem dX5_child_17 : decode cX5_child 17 = .ok (.getfield 19, 3) := by decide +kernel
theorem dX5_child_20 : decode cX5_child 20 = .ok (.iload_n 1, 1) := by decide +kernel
theorem dX5_child_21 : decode cX5_child 21 = .ok (.invokevirtual 86, 3) := by decide +kernel
theorem dX5_child_24 : decode cX5_child 24 = .ok (.if_icmp .lt 13, 3) := by decide +kernel
theorem dX5_child_27 : decode cX5_child 27 = .ok (.new 69, 3) := by decide +kernel
theorem dX5_child_30 : decode cX5_child 30 = .ok (.dup, 1) := by decide +kernel
theorem dX5_child_31 : decode cX5_child 31 = .ok (.ldc 94, 2) := by decide +kernel
theorem dX5_child_33 : decode cX5_child 33 = .ok (.invokespecial 73, 3) := by decide +kernel
theorem dX5_child_36 : decode cX5_child 36 = .ok (.athrow, 1) := by decide +kernel
theorem dX5_child_37 : decode cX5_child 37 = .ok (.iload_n 1, 1) := by decide +kernel
theorem dX5_child_38 : decode cX5_child 38 = .ok (.iconst 1, 1) := by decide +kernel
theorem dX5_child_39 : decode cX5_child 39 = .ok (.iadd, 1) := by decide +kernel
theorem dX5_child_40 : decode cX5_child 40 = .ok (.istore_n 3, 1) := by decide +kernel
theorem dX5_child_41 : decode cX5_child 41 = .ok (.iconst 0, 1) := by decide +kernel
theorem dX5_child_42 : decode cX5_child 42 = .ok (.istore 4, 2) := by decide +kernel
theorem dX5_child_44 : decode cX5_child 44 = .ok (.iload 4, 2) := by decide +kernel
theorem dX5_child_46 : decode cX5_child 46 = .ok (.iload_n 2, 1) := by decide +kernel
theorem dX5_child_47 : decode cX5_child 47 = .ok (.if_icmp .ge 20, 3) := by decide +kernel
theorem dX5_child_50 : decode cX5_child 50 = .ok (.iload_n 3, 1) := by decide +kernel
theorem dX5_child_51 : decode cX5_child 51 = .ok (.aload_n 0, 1) := by decide +kernel
theorem dX5_child_52 : decode cX5_child 52 = .ok (.getfield 19, 3) := by decide +kernel
theorem dX5_child_55 : decode cX5_child 55 = .ok (.iload_n 3, 1) := by decide +kernel
theorem dX5_child_56 : decode cX5_child 56 = .ok (.invokevirtual 83, 3) := by decide +kernel
theorem dX5_child_59 : decode cX5_child 59 = .ok (.iadd, 1) := by decide +kernel
theorem dX5_child_60 : decode cX5_child 60 = .ok (.istore_n 3, 1) := by decide +kernel
theorem dX5_child_61 : decode cX5_child 61 = .ok (.iinc 4 1, 3) := by decide +kernel
theorem dX5_child_64 : decode cX5_child 64 = .ok (.goto (-20), 3) := by decide +kernel
theorem dX5_child_67 : decode cX5_child 67 = .ok (.iload_n 3, 1) := by decide +kernel
theorem dX5_child_68 : decode cX5_child 68 = .ok (.ireturn, 1) := by decide +kernel
