section
-- ===== PART A: goes FIRST, ahead of the names: the tables' words, and 'selects' of the private methods out of them =====
/-- a private method of a class that the tables say can be made, by its rows of tables_1 -/
def lw_okq (q : MethodName × Nat) : Prop := (q.1.cls ≠ "java/lang/invoke/MethodHandle" ∧ q.1.cls ≠ "java/lang/invoke/VarHandle") ∧ Cond.instantiable q.1.cls q.2 ∈ tables_1 ∧ Cond.privateMethod q.1 ∈ tables_1 ∧ Cond.instanceMethod q.1 ∈ tables_1
theorem lw_p0 : lw_okq (⟨"TreeBuilder$Tokens", "haveRoomFor", "(I)Z"⟩, 2) := ⟨⟨by decide +kernel, by decide +kernel⟩, List.mem_of_getElem? (i := 22) (by decide +kernel), List.mem_of_getElem? (i := 84) (by decide +kernel), List.mem_of_getElem? (i := 85) (by decide +kernel)⟩
theorem lw_p1 : lw_okq (⟨"TreeBuilder$Tokens", "append", "(I)V"⟩, 2) := ⟨⟨by decide +kernel, by decide +kernel⟩, List.mem_of_getElem? (i := 22) (by decide +kernel), List.mem_of_getElem? (i := 88) (by decide +kernel), List.mem_of_getElem? (i := 89) (by decide +kernel)⟩
theorem lw_p2 : lw_okq (⟨"TreeBuilder$Tree", "beginFor", "(I)V"⟩, 8) := ⟨⟨by decide +kernel, by decide +kernel⟩, List.mem_of_getElem? (i := 37) (by decide +kernel), List.mem_of_getElem? (i := 104) (by decide +kernel), List.mem_of_getElem? (i := 105) (by decide +kernel)⟩
theorem lw_p3 : lw_okq (⟨"TreeBuilder$Tree", "makeRows", "(I)V"⟩, 8) := ⟨⟨by decide +kernel, by decide +kernel⟩, List.mem_of_getElem? (i := 37) (by decide +kernel), List.mem_of_getElem? (i := 111) (by decide +kernel), List.mem_of_getElem? (i := 112) (by decide +kernel)⟩
theorem lw_p4 : lw_okq (⟨"TreeBuilder$Tokens", "kindAt", "(I)I"⟩, 2) := ⟨⟨by decide +kernel, by decide +kernel⟩, List.mem_of_getElem? (i := 22) (by decide +kernel), List.mem_of_getElem? (i := 121) (by decide +kernel), List.mem_of_getElem? (i := 122) (by decide +kernel)⟩
theorem lw_p5 : lw_okq (⟨"TreeBuilder$Parser", "file", "()V"⟩, 9) := ⟨⟨by decide +kernel, by decide +kernel⟩, List.mem_of_getElem? (i := 115) (by decide +kernel), List.mem_of_getElem? (i := 154) (by decide +kernel), List.mem_of_getElem? (i := 155) (by decide +kernel)⟩
theorem lw_p6 : lw_okq (⟨"TreeBuilder$Parser", "expect", "(I)I"⟩, 9) := ⟨⟨by decide +kernel, by decide +kernel⟩, List.mem_of_getElem? (i := 115) (by decide +kernel), List.mem_of_getElem? (i := 158) (by decide +kernel), List.mem_of_getElem? (i := 159) (by decide +kernel)⟩
theorem lw_p7 : lw_okq (⟨"TreeBuilder$Parser", "sees", "(I)Z"⟩, 9) := ⟨⟨by decide +kernel, by decide +kernel⟩, List.mem_of_getElem? (i := 115) (by decide +kernel), List.mem_of_getElem? (i := 162) (by decide +kernel), List.mem_of_getElem? (i := 163) (by decide +kernel)⟩
theorem lw_p8 : lw_okq (⟨"TreeBuilder$Parser", "refuse", "()V"⟩, 9) := ⟨⟨by decide +kernel, by decide +kernel⟩, List.mem_of_getElem? (i := 115) (by decide +kernel), List.mem_of_getElem? (i := 166) (by decide +kernel), List.mem_of_getElem? (i := 167) (by decide +kernel)⟩
theorem lw_p9 : lw_okq (⟨"java/lang/Throwable", "fillInStackTrace", "(I)Ljava/lang/Throwable;"⟩, 6) := ⟨⟨by decide +kernel, by decide +kernel⟩, List.mem_of_getElem? (i := 207) (by decide +kernel), List.mem_of_getElem? (i := 205) (by decide +kernel), List.mem_of_getElem? (i := 206) (by decide +kernel)⟩
theorem lw_p10 : lw_okq (⟨"TreeBuilder$Parser", "take", "()I"⟩, 9) := ⟨⟨by decide +kernel, by decide +kernel⟩, List.mem_of_getElem? (i := 115) (by decide +kernel), List.mem_of_getElem? (i := 236) (by decide +kernel), List.mem_of_getElem? (i := 237) (by decide +kernel)⟩
theorem lw_p11 : lw_okq (⟨"TreeBuilder$Parser", "name", "()V"⟩, 9) := ⟨⟨by decide +kernel, by decide +kernel⟩, List.mem_of_getElem? (i := 115) (by decide +kernel), List.mem_of_getElem? (i := 240) (by decide +kernel), List.mem_of_getElem? (i := 241) (by decide +kernel)⟩
theorem lw_p12 : lw_okq (⟨"TreeBuilder$Tree", "put", "(III)V"⟩, 8) := ⟨⟨by decide +kernel, by decide +kernel⟩, List.mem_of_getElem? (i := 37) (by decide +kernel), List.mem_of_getElem? (i := 244) (by decide +kernel), List.mem_of_getElem? (i := 245) (by decide +kernel)⟩
theorem lw_p13 : lw_okq (⟨"TreeBuilder$Tree", "spanPutAt", "(I)I"⟩, 8) := ⟨⟨by decide +kernel, by decide +kernel⟩, List.mem_of_getElem? (i := 37) (by decide +kernel), List.mem_of_getElem? (i := 248) (by decide +kernel), List.mem_of_getElem? (i := 249) (by decide +kernel)⟩
theorem lw_p14 : lw_okq (⟨"TreeBuilder$Parser", "functionDecl", "()V"⟩, 9) := ⟨⟨by decide +kernel, by decide +kernel⟩, List.mem_of_getElem? (i := 115) (by decide +kernel), List.mem_of_getElem? (i := 252) (by decide +kernel), List.mem_of_getElem? (i := 253) (by decide +kernel)⟩
theorem lw_p15 : lw_okq (⟨"TreeBuilder$Parser", "receiver", "()V"⟩, 9) := ⟨⟨by decide +kernel, by decide +kernel⟩, List.mem_of_getElem? (i := 115) (by decide +kernel), List.mem_of_getElem? (i := 256) (by decide +kernel), List.mem_of_getElem? (i := 257) (by decide +kernel)⟩
def lw_privs_1 : List (MethodName × Nat) := [(⟨"TreeBuilder$Tokens", "haveRoomFor", "(I)Z"⟩, 2), (⟨"TreeBuilder$Tokens", "append", "(I)V"⟩, 2), (⟨"TreeBuilder$Tree", "beginFor", "(I)V"⟩, 8), (⟨"TreeBuilder$Tree", "makeRows", "(I)V"⟩, 8), (⟨"TreeBuilder$Tokens", "kindAt", "(I)I"⟩, 2), (⟨"TreeBuilder$Parser", "file", "()V"⟩, 9), (⟨"TreeBuilder$Parser", "expect", "(I)I"⟩, 9), (⟨"TreeBuilder$Parser", "sees", "(I)Z"⟩, 9), (⟨"TreeBuilder$Parser", "refuse", "()V"⟩, 9), (⟨"java/lang/Throwable", "fillInStackTrace", "(I)Ljava/lang/Throwable;"⟩, 6), (⟨"TreeBuilder$Parser", "take", "()I"⟩, 9), (⟨"TreeBuilder$Parser", "name", "()V"⟩, 9), (⟨"TreeBuilder$Tree", "put", "(III)V"⟩, 8), (⟨"TreeBuilder$Tree", "spanPutAt", "(I)I"⟩, 8), (⟨"TreeBuilder$Parser", "functionDecl", "()V"⟩, 9), (⟨"TreeBuilder$Parser", "receiver", "()V"⟩, 9)]
theorem lw_r1 : ∀ q ∈ lw_privs_1, lw_okq q := List.forall_mem_cons.mpr ⟨lw_p0, List.forall_mem_cons.mpr ⟨lw_p1, List.forall_mem_cons.mpr ⟨lw_p2, List.forall_mem_cons.mpr ⟨lw_p3, List.forall_mem_cons.mpr ⟨lw_p4, List.forall_mem_cons.mpr ⟨lw_p5, List.forall_mem_cons.mpr ⟨lw_p6, List.forall_mem_cons.mpr ⟨lw_p7, List.forall_mem_cons.mpr ⟨lw_p8, List.forall_mem_cons.mpr ⟨lw_p9, List.forall_mem_cons.mpr ⟨lw_p10, List.forall_mem_cons.mpr ⟨lw_p11, List.forall_mem_cons.mpr ⟨lw_p12, List.forall_mem_cons.mpr ⟨lw_p13, List.forall_mem_cons.mpr ⟨lw_p14, List.forall_mem_cons.mpr ⟨lw_p15, fun _ h => absurd h List.not_mem_nil⟩⟩⟩⟩⟩⟩⟩⟩⟩⟩⟩⟩⟩⟩⟩⟩
theorem lw_p16 : lw_okq (⟨"TreeBuilder$Parser", "enter", "(I)I"⟩, 9) := ⟨⟨by decide +kernel, by decide +kernel⟩, List.mem_of_getElem? (i := 115) (by decide +kernel), List.mem_of_getElem? (i := 260) (by decide +kernel), List.mem_of_getElem? (i := 261) (by decide +kernel)⟩
theorem lw_p17 : lw_okq (⟨"TreeBuilder$Parser", "openPart", "()V"⟩, 9) := ⟨⟨by decide +kernel, by decide +kernel⟩, List.mem_of_getElem? (i := 115) (by decide +kernel), List.mem_of_getElem? (i := 264) (by decide +kernel), List.mem_of_getElem? (i := 265) (by decide +kernel)⟩
theorem lw_p18 : lw_okq (⟨"TreeBuilder$Parser", "type", "()V"⟩, 9) := ⟨⟨by decide +kernel, by decide +kernel⟩, List.mem_of_getElem? (i := 115) (by decide +kernel), List.mem_of_getElem? (i := 268) (by decide +kernel), List.mem_of_getElem? (i := 269) (by decide +kernel)⟩
theorem lw_p19 : lw_okq (⟨"TreeBuilder$Parser", "listType", "()V"⟩, 9) := ⟨⟨by decide +kernel, by decide +kernel⟩, List.mem_of_getElem? (i := 115) (by decide +kernel), List.mem_of_getElem? (i := 275) (by decide +kernel), List.mem_of_getElem? (i := 276) (by decide +kernel)⟩
theorem lw_p20 : lw_okq (⟨"TreeBuilder$Parser", "expr", "(Z)V"⟩, 9) := ⟨⟨by decide +kernel, by decide +kernel⟩, List.mem_of_getElem? (i := 115) (by decide +kernel), List.mem_of_getElem? (i := 279) (by decide +kernel), List.mem_of_getElem? (i := 280) (by decide +kernel)⟩
theorem lw_p21 : lw_okq (⟨"TreeBuilder$Parser", "unary", "(Z)V"⟩, 9) := ⟨⟨by decide +kernel, by decide +kernel⟩, List.mem_of_getElem? (i := 115) (by decide +kernel), List.mem_of_getElem? (i := 283) (by decide +kernel), List.mem_of_getElem? (i := 284) (by decide +kernel)⟩
theorem lw_p22 : lw_okq (⟨"TreeBuilder$Parser", "seesUnarySign", "()Z"⟩, 9) := ⟨⟨by decide +kernel, by decide +kernel⟩, List.mem_of_getElem? (i := 115) (by decide +kernel), List.mem_of_getElem? (i := 287) (by decide +kernel), List.mem_of_getElem? (i := 288) (by decide +kernel)⟩
theorem lw_p23 : lw_okq (⟨"TreeBuilder$Parser", "nextKind", "()I"⟩, 9) := ⟨⟨by decide +kernel, by decide +kernel⟩, List.mem_of_getElem? (i := 115) (by decide +kernel), List.mem_of_getElem? (i := 291) (by decide +kernel), List.mem_of_getElem? (i := 292) (by decide +kernel)⟩
theorem lw_p24 : lw_okq (⟨"TreeBuilder$Parser", "primary", "(Z)V"⟩, 9) := ⟨⟨by decide +kernel, by decide +kernel⟩, List.mem_of_getElem? (i := 115) (by decide +kernel), List.mem_of_getElem? (i := 298) (by decide +kernel), List.mem_of_getElem? (i := 299) (by decide +kernel)⟩
theorem lw_p25 : lw_okq (⟨"TreeBuilder$Parser", "operand", "()V"⟩, 9) := ⟨⟨by decide +kernel, by decide +kernel⟩, List.mem_of_getElem? (i := 115) (by decide +kernel), List.mem_of_getElem? (i := 302) (by decide +kernel), List.mem_of_getElem? (i := 303) (by decide +kernel)⟩
theorem lw_p26 : lw_okq (⟨"TreeBuilder$Parser", "putLeaf", "(I)V"⟩, 9) := ⟨⟨by decide +kernel, by decide +kernel⟩, List.mem_of_getElem? (i := 115) (by decide +kernel), List.mem_of_getElem? (i := 306) (by decide +kernel), List.mem_of_getElem? (i := 307) (by decide +kernel)⟩
theorem lw_p27 : lw_okq (⟨"TreeBuilder$Parser", "elements", "(II)V"⟩, 9) := ⟨⟨by decide +kernel, by decide +kernel⟩, List.mem_of_getElem? (i := 115) (by decide +kernel), List.mem_of_getElem? (i := 310) (by decide +kernel), List.mem_of_getElem? (i := 311) (by decide +kernel)⟩
theorem lw_p28 : lw_okq (⟨"TreeBuilder$Parser", "value", "()V"⟩, 9) := ⟨⟨by decide +kernel, by decide +kernel⟩, List.mem_of_getElem? (i := 115) (by decide +kernel), List.mem_of_getElem? (i := 314) (by decide +kernel), List.mem_of_getElem? (i := 315) (by decide +kernel)⟩
theorem lw_p29 : lw_okq (⟨"TreeBuilder$Parser", "accept", "(I)Z"⟩, 9) := ⟨⟨by decide +kernel, by decide +kernel⟩, List.mem_of_getElem? (i := 115) (by decide +kernel), List.mem_of_getElem? (i := 318) (by decide +kernel), List.mem_of_getElem? (i := 319) (by decide +kernel)⟩
theorem lw_p30 : lw_okq (⟨"TreeBuilder$Parser", "leave", "(I)V"⟩, 9) := ⟨⟨by decide +kernel, by decide +kernel⟩, List.mem_of_getElem? (i := 115) (by decide +kernel), List.mem_of_getElem? (i := 322) (by decide +kernel), List.mem_of_getElem? (i := 323) (by decide +kernel)⟩
theorem lw_p31 : lw_okq (⟨"TreeBuilder$Parser", "closePart", "()V"⟩, 9) := ⟨⟨by decide +kernel, by decide +kernel⟩, List.mem_of_getElem? (i := 115) (by decide +kernel), List.mem_of_getElem? (i := 326) (by decide +kernel), List.mem_of_getElem? (i := 327) (by decide +kernel)⟩
def lw_privs_2 : List (MethodName × Nat) := [(⟨"TreeBuilder$Parser", "enter", "(I)I"⟩, 9), (⟨"TreeBuilder$Parser", "openPart", "()V"⟩, 9), (⟨"TreeBuilder$Parser", "type", "()V"⟩, 9), (⟨"TreeBuilder$Parser", "listType", "()V"⟩, 9), (⟨"TreeBuilder$Parser", "expr", "(Z)V"⟩, 9), (⟨"TreeBuilder$Parser", "unary", "(Z)V"⟩, 9), (⟨"TreeBuilder$Parser", "seesUnarySign", "()Z"⟩, 9), (⟨"TreeBuilder$Parser", "nextKind", "()I"⟩, 9), (⟨"TreeBuilder$Parser", "primary", "(Z)V"⟩, 9), (⟨"TreeBuilder$Parser", "operand", "()V"⟩, 9), (⟨"TreeBuilder$Parser", "putLeaf", "(I)V"⟩, 9), (⟨"TreeBuilder$Parser", "elements", "(II)V"⟩, 9), (⟨"TreeBuilder$Parser", "value", "()V"⟩, 9), (⟨"TreeBuilder$Parser", "accept", "(I)Z"⟩, 9), (⟨"TreeBuilder$Parser", "leave", "(I)V"⟩, 9), (⟨"TreeBuilder$Parser", "closePart", "()V"⟩, 9)]
theorem lw_r2 : ∀ q ∈ lw_privs_2, lw_okq q := List.forall_mem_cons.mpr ⟨lw_p16, List.forall_mem_cons.mpr ⟨lw_p17, List.forall_mem_cons.mpr ⟨lw_p18, List.forall_mem_cons.mpr ⟨lw_p19, List.forall_mem_cons.mpr ⟨lw_p20, List.forall_mem_cons.mpr ⟨lw_p21, List.forall_mem_cons.mpr ⟨lw_p22, List.forall_mem_cons.mpr ⟨lw_p23, List.forall_mem_cons.mpr ⟨lw_p24, List.forall_mem_cons.mpr ⟨lw_p25, List.forall_mem_cons.mpr ⟨lw_p26, List.forall_mem_cons.mpr ⟨lw_p27, List.forall_mem_cons.mpr ⟨lw_p28, List.forall_mem_cons.mpr ⟨lw_p29, List.forall_mem_cons.mpr ⟨lw_p30, List.forall_mem_cons.mpr ⟨lw_p31, fun _ h => absurd h List.not_mem_nil⟩⟩⟩⟩⟩⟩⟩⟩⟩⟩⟩⟩⟩⟩⟩⟩
theorem lw_p32 : lw_okq (⟨"TreeBuilder$Parser", "paren", "()V"⟩, 9) := ⟨⟨by decide +kernel, by decide +kernel⟩, List.mem_of_getElem? (i := 115) (by decide +kernel), List.mem_of_getElem? (i := 330) (by decide +kernel), List.mem_of_getElem? (i := 331) (by decide +kernel)⟩
theorem lw_p33 : lw_okq (⟨"TreeBuilder$Parser", "functionOrType", "()V"⟩, 9) := ⟨⟨by decide +kernel, by decide +kernel⟩, List.mem_of_getElem? (i := 115) (by decide +kernel), List.mem_of_getElem? (i := 334) (by decide +kernel), List.mem_of_getElem? (i := 335) (by decide +kernel)⟩
theorem lw_p34 : lw_okq (⟨"TreeBuilder$Parser", "signature", "()V"⟩, 9) := ⟨⟨by decide +kernel, by decide +kernel⟩, List.mem_of_getElem? (i := 115) (by decide +kernel), List.mem_of_getElem? (i := 338) (by decide +kernel), List.mem_of_getElem? (i := 339) (by decide +kernel)⟩
theorem lw_p35 : lw_okq (⟨"TreeBuilder$Parser", "params", "()V"⟩, 9) := ⟨⟨by decide +kernel, by decide +kernel⟩, List.mem_of_getElem? (i := 115) (by decide +kernel), List.mem_of_getElem? (i := 342) (by decide +kernel), List.mem_of_getElem? (i := 343) (by decide +kernel)⟩
theorem lw_p36 : lw_okq (⟨"TreeBuilder$Parser", "param", "(II)I"⟩, 9) := ⟨⟨by decide +kernel, by decide +kernel⟩, List.mem_of_getElem? (i := 115) (by decide +kernel), List.mem_of_getElem? (i := 346) (by decide +kernel), List.mem_of_getElem? (i := 347) (by decide +kernel)⟩
theorem lw_p37 : lw_okq (⟨"TreeBuilder$Parser", "block", "()V"⟩, 9) := ⟨⟨by decide +kernel, by decide +kernel⟩, List.mem_of_getElem? (i := 115) (by decide +kernel), List.mem_of_getElem? (i := 350) (by decide +kernel), List.mem_of_getElem? (i := 351) (by decide +kernel)⟩
theorem lw_p38 : lw_okq (⟨"TreeBuilder$Parser", "stmts", "()I"⟩, 9) := ⟨⟨by decide +kernel, by decide +kernel⟩, List.mem_of_getElem? (i := 115) (by decide +kernel), List.mem_of_getElem? (i := 354) (by decide +kernel), List.mem_of_getElem? (i := 355) (by decide +kernel)⟩
theorem lw_p39 : lw_okq (⟨"TreeBuilder$Parser", "stmt", "()Z"⟩, 9) := ⟨⟨by decide +kernel, by decide +kernel⟩, List.mem_of_getElem? (i := 115) (by decide +kernel), List.mem_of_getElem? (i := 358) (by decide +kernel), List.mem_of_getElem? (i := 359) (by decide +kernel)⟩
theorem lw_p40 : lw_okq (⟨"TreeBuilder$Parser", "decl", "()V"⟩, 9) := ⟨⟨by decide +kernel, by decide +kernel⟩, List.mem_of_getElem? (i := 115) (by decide +kernel), List.mem_of_getElem? (i := 362) (by decide +kernel), List.mem_of_getElem? (i := 363) (by decide +kernel)⟩
theorem lw_p41 : lw_okq (⟨"TreeBuilder$Parser", "group", "(I)I"⟩, 9) := ⟨⟨by decide +kernel, by decide +kernel⟩, List.mem_of_getElem? (i := 115) (by decide +kernel), List.mem_of_getElem? (i := 366) (by decide +kernel), List.mem_of_getElem? (i := 367) (by decide +kernel)⟩
theorem lw_p42 : lw_okq (⟨"TreeBuilder$Parser", "spec", "(I)V"⟩, 9) := ⟨⟨by decide +kernel, by decide +kernel⟩, List.mem_of_getElem? (i := 115) (by decide +kernel), List.mem_of_getElem? (i := 370) (by decide +kernel), List.mem_of_getElem? (i := 371) (by decide +kernel)⟩
theorem lw_p43 : lw_okq (⟨"TreeBuilder$Parser", "constSpec", "()V"⟩, 9) := ⟨⟨by decide +kernel, by decide +kernel⟩, List.mem_of_getElem? (i := 115) (by decide +kernel), List.mem_of_getElem? (i := 374) (by decide +kernel), List.mem_of_getElem? (i := 375) (by decide +kernel)⟩
theorem lw_p44 : lw_okq (⟨"TreeBuilder$Parser", "names", "()V"⟩, 9) := ⟨⟨by decide +kernel, by decide +kernel⟩, List.mem_of_getElem? (i := 115) (by decide +kernel), List.mem_of_getElem? (i := 378) (by decide +kernel), List.mem_of_getElem? (i := 379) (by decide +kernel)⟩
theorem lw_p45 : lw_okq (⟨"TreeBuilder$Parser", "exprs", "()V"⟩, 9) := ⟨⟨by decide +kernel, by decide +kernel⟩, List.mem_of_getElem? (i := 115) (by decide +kernel), List.mem_of_getElem? (i := 382) (by decide +kernel), List.mem_of_getElem? (i := 383) (by decide +kernel)⟩
theorem lw_p46 : lw_okq (⟨"TreeBuilder$Parser", "restOfExprs", "(II)V"⟩, 9) := ⟨⟨by decide +kernel, by decide +kernel⟩, List.mem_of_getElem? (i := 115) (by decide +kernel), List.mem_of_getElem? (i := 386) (by decide +kernel), List.mem_of_getElem? (i := 387) (by decide +kernel)⟩
theorem lw_p47 : lw_okq (⟨"TreeBuilder$Parser", "typeSpec", "()V"⟩, 9) := ⟨⟨by decide +kernel, by decide +kernel⟩, List.mem_of_getElem? (i := 115) (by decide +kernel), List.mem_of_getElem? (i := 390) (by decide +kernel), List.mem_of_getElem? (i := 391) (by decide +kernel)⟩
def lw_privs_3 : List (MethodName × Nat) := [(⟨"TreeBuilder$Parser", "paren", "()V"⟩, 9), (⟨"TreeBuilder$Parser", "functionOrType", "()V"⟩, 9), (⟨"TreeBuilder$Parser", "signature", "()V"⟩, 9), (⟨"TreeBuilder$Parser", "params", "()V"⟩, 9), (⟨"TreeBuilder$Parser", "param", "(II)I"⟩, 9), (⟨"TreeBuilder$Parser", "block", "()V"⟩, 9), (⟨"TreeBuilder$Parser", "stmts", "()I"⟩, 9), (⟨"TreeBuilder$Parser", "stmt", "()Z"⟩, 9), (⟨"TreeBuilder$Parser", "decl", "()V"⟩, 9), (⟨"TreeBuilder$Parser", "group", "(I)I"⟩, 9), (⟨"TreeBuilder$Parser", "spec", "(I)V"⟩, 9), (⟨"TreeBuilder$Parser", "constSpec", "()V"⟩, 9), (⟨"TreeBuilder$Parser", "names", "()V"⟩, 9), (⟨"TreeBuilder$Parser", "exprs", "()V"⟩, 9), (⟨"TreeBuilder$Parser", "restOfExprs", "(II)V"⟩, 9), (⟨"TreeBuilder$Parser", "typeSpec", "()V"⟩, 9)]
theorem lw_r3 : ∀ q ∈ lw_privs_3, lw_okq q := List.forall_mem_cons.mpr ⟨lw_p32, List.forall_mem_cons.mpr ⟨lw_p33, List.forall_mem_cons.mpr ⟨lw_p34, List.forall_mem_cons.mpr ⟨lw_p35, List.forall_mem_cons.mpr ⟨lw_p36, List.forall_mem_cons.mpr ⟨lw_p37, List.forall_mem_cons.mpr ⟨lw_p38, List.forall_mem_cons.mpr ⟨lw_p39, List.forall_mem_cons.mpr ⟨lw_p40, List.forall_mem_cons.mpr ⟨lw_p41, List.forall_mem_cons.mpr ⟨lw_p42, List.forall_mem_cons.mpr ⟨lw_p43, List.forall_mem_cons.mpr ⟨lw_p44, List.forall_mem_cons.mpr ⟨lw_p45, List.forall_mem_cons.mpr ⟨lw_p46, List.forall_mem_cons.mpr ⟨lw_p47, fun _ h => absurd h List.not_mem_nil⟩⟩⟩⟩⟩⟩⟩⟩⟩⟩⟩⟩⟩⟩⟩⟩
theorem lw_p48 : lw_okq (⟨"TreeBuilder$Parser", "varSpec", "()V"⟩, 9) := ⟨⟨by decide +kernel, by decide +kernel⟩, List.mem_of_getElem? (i := 115) (by decide +kernel), List.mem_of_getElem? (i := 394) (by decide +kernel), List.mem_of_getElem? (i := 395) (by decide +kernel)⟩
theorem lw_p49 : lw_okq (⟨"TreeBuilder$Parser", "ifStmt", "()V"⟩, 9) := ⟨⟨by decide +kernel, by decide +kernel⟩, List.mem_of_getElem? (i := 115) (by decide +kernel), List.mem_of_getElem? (i := 401) (by decide +kernel), List.mem_of_getElem? (i := 402) (by decide +kernel)⟩
theorem lw_p50 : lw_okq (⟨"TreeBuilder$Parser", "opening", "(II)I"⟩, 9) := ⟨⟨by decide +kernel, by decide +kernel⟩, List.mem_of_getElem? (i := 115) (by decide +kernel), List.mem_of_getElem? (i := 405) (by decide +kernel), List.mem_of_getElem? (i := 406) (by decide +kernel)⟩
theorem lw_p51 : lw_okq (⟨"TreeBuilder$Parser", "simple", "(I)I"⟩, 9) := ⟨⟨by decide +kernel, by decide +kernel⟩, List.mem_of_getElem? (i := 115) (by decide +kernel), List.mem_of_getElem? (i := 409) (by decide +kernel), List.mem_of_getElem? (i := 410) (by decide +kernel)⟩
theorem lw_p52 : lw_okq (⟨"TreeBuilder$Parser", "putGuard", "(I)V"⟩, 9) := ⟨⟨by decide +kernel, by decide +kernel⟩, List.mem_of_getElem? (i := 115) (by decide +kernel), List.mem_of_getElem? (i := 413) (by decide +kernel), List.mem_of_getElem? (i := 414) (by decide +kernel)⟩
theorem lw_p53 : lw_okq (⟨"TreeBuilder$Parser", "isNameFrom", "(I)Z"⟩, 9) := ⟨⟨by decide +kernel, by decide +kernel⟩, List.mem_of_getElem? (i := 115) (by decide +kernel), List.mem_of_getElem? (i := 417) (by decide +kernel), List.mem_of_getElem? (i := 418) (by decide +kernel)⟩
theorem lw_p54 : lw_okq (⟨"TreeBuilder$Parser", "assign", "(I)I"⟩, 9) := ⟨⟨by decide +kernel, by decide +kernel⟩, List.mem_of_getElem? (i := 115) (by decide +kernel), List.mem_of_getElem? (i := 421) (by decide +kernel), List.mem_of_getElem? (i := 422) (by decide +kernel)⟩
theorem lw_p55 : lw_okq (⟨"TreeBuilder$Parser", "define", "(II)I"⟩, 9) := ⟨⟨by decide +kernel, by decide +kernel⟩, List.mem_of_getElem? (i := 115) (by decide +kernel), List.mem_of_getElem? (i := 425) (by decide +kernel), List.mem_of_getElem? (i := 426) (by decide +kernel)⟩
theorem lw_p56 : lw_okq (⟨"TreeBuilder$Parser", "behindExpr", "(I)I"⟩, 9) := ⟨⟨by decide +kernel, by decide +kernel⟩, List.mem_of_getElem? (i := 115) (by decide +kernel), List.mem_of_getElem? (i := 429) (by decide +kernel), List.mem_of_getElem? (i := 430) (by decide +kernel)⟩
theorem lw_p57 : lw_okq (⟨"TreeBuilder$Parser", "elseBranch", "()V"⟩, 9) := ⟨⟨by decide +kernel, by decide +kernel⟩, List.mem_of_getElem? (i := 115) (by decide +kernel), List.mem_of_getElem? (i := 436) (by decide +kernel), List.mem_of_getElem? (i := 437) (by decide +kernel)⟩
theorem lw_p58 : lw_okq (⟨"TreeBuilder$Parser", "switchStmt", "()V"⟩, 9) := ⟨⟨by decide +kernel, by decide +kernel⟩, List.mem_of_getElem? (i := 115) (by decide +kernel), List.mem_of_getElem? (i := 440) (by decide +kernel), List.mem_of_getElem? (i := 441) (by decide +kernel)⟩
theorem lw_p59 : lw_okq (⟨"TreeBuilder$Parser", "tag", "()Z"⟩, 9) := ⟨⟨by decide +kernel, by decide +kernel⟩, List.mem_of_getElem? (i := 115) (by decide +kernel), List.mem_of_getElem? (i := 444) (by decide +kernel), List.mem_of_getElem? (i := 445) (by decide +kernel)⟩
theorem lw_p60 : lw_okq (⟨"TreeBuilder$Parser", "clauses", "(I)I"⟩, 9) := ⟨⟨by decide +kernel, by decide +kernel⟩, List.mem_of_getElem? (i := 115) (by decide +kernel), List.mem_of_getElem? (i := 448) (by decide +kernel), List.mem_of_getElem? (i := 449) (by decide +kernel)⟩
theorem lw_p61 : lw_okq (⟨"TreeBuilder$Parser", "caseClause", "(I)V"⟩, 9) := ⟨⟨by decide +kernel, by decide +kernel⟩, List.mem_of_getElem? (i := 115) (by decide +kernel), List.mem_of_getElem? (i := 452) (by decide +kernel), List.mem_of_getElem? (i := 453) (by decide +kernel)⟩
theorem lw_p62 : lw_okq (⟨"TreeBuilder$Parser", "types", "()V"⟩, 9) := ⟨⟨by decide +kernel, by decide +kernel⟩, List.mem_of_getElem? (i := 115) (by decide +kernel), List.mem_of_getElem? (i := 456) (by decide +kernel), List.mem_of_getElem? (i := 457) (by decide +kernel)⟩
theorem lw_p63 : lw_okq (⟨"TreeBuilder$Parser", "wholeSimple", "(I)V"⟩, 9) := ⟨⟨by decide +kernel, by decide +kernel⟩, List.mem_of_getElem? (i := 115) (by decide +kernel), List.mem_of_getElem? (i := 460) (by decide +kernel), List.mem_of_getElem? (i := 461) (by decide +kernel)⟩
def lw_privs_4 : List (MethodName × Nat) := [(⟨"TreeBuilder$Parser", "varSpec", "()V"⟩, 9), (⟨"TreeBuilder$Parser", "ifStmt", "()V"⟩, 9), (⟨"TreeBuilder$Parser", "opening", "(II)I"⟩, 9), (⟨"TreeBuilder$Parser", "simple", "(I)I"⟩, 9), (⟨"TreeBuilder$Parser", "putGuard", "(I)V"⟩, 9), (⟨"TreeBuilder$Parser", "isNameFrom", "(I)Z"⟩, 9), (⟨"TreeBuilder$Parser", "assign", "(I)I"⟩, 9), (⟨"TreeBuilder$Parser", "define", "(II)I"⟩, 9), (⟨"TreeBuilder$Parser", "behindExpr", "(I)I"⟩, 9), (⟨"TreeBuilder$Parser", "elseBranch", "()V"⟩, 9), (⟨"TreeBuilder$Parser", "switchStmt", "()V"⟩, 9), (⟨"TreeBuilder$Parser", "tag", "()Z"⟩, 9), (⟨"TreeBuilder$Parser", "clauses", "(I)I"⟩, 9), (⟨"TreeBuilder$Parser", "caseClause", "(I)V"⟩, 9), (⟨"TreeBuilder$Parser", "types", "()V"⟩, 9), (⟨"TreeBuilder$Parser", "wholeSimple", "(I)V"⟩, 9)]
theorem lw_r4 : ∀ q ∈ lw_privs_4, lw_okq q := List.forall_mem_cons.mpr ⟨lw_p48, List.forall_mem_cons.mpr ⟨lw_p49, List.forall_mem_cons.mpr ⟨lw_p50, List.forall_mem_cons.mpr ⟨lw_p51, List.forall_mem_cons.mpr ⟨lw_p52, List.forall_mem_cons.mpr ⟨lw_p53, List.forall_mem_cons.mpr ⟨lw_p54, List.forall_mem_cons.mpr ⟨lw_p55, List.forall_mem_cons.mpr ⟨lw_p56, List.forall_mem_cons.mpr ⟨lw_p57, List.forall_mem_cons.mpr ⟨lw_p58, List.forall_mem_cons.mpr ⟨lw_p59, List.forall_mem_cons.mpr ⟨lw_p60, List.forall_mem_cons.mpr ⟨lw_p61, List.forall_mem_cons.mpr ⟨lw_p62, List.forall_mem_cons.mpr ⟨lw_p63, fun _ h => absurd h List.not_mem_nil⟩⟩⟩⟩⟩⟩⟩⟩⟩⟩⟩⟩⟩⟩⟩⟩
theorem lw_p64 : lw_okq (⟨"TreeBuilder$Parser", "clauseBody", "()V"⟩, 9) := ⟨⟨by decide +kernel, by decide +kernel⟩, List.mem_of_getElem? (i := 115) (by decide +kernel), List.mem_of_getElem? (i := 464) (by decide +kernel), List.mem_of_getElem? (i := 465) (by decide +kernel)⟩
theorem lw_p65 : lw_okq (⟨"TreeBuilder$Parser", "defaultClause", "(I)V"⟩, 9) := ⟨⟨by decide +kernel, by decide +kernel⟩, List.mem_of_getElem? (i := 115) (by decide +kernel), List.mem_of_getElem? (i := 468) (by decide +kernel), List.mem_of_getElem? (i := 469) (by decide +kernel)⟩
theorem lw_p66 : lw_okq (⟨"TreeBuilder$Parser", "selectStmt", "()V"⟩, 9) := ⟨⟨by decide +kernel, by decide +kernel⟩, List.mem_of_getElem? (i := 115) (by decide +kernel), List.mem_of_getElem? (i := 472) (by decide +kernel), List.mem_of_getElem? (i := 473) (by decide +kernel)⟩
theorem lw_p67 : lw_okq (⟨"TreeBuilder$Parser", "forStmt", "()V"⟩, 9) := ⟨⟨by decide +kernel, by decide +kernel⟩, List.mem_of_getElem? (i := 115) (by decide +kernel), List.mem_of_getElem? (i := 476) (by decide +kernel), List.mem_of_getElem? (i := 477) (by decide +kernel)⟩
theorem lw_p68 : lw_okq (⟨"TreeBuilder$Parser", "forHead", "()I"⟩, 9) := ⟨⟨by decide +kernel, by decide +kernel⟩, List.mem_of_getElem? (i := 115) (by decide +kernel), List.mem_of_getElem? (i := 480) (by decide +kernel), List.mem_of_getElem? (i := 481) (by decide +kernel)⟩
theorem lw_p69 : lw_okq (⟨"TreeBuilder$Parser", "range", "(I)V"⟩, 9) := ⟨⟨by decide +kernel, by decide +kernel⟩, List.mem_of_getElem? (i := 115) (by decide +kernel), List.mem_of_getElem? (i := 484) (by decide +kernel), List.mem_of_getElem? (i := 485) (by decide +kernel)⟩
theorem lw_p70 : lw_okq (⟨"TreeBuilder$Parser", "restOfForHead", "()V"⟩, 9) := ⟨⟨by decide +kernel, by decide +kernel⟩, List.mem_of_getElem? (i := 115) (by decide +kernel), List.mem_of_getElem? (i := 488) (by decide +kernel), List.mem_of_getElem? (i := 489) (by decide +kernel)⟩
theorem lw_p71 : lw_okq (⟨"TreeBuilder$Parser", "wordStmt", "()Z"⟩, 9) := ⟨⟨by decide +kernel, by decide +kernel⟩, List.mem_of_getElem? (i := 115) (by decide +kernel), List.mem_of_getElem? (i := 492) (by decide +kernel), List.mem_of_getElem? (i := 493) (by decide +kernel)⟩
theorem lw_p72 : lw_okq (⟨"TreeBuilder$Parser", "startStmt", "(I)V"⟩, 9) := ⟨⟨by decide +kernel, by decide +kernel⟩, List.mem_of_getElem? (i := 115) (by decide +kernel), List.mem_of_getElem? (i := 496) (by decide +kernel), List.mem_of_getElem? (i := 497) (by decide +kernel)⟩
theorem lw_p73 : lw_okq (⟨"TreeBuilder$Parser", "returnStmt", "()V"⟩, 9) := ⟨⟨by decide +kernel, by decide +kernel⟩, List.mem_of_getElem? (i := 115) (by decide +kernel), List.mem_of_getElem? (i := 500) (by decide +kernel), List.mem_of_getElem? (i := 501) (by decide +kernel)⟩
theorem lw_p74 : lw_okq (⟨"TreeBuilder$Parser", "jumpStmt", "(I)V"⟩, 9) := ⟨⟨by decide +kernel, by decide +kernel⟩, List.mem_of_getElem? (i := 115) (by decide +kernel), List.mem_of_getElem? (i := 509) (by decide +kernel), List.mem_of_getElem? (i := 510) (by decide +kernel)⟩
theorem lw_p75 : lw_okq (⟨"TreeBuilder$Parser", "simpleStmt", "()Z"⟩, 9) := ⟨⟨by decide +kernel, by decide +kernel⟩, List.mem_of_getElem? (i := 115) (by decide +kernel), List.mem_of_getElem? (i := 513) (by decide +kernel), List.mem_of_getElem? (i := 514) (by decide +kernel)⟩
theorem lw_p76 : lw_okq (⟨"TreeBuilder$Parser", "labeledStmt", "()V"⟩, 9) := ⟨⟨by decide +kernel, by decide +kernel⟩, List.mem_of_getElem? (i := 115) (by decide +kernel), List.mem_of_getElem? (i := 517) (by decide +kernel), List.mem_of_getElem? (i := 518) (by decide +kernel)⟩
theorem lw_p77 : lw_okq (⟨"TreeBuilder$Parser", "countedArrayType", "()V"⟩, 9) := ⟨⟨by decide +kernel, by decide +kernel⟩, List.mem_of_getElem? (i := 115) (by decide +kernel), List.mem_of_getElem? (i := 521) (by decide +kernel), List.mem_of_getElem? (i := 522) (by decide +kernel)⟩
theorem lw_p78 : lw_okq (⟨"TreeBuilder$Parser", "behindOperand", "(Z)Z"⟩, 9) := ⟨⟨by decide +kernel, by decide +kernel⟩, List.mem_of_getElem? (i := 115) (by decide +kernel), List.mem_of_getElem? (i := 525) (by decide +kernel), List.mem_of_getElem? (i := 526) (by decide +kernel)⟩
theorem lw_p79 : lw_okq (⟨"TreeBuilder$Parser", "dot", "(Z)Z"⟩, 9) := ⟨⟨by decide +kernel, by decide +kernel⟩, List.mem_of_getElem? (i := 115) (by decide +kernel), List.mem_of_getElem? (i := 529) (by decide +kernel), List.mem_of_getElem? (i := 530) (by decide +kernel)⟩
def lw_privs_5 : List (MethodName × Nat) := [(⟨"TreeBuilder$Parser", "clauseBody", "()V"⟩, 9), (⟨"TreeBuilder$Parser", "defaultClause", "(I)V"⟩, 9), (⟨"TreeBuilder$Parser", "selectStmt", "()V"⟩, 9), (⟨"TreeBuilder$Parser", "forStmt", "()V"⟩, 9), (⟨"TreeBuilder$Parser", "forHead", "()I"⟩, 9), (⟨"TreeBuilder$Parser", "range", "(I)V"⟩, 9), (⟨"TreeBuilder$Parser", "restOfForHead", "()V"⟩, 9), (⟨"TreeBuilder$Parser", "wordStmt", "()Z"⟩, 9), (⟨"TreeBuilder$Parser", "startStmt", "(I)V"⟩, 9), (⟨"TreeBuilder$Parser", "returnStmt", "()V"⟩, 9), (⟨"TreeBuilder$Parser", "jumpStmt", "(I)V"⟩, 9), (⟨"TreeBuilder$Parser", "simpleStmt", "()Z"⟩, 9), (⟨"TreeBuilder$Parser", "labeledStmt", "()V"⟩, 9), (⟨"TreeBuilder$Parser", "countedArrayType", "()V"⟩, 9), (⟨"TreeBuilder$Parser", "behindOperand", "(Z)Z"⟩, 9), (⟨"TreeBuilder$Parser", "dot", "(Z)Z"⟩, 9)]
theorem lw_r5 : ∀ q ∈ lw_privs_5, lw_okq q := List.forall_mem_cons.mpr ⟨lw_p64, List.forall_mem_cons.mpr ⟨lw_p65, List.forall_mem_cons.mpr ⟨lw_p66, List.forall_mem_cons.mpr ⟨lw_p67, List.forall_mem_cons.mpr ⟨lw_p68, List.forall_mem_cons.mpr ⟨lw_p69, List.forall_mem_cons.mpr ⟨lw_p70, List.forall_mem_cons.mpr ⟨lw_p71, List.forall_mem_cons.mpr ⟨lw_p72, List.forall_mem_cons.mpr ⟨lw_p73, List.forall_mem_cons.mpr ⟨lw_p74, List.forall_mem_cons.mpr ⟨lw_p75, List.forall_mem_cons.mpr ⟨lw_p76, List.forall_mem_cons.mpr ⟨lw_p77, List.forall_mem_cons.mpr ⟨lw_p78, List.forall_mem_cons.mpr ⟨lw_p79, fun _ h => absurd h List.not_mem_nil⟩⟩⟩⟩⟩⟩⟩⟩⟩⟩⟩⟩⟩⟩⟩⟩
theorem lw_p80 : lw_okq (⟨"TreeBuilder$Parser", "index", "()V"⟩, 9) := ⟨⟨by decide +kernel, by decide +kernel⟩, List.mem_of_getElem? (i := 115) (by decide +kernel), List.mem_of_getElem? (i := 533) (by decide +kernel), List.mem_of_getElem? (i := 534) (by decide +kernel)⟩
theorem lw_p81 : lw_okq (⟨"TreeBuilder$Parser", "upperBounds", "()I"⟩, 9) := ⟨⟨by decide +kernel, by decide +kernel⟩, List.mem_of_getElem? (i := 115) (by decide +kernel), List.mem_of_getElem? (i := 537) (by decide +kernel), List.mem_of_getElem? (i := 538) (by decide +kernel)⟩
theorem lw_p82 : lw_okq (⟨"TreeBuilder$Parser", "call", "()V"⟩, 9) := ⟨⟨by decide +kernel, by decide +kernel⟩, List.mem_of_getElem? (i := 115) (by decide +kernel), List.mem_of_getElem? (i := 541) (by decide +kernel), List.mem_of_getElem? (i := 542) (by decide +kernel)⟩
theorem lw_p83 : lw_okq (⟨"TreeBuilder$Parser", "putWaiting", "(II)V"⟩, 9) := ⟨⟨by decide +kernel, by decide +kernel⟩, List.mem_of_getElem? (i := 115) (by decide +kernel), List.mem_of_getElem? (i := 548) (by decide +kernel), List.mem_of_getElem? (i := 549) (by decide +kernel)⟩
theorem lw_p84 : lw_okq (⟨"TreeBuilder$Parser", "await", "(I)V"⟩, 9) := ⟨⟨by decide +kernel, by decide +kernel⟩, List.mem_of_getElem? (i := 115) (by decide +kernel), List.mem_of_getElem? (i := 552) (by decide +kernel), List.mem_of_getElem? (i := 553) (by decide +kernel)⟩
theorem lw_p85 : lw_okq (⟨"TreeBuilder$Parser", "mapType", "()V"⟩, 9) := ⟨⟨by decide +kernel, by decide +kernel⟩, List.mem_of_getElem? (i := 115) (by decide +kernel), List.mem_of_getElem? (i := 556) (by decide +kernel), List.mem_of_getElem? (i := 557) (by decide +kernel)⟩
theorem lw_p86 : lw_okq (⟨"TreeBuilder$Parser", "chanType", "()V"⟩, 9) := ⟨⟨by decide +kernel, by decide +kernel⟩, List.mem_of_getElem? (i := 115) (by decide +kernel), List.mem_of_getElem? (i := 560) (by decide +kernel), List.mem_of_getElem? (i := 561) (by decide +kernel)⟩
theorem lw_p87 : lw_okq (⟨"TreeBuilder$Parser", "receiveChanType", "()V"⟩, 9) := ⟨⟨by decide +kernel, by decide +kernel⟩, List.mem_of_getElem? (i := 115) (by decide +kernel), List.mem_of_getElem? (i := 564) (by decide +kernel), List.mem_of_getElem? (i := 565) (by decide +kernel)⟩
theorem lw_p88 : lw_okq (⟨"TreeBuilder$Parser", "pointerType", "()V"⟩, 9) := ⟨⟨by decide +kernel, by decide +kernel⟩, List.mem_of_getElem? (i := 115) (by decide +kernel), List.mem_of_getElem? (i := 568) (by decide +kernel), List.mem_of_getElem? (i := 569) (by decide +kernel)⟩
theorem lw_p89 : lw_okq (⟨"TreeBuilder$Parser", "structType", "()V"⟩, 9) := ⟨⟨by decide +kernel, by decide +kernel⟩, List.mem_of_getElem? (i := 115) (by decide +kernel), List.mem_of_getElem? (i := 572) (by decide +kernel), List.mem_of_getElem? (i := 573) (by decide +kernel)⟩
theorem lw_p90 : lw_okq (⟨"TreeBuilder$Parser", "functionType", "()V"⟩, 9) := ⟨⟨by decide +kernel, by decide +kernel⟩, List.mem_of_getElem? (i := 115) (by decide +kernel), List.mem_of_getElem? (i := 576) (by decide +kernel), List.mem_of_getElem? (i := 577) (by decide +kernel)⟩
theorem lw_p91 : lw_okq (⟨"TreeBuilder$Parser", "interfaceType", "()V"⟩, 9) := ⟨⟨by decide +kernel, by decide +kernel⟩, List.mem_of_getElem? (i := 115) (by decide +kernel), List.mem_of_getElem? (i := 580) (by decide +kernel), List.mem_of_getElem? (i := 581) (by decide +kernel)⟩
theorem lw_p92 : lw_okq (⟨"TreeBuilder$Tree", "number", "()V"⟩, 8) := ⟨⟨by decide +kernel, by decide +kernel⟩, List.mem_of_getElem? (i := 37) (by decide +kernel), List.mem_of_getElem? (i := 587) (by decide +kernel), List.mem_of_getElem? (i := 588) (by decide +kernel)⟩
theorem lw_p93 : lw_okq (⟨"TreeBuilder$Tree", "numberChildren", "(I)V"⟩, 8) := ⟨⟨by decide +kernel, by decide +kernel⟩, List.mem_of_getElem? (i := 37) (by decide +kernel), List.mem_of_getElem? (i := 591) (by decide +kernel), List.mem_of_getElem? (i := 592) (by decide +kernel)⟩
theorem lw_p94 : lw_okq (⟨"TreeBuilder$Tree", "spanOf", "(I)I"⟩, 8) := ⟨⟨by decide +kernel, by decide +kernel⟩, List.mem_of_getElem? (i := 37) (by decide +kernel), List.mem_of_getElem? (i := 595) (by decide +kernel), List.mem_of_getElem? (i := 596) (by decide +kernel)⟩
theorem lw_p95 : lw_okq (⟨"TreeBuilder$Tree", "placeOf", "(I)I"⟩, 8) := ⟨⟨by decide +kernel, by decide +kernel⟩, List.mem_of_getElem? (i := 37) (by decide +kernel), List.mem_of_getElem? (i := 599) (by decide +kernel), List.mem_of_getElem? (i := 600) (by decide +kernel)⟩
def lw_privs_6 : List (MethodName × Nat) := [(⟨"TreeBuilder$Parser", "index", "()V"⟩, 9), (⟨"TreeBuilder$Parser", "upperBounds", "()I"⟩, 9), (⟨"TreeBuilder$Parser", "call", "()V"⟩, 9), (⟨"TreeBuilder$Parser", "putWaiting", "(II)V"⟩, 9), (⟨"TreeBuilder$Parser", "await", "(I)V"⟩, 9), (⟨"TreeBuilder$Parser", "mapType", "()V"⟩, 9), (⟨"TreeBuilder$Parser", "chanType", "()V"⟩, 9), (⟨"TreeBuilder$Parser", "receiveChanType", "()V"⟩, 9), (⟨"TreeBuilder$Parser", "pointerType", "()V"⟩, 9), (⟨"TreeBuilder$Parser", "structType", "()V"⟩, 9), (⟨"TreeBuilder$Parser", "functionType", "()V"⟩, 9), (⟨"TreeBuilder$Parser", "interfaceType", "()V"⟩, 9), (⟨"TreeBuilder$Tree", "number", "()V"⟩, 8), (⟨"TreeBuilder$Tree", "numberChildren", "(I)V"⟩, 8), (⟨"TreeBuilder$Tree", "spanOf", "(I)I"⟩, 8), (⟨"TreeBuilder$Tree", "placeOf", "(I)I"⟩, 8)]
theorem lw_r6 : ∀ q ∈ lw_privs_6, lw_okq q := List.forall_mem_cons.mpr ⟨lw_p80, List.forall_mem_cons.mpr ⟨lw_p81, List.forall_mem_cons.mpr ⟨lw_p82, List.forall_mem_cons.mpr ⟨lw_p83, List.forall_mem_cons.mpr ⟨lw_p84, List.forall_mem_cons.mpr ⟨lw_p85, List.forall_mem_cons.mpr ⟨lw_p86, List.forall_mem_cons.mpr ⟨lw_p87, List.forall_mem_cons.mpr ⟨lw_p88, List.forall_mem_cons.mpr ⟨lw_p89, List.forall_mem_cons.mpr ⟨lw_p90, List.forall_mem_cons.mpr ⟨lw_p91, List.forall_mem_cons.mpr ⟨lw_p92, List.forall_mem_cons.mpr ⟨lw_p93, List.forall_mem_cons.mpr ⟨lw_p94, List.forall_mem_cons.mpr ⟨lw_p95, fun _ h => absurd h List.not_mem_nil⟩⟩⟩⟩⟩⟩⟩⟩⟩⟩⟩⟩⟩⟩⟩⟩
theorem lw_p96 : lw_okq (⟨"TreeBuilder$Tree", "read", "([II)I"⟩, 8) := ⟨⟨by decide +kernel, by decide +kernel⟩, List.mem_of_getElem? (i := 37) (by decide +kernel), List.mem_of_getElem? (i := 603) (by decide +kernel), List.mem_of_getElem? (i := 604) (by decide +kernel)⟩
theorem lw_p97 : lw_okq (⟨"TreeBuilder$Tree", "childrenOf", "(I)I"⟩, 8) := ⟨⟨by decide +kernel, by decide +kernel⟩, List.mem_of_getElem? (i := 37) (by decide +kernel), List.mem_of_getElem? (i := 607) (by decide +kernel), List.mem_of_getElem? (i := 608) (by decide +kernel)⟩
theorem lw_p98 : lw_okq (⟨"TreeBuilder$Tree", "has", "(I)Z"⟩, 8) := ⟨⟨by decide +kernel, by decide +kernel⟩, List.mem_of_getElem? (i := 37) (by decide +kernel), List.mem_of_getElem? (i := 627) (by decide +kernel), List.mem_of_getElem? (i := 628) (by decide +kernel)⟩
theorem lw_p99 : lw_okq (⟨"TreeBuilder$Tree", "whatOf", "(I)I"⟩, 8) := ⟨⟨by decide +kernel, by decide +kernel⟩, List.mem_of_getElem? (i := 37) (by decide +kernel), List.mem_of_getElem? (i := 647) (by decide +kernel), List.mem_of_getElem? (i := 648) (by decide +kernel)⟩
theorem lw_p100 : lw_okq (⟨"TreeBuilder$Tree", "tokenOf", "(I)I"⟩, 8) := ⟨⟨by decide +kernel, by decide +kernel⟩, List.mem_of_getElem? (i := 37) (by decide +kernel), List.mem_of_getElem? (i := 651) (by decide +kernel), List.mem_of_getElem? (i := 652) (by decide +kernel)⟩
theorem lw_p101 : lw_okq (⟨"TreeBuilder$Tree", "parentOf", "(I)I"⟩, 8) := ⟨⟨by decide +kernel, by decide +kernel⟩, List.mem_of_getElem? (i := 37) (by decide +kernel), List.mem_of_getElem? (i := 657) (by decide +kernel), List.mem_of_getElem? (i := 658) (by decide +kernel)⟩
theorem lw_p102 : lw_okq (⟨"TreeBuilderModel", "child", "(III)I"⟩, 26) := ⟨⟨by decide +kernel, by decide +kernel⟩, List.mem_of_getElem? (i := 671) (by decide +kernel), List.mem_of_getElem? (i := 782) (by decide +kernel), List.mem_of_getElem? (i := 783) (by decide +kernel)⟩
theorem lw_p103 : lw_okq (⟨"TreeBuilderModel", "pass", "(I)V"⟩, 26) := ⟨⟨by decide +kernel, by decide +kernel⟩, List.mem_of_getElem? (i := 671) (by decide +kernel), List.mem_of_getElem? (i := 786) (by decide +kernel), List.mem_of_getElem? (i := 787) (by decide +kernel)⟩
theorem lw_p104 : lw_okq (⟨"TreeBuilderModel", "look", "()I"⟩, 26) := ⟨⟨by decide +kernel, by decide +kernel⟩, List.mem_of_getElem? (i := 671) (by decide +kernel), List.mem_of_getElem? (i := 790) (by decide +kernel), List.mem_of_getElem? (i := 791) (by decide +kernel)⟩
theorem lw_p105 : lw_okq (⟨"TreeBuilderModel", "error", "()V"⟩, 26) := ⟨⟨by decide +kernel, by decide +kernel⟩, List.mem_of_getElem? (i := 671) (by decide +kernel), List.mem_of_getElem? (i := 794) (by decide +kernel), List.mem_of_getElem? (i := 795) (by decide +kernel)⟩
theorem lw_p106 : lw_okq (⟨"TreeBuilderModel", "name", "(I)I"⟩, 26) := ⟨⟨by decide +kernel, by decide +kernel⟩, List.mem_of_getElem? (i := 671) (by decide +kernel), List.mem_of_getElem? (i := 798) (by decide +kernel), List.mem_of_getElem? (i := 799) (by decide +kernel)⟩
theorem lw_p107 : lw_okq (⟨"TreeBuilderModel", "push", "(III)V"⟩, 26) := ⟨⟨by decide +kernel, by decide +kernel⟩, List.mem_of_getElem? (i := 671) (by decide +kernel), List.mem_of_getElem? (i := 802) (by decide +kernel), List.mem_of_getElem? (i := 803) (by decide +kernel)⟩
theorem lw_p108 : lw_okq (⟨"TreeBuilderModel", "step", "(III)V"⟩, 26) := ⟨⟨by decide +kernel, by decide +kernel⟩, List.mem_of_getElem? (i := 671) (by decide +kernel), List.mem_of_getElem? (i := 806) (by decide +kernel), List.mem_of_getElem? (i := 807) (by decide +kernel)⟩
theorem lw_p109 : lw_okq (⟨"TreeBuilderModel", "binary", "(II)V"⟩, 26) := ⟨⟨by decide +kernel, by decide +kernel⟩, List.mem_of_getElem? (i := 671) (by decide +kernel), List.mem_of_getElem? (i := 810) (by decide +kernel), List.mem_of_getElem? (i := 811) (by decide +kernel)⟩
theorem lw_p110 : lw_okq (⟨"TreeBuilderModel", "wrap", "(III)I"⟩, 26) := ⟨⟨by decide +kernel, by decide +kernel⟩, List.mem_of_getElem? (i := 671) (by decide +kernel), List.mem_of_getElem? (i := 817) (by decide +kernel), List.mem_of_getElem? (i := 818) (by decide +kernel)⟩
theorem lw_p111 : lw_okq (⟨"TreeBuilderModel", "expression", "(III)V"⟩, 26) := ⟨⟨by decide +kernel, by decide +kernel⟩, List.mem_of_getElem? (i := 671) (by decide +kernel), List.mem_of_getElem? (i := 821) (by decide +kernel), List.mem_of_getElem? (i := 822) (by decide +kernel)⟩
def lw_privs_7 : List (MethodName × Nat) := [(⟨"TreeBuilder$Tree", "read", "([II)I"⟩, 8), (⟨"TreeBuilder$Tree", "childrenOf", "(I)I"⟩, 8), (⟨"TreeBuilder$Tree", "has", "(I)Z"⟩, 8), (⟨"TreeBuilder$Tree", "whatOf", "(I)I"⟩, 8), (⟨"TreeBuilder$Tree", "tokenOf", "(I)I"⟩, 8), (⟨"TreeBuilder$Tree", "parentOf", "(I)I"⟩, 8), (⟨"TreeBuilderModel", "child", "(III)I"⟩, 26), (⟨"TreeBuilderModel", "pass", "(I)V"⟩, 26), (⟨"TreeBuilderModel", "look", "()I"⟩, 26), (⟨"TreeBuilderModel", "error", "()V"⟩, 26), (⟨"TreeBuilderModel", "name", "(I)I"⟩, 26), (⟨"TreeBuilderModel", "push", "(III)V"⟩, 26), (⟨"TreeBuilderModel", "step", "(III)V"⟩, 26), (⟨"TreeBuilderModel", "binary", "(II)V"⟩, 26), (⟨"TreeBuilderModel", "wrap", "(III)I"⟩, 26), (⟨"TreeBuilderModel", "expression", "(III)V"⟩, 26)]
theorem lw_r7 : ∀ q ∈ lw_privs_7, lw_okq q := List.forall_mem_cons.mpr ⟨lw_p96, List.forall_mem_cons.mpr ⟨lw_p97, List.forall_mem_cons.mpr ⟨lw_p98, List.forall_mem_cons.mpr ⟨lw_p99, List.forall_mem_cons.mpr ⟨lw_p100, List.forall_mem_cons.mpr ⟨lw_p101, List.forall_mem_cons.mpr ⟨lw_p102, List.forall_mem_cons.mpr ⟨lw_p103, List.forall_mem_cons.mpr ⟨lw_p104, List.forall_mem_cons.mpr ⟨lw_p105, List.forall_mem_cons.mpr ⟨lw_p106, List.forall_mem_cons.mpr ⟨lw_p107, List.forall_mem_cons.mpr ⟨lw_p108, List.forall_mem_cons.mpr ⟨lw_p109, List.forall_mem_cons.mpr ⟨lw_p110, List.forall_mem_cons.mpr ⟨lw_p111, fun _ h => absurd h List.not_mem_nil⟩⟩⟩⟩⟩⟩⟩⟩⟩⟩⟩⟩⟩⟩⟩⟩
theorem lw_p112 : lw_okq (⟨"TreeBuilderModel", "unary", "(II)V"⟩, 26) := ⟨⟨by decide +kernel, by decide +kernel⟩, List.mem_of_getElem? (i := 671) (by decide +kernel), List.mem_of_getElem? (i := 825) (by decide +kernel), List.mem_of_getElem? (i := 826) (by decide +kernel)⟩
theorem lw_p113 : lw_okq (⟨"TreeBuilderModel", "ahead", "()I"⟩, 26) := ⟨⟨by decide +kernel, by decide +kernel⟩, List.mem_of_getElem? (i := 671) (by decide +kernel), List.mem_of_getElem? (i := 832) (by decide +kernel), List.mem_of_getElem? (i := 833) (by decide +kernel)⟩
theorem lw_p114 : lw_okq (⟨"TreeBuilderModel", "more", "()V"⟩, 26) := ⟨⟨by decide +kernel, by decide +kernel⟩, List.mem_of_getElem? (i := 671) (by decide +kernel), List.mem_of_getElem? (i := 836) (by decide +kernel), List.mem_of_getElem? (i := 837) (by decide +kernel)⟩
theorem lw_p115 : lw_okq (⟨"TreeBuilderModel", "operand", "(II)V"⟩, 26) := ⟨⟨by decide +kernel, by decide +kernel⟩, List.mem_of_getElem? (i := 671) (by decide +kernel), List.mem_of_getElem? (i := 840) (by decide +kernel), List.mem_of_getElem? (i := 841) (by decide +kernel)⟩
theorem lw_p116 : lw_okq (⟨"TreeBuilderModel", "postfix", "(II)V"⟩, 26) := ⟨⟨by decide +kernel, by decide +kernel⟩, List.mem_of_getElem? (i := 671) (by decide +kernel), List.mem_of_getElem? (i := 844) (by decide +kernel), List.mem_of_getElem? (i := 845) (by decide +kernel)⟩
theorem lw_p117 : lw_okq (⟨"TreeBuilderModel", "dot", "(II)V"⟩, 26) := ⟨⟨by decide +kernel, by decide +kernel⟩, List.mem_of_getElem? (i := 671) (by decide +kernel), List.mem_of_getElem? (i := 848) (by decide +kernel), List.mem_of_getElem? (i := 849) (by decide +kernel)⟩
theorem lw_p118 : lw_okq (⟨"TreeBuilderModel", "slice", "(I)V"⟩, 26) := ⟨⟨by decide +kernel, by decide +kernel⟩, List.mem_of_getElem? (i := 671) (by decide +kernel), List.mem_of_getElem? (i := 855) (by decide +kernel), List.mem_of_getElem? (i := 856) (by decide +kernel)⟩
theorem lw_p119 : lw_okq (⟨"TreeBuilderModel", "value", "(III)V"⟩, 26) := ⟨⟨by decide +kernel, by decide +kernel⟩, List.mem_of_getElem? (i := 671) (by decide +kernel), List.mem_of_getElem? (i := 859) (by decide +kernel), List.mem_of_getElem? (i := 860) (by decide +kernel)⟩
theorem lw_p120 : lw_okq (⟨"TreeBuilderModel", "literal", "(II)V"⟩, 26) := ⟨⟨by decide +kernel, by decide +kernel⟩, List.mem_of_getElem? (i := 671) (by decide +kernel), List.mem_of_getElem? (i := 863) (by decide +kernel), List.mem_of_getElem? (i := 864) (by decide +kernel)⟩
theorem lw_p121 : lw_okq (⟨"TreeBuilderModel", "args", "(I)V"⟩, 26) := ⟨⟨by decide +kernel, by decide +kernel⟩, List.mem_of_getElem? (i := 671) (by decide +kernel), List.mem_of_getElem? (i := 867) (by decide +kernel), List.mem_of_getElem? (i := 868) (by decide +kernel)⟩
theorem lw_p122 : lw_okq (⟨"TreeBuilderModel", "argsMore", "(I)V"⟩, 26) := ⟨⟨by decide +kernel, by decide +kernel⟩, List.mem_of_getElem? (i := 671) (by decide +kernel), List.mem_of_getElem? (i := 871) (by decide +kernel), List.mem_of_getElem? (i := 872) (by decide +kernel)⟩
theorem lw_p123 : lw_okq (⟨"TreeBuilderModel", "index", "(I)V"⟩, 26) := ⟨⟨by decide +kernel, by decide +kernel⟩, List.mem_of_getElem? (i := 671) (by decide +kernel), List.mem_of_getElem? (i := 875) (by decide +kernel), List.mem_of_getElem? (i := 876) (by decide +kernel)⟩
theorem lw_p124 : lw_okq (⟨"TreeBuilderModel", "sliced", "(I)V"⟩, 26) := ⟨⟨by decide +kernel, by decide +kernel⟩, List.mem_of_getElem? (i := 671) (by decide +kernel), List.mem_of_getElem? (i := 879) (by decide +kernel), List.mem_of_getElem? (i := 880) (by decide +kernel)⟩
theorem lw_p125 : lw_okq (⟨"TreeBuilderModel", "sliceMore", "(I)V"⟩, 26) := ⟨⟨by decide +kernel, by decide +kernel⟩, List.mem_of_getElem? (i := 671) (by decide +kernel), List.mem_of_getElem? (i := 883) (by decide +kernel), List.mem_of_getElem? (i := 884) (by decide +kernel)⟩
theorem lw_p126 : lw_okq (⟨"TreeBuilderModel", "elements", "(I)V"⟩, 26) := ⟨⟨by decide +kernel, by decide +kernel⟩, List.mem_of_getElem? (i := 671) (by decide +kernel), List.mem_of_getElem? (i := 887) (by decide +kernel), List.mem_of_getElem? (i := 888) (by decide +kernel)⟩
theorem lw_p127 : lw_okq (⟨"TreeBuilderModel", "elementsMore", "(I)V"⟩, 26) := ⟨⟨by decide +kernel, by decide +kernel⟩, List.mem_of_getElem? (i := 671) (by decide +kernel), List.mem_of_getElem? (i := 891) (by decide +kernel), List.mem_of_getElem? (i := 892) (by decide +kernel)⟩
def lw_privs_8 : List (MethodName × Nat) := [(⟨"TreeBuilderModel", "unary", "(II)V"⟩, 26), (⟨"TreeBuilderModel", "ahead", "()I"⟩, 26), (⟨"TreeBuilderModel", "more", "()V"⟩, 26), (⟨"TreeBuilderModel", "operand", "(II)V"⟩, 26), (⟨"TreeBuilderModel", "postfix", "(II)V"⟩, 26), (⟨"TreeBuilderModel", "dot", "(II)V"⟩, 26), (⟨"TreeBuilderModel", "slice", "(I)V"⟩, 26), (⟨"TreeBuilderModel", "value", "(III)V"⟩, 26), (⟨"TreeBuilderModel", "literal", "(II)V"⟩, 26), (⟨"TreeBuilderModel", "args", "(I)V"⟩, 26), (⟨"TreeBuilderModel", "argsMore", "(I)V"⟩, 26), (⟨"TreeBuilderModel", "index", "(I)V"⟩, 26), (⟨"TreeBuilderModel", "sliced", "(I)V"⟩, 26), (⟨"TreeBuilderModel", "sliceMore", "(I)V"⟩, 26), (⟨"TreeBuilderModel", "elements", "(I)V"⟩, 26), (⟨"TreeBuilderModel", "elementsMore", "(I)V"⟩, 26)]
theorem lw_r8 : ∀ q ∈ lw_privs_8, lw_okq q := List.forall_mem_cons.mpr ⟨lw_p112, List.forall_mem_cons.mpr ⟨lw_p113, List.forall_mem_cons.mpr ⟨lw_p114, List.forall_mem_cons.mpr ⟨lw_p115, List.forall_mem_cons.mpr ⟨lw_p116, List.forall_mem_cons.mpr ⟨lw_p117, List.forall_mem_cons.mpr ⟨lw_p118, List.forall_mem_cons.mpr ⟨lw_p119, List.forall_mem_cons.mpr ⟨lw_p120, List.forall_mem_cons.mpr ⟨lw_p121, List.forall_mem_cons.mpr ⟨lw_p122, List.forall_mem_cons.mpr ⟨lw_p123, List.forall_mem_cons.mpr ⟨lw_p124, List.forall_mem_cons.mpr ⟨lw_p125, List.forall_mem_cons.mpr ⟨lw_p126, List.forall_mem_cons.mpr ⟨lw_p127, fun _ h => absurd h List.not_mem_nil⟩⟩⟩⟩⟩⟩⟩⟩⟩⟩⟩⟩⟩⟩⟩⟩
theorem lw_p128 : lw_okq (⟨"TreeBuilderModel", "keyed", "(I)V"⟩, 26) := ⟨⟨by decide +kernel, by decide +kernel⟩, List.mem_of_getElem? (i := 671) (by decide +kernel), List.mem_of_getElem? (i := 895) (by decide +kernel), List.mem_of_getElem? (i := 896) (by decide +kernel)⟩
theorem lw_p129 : lw_okq (⟨"TreeBuilderModel", "value", "(I)V"⟩, 26) := ⟨⟨by decide +kernel, by decide +kernel⟩, List.mem_of_getElem? (i := 671) (by decide +kernel), List.mem_of_getElem? (i := 899) (by decide +kernel), List.mem_of_getElem? (i := 900) (by decide +kernel)⟩
theorem lw_p130 : lw_okq (⟨"TreeBuilderModel", "typing", "(III)V"⟩, 26) := ⟨⟨by decide +kernel, by decide +kernel⟩, List.mem_of_getElem? (i := 671) (by decide +kernel), List.mem_of_getElem? (i := 903) (by decide +kernel), List.mem_of_getElem? (i := 904) (by decide +kernel)⟩
theorem lw_p131 : lw_okq (⟨"TreeBuilderModel", "type", "(II)V"⟩, 26) := ⟨⟨by decide +kernel, by decide +kernel⟩, List.mem_of_getElem? (i := 671) (by decide +kernel), List.mem_of_getElem? (i := 907) (by decide +kernel), List.mem_of_getElem? (i := 908) (by decide +kernel)⟩
theorem lw_p132 : lw_okq (⟨"TreeBuilderModel", "array", "(II)V"⟩, 26) := ⟨⟨by decide +kernel, by decide +kernel⟩, List.mem_of_getElem? (i := 671) (by decide +kernel), List.mem_of_getElem? (i := 914) (by decide +kernel), List.mem_of_getElem? (i := 915) (by decide +kernel)⟩
theorem lw_p133 : lw_okq (⟨"TreeBuilderModel", "functionTail", "(I)V"⟩, 26) := ⟨⟨by decide +kernel, by decide +kernel⟩, List.mem_of_getElem? (i := 671) (by decide +kernel), List.mem_of_getElem? (i := 918) (by decide +kernel), List.mem_of_getElem? (i := 919) (by decide +kernel)⟩
theorem lw_p134 : lw_okq (⟨"TreeBuilderModel", "block", "(I)V"⟩, 26) := ⟨⟨by decide +kernel, by decide +kernel⟩, List.mem_of_getElem? (i := 671) (by decide +kernel), List.mem_of_getElem? (i := 922) (by decide +kernel), List.mem_of_getElem? (i := 923) (by decide +kernel)⟩
theorem lw_p135 : lw_okq (⟨"TreeBuilderModel", "signature", "(I)V"⟩, 26) := ⟨⟨by decide +kernel, by decide +kernel⟩, List.mem_of_getElem? (i := 671) (by decide +kernel), List.mem_of_getElem? (i := 926) (by decide +kernel), List.mem_of_getElem? (i := 927) (by decide +kernel)⟩
theorem lw_p136 : lw_okq (⟨"TreeBuilderModel", "result", "(I)V"⟩, 26) := ⟨⟨by decide +kernel, by decide +kernel⟩, List.mem_of_getElem? (i := 671) (by decide +kernel), List.mem_of_getElem? (i := 930) (by decide +kernel), List.mem_of_getElem? (i := 931) (by decide +kernel)⟩
theorem lw_p137 : lw_okq (⟨"TreeBuilderModel", "params", "(I)V"⟩, 26) := ⟨⟨by decide +kernel, by decide +kernel⟩, List.mem_of_getElem? (i := 671) (by decide +kernel), List.mem_of_getElem? (i := 934) (by decide +kernel), List.mem_of_getElem? (i := 935) (by decide +kernel)⟩
theorem lw_p138 : lw_okq (⟨"TreeBuilderModel", "param", "(I)V"⟩, 26) := ⟨⟨by decide +kernel, by decide +kernel⟩, List.mem_of_getElem? (i := 671) (by decide +kernel), List.mem_of_getElem? (i := 938) (by decide +kernel), List.mem_of_getElem? (i := 939) (by decide +kernel)⟩
theorem lw_p139 : lw_okq (⟨"TreeBuilderModel", "paramMore", "(I)V"⟩, 26) := ⟨⟨by decide +kernel, by decide +kernel⟩, List.mem_of_getElem? (i := 671) (by decide +kernel), List.mem_of_getElem? (i := 942) (by decide +kernel), List.mem_of_getElem? (i := 943) (by decide +kernel)⟩
theorem lw_p140 : lw_okq (⟨"TreeBuilderModel", "fields", "(I)V"⟩, 26) := ⟨⟨by decide +kernel, by decide +kernel⟩, List.mem_of_getElem? (i := 671) (by decide +kernel), List.mem_of_getElem? (i := 946) (by decide +kernel), List.mem_of_getElem? (i := 947) (by decide +kernel)⟩
theorem lw_p141 : lw_okq (⟨"TreeBuilderModel", "fieldsMore", "(II)V"⟩, 26) := ⟨⟨by decide +kernel, by decide +kernel⟩, List.mem_of_getElem? (i := 671) (by decide +kernel), List.mem_of_getElem? (i := 950) (by decide +kernel), List.mem_of_getElem? (i := 951) (by decide +kernel)⟩
theorem lw_p142 : lw_okq (⟨"TreeBuilderModel", "methods", "(I)V"⟩, 26) := ⟨⟨by decide +kernel, by decide +kernel⟩, List.mem_of_getElem? (i := 671) (by decide +kernel), List.mem_of_getElem? (i := 954) (by decide +kernel), List.mem_of_getElem? (i := 955) (by decide +kernel)⟩
theorem lw_p143 : lw_okq (⟨"TreeBuilderModel", "declaring", "(III)V"⟩, 26) := ⟨⟨by decide +kernel, by decide +kernel⟩, List.mem_of_getElem? (i := 671) (by decide +kernel), List.mem_of_getElem? (i := 958) (by decide +kernel), List.mem_of_getElem? (i := 959) (by decide +kernel)⟩
def lw_privs_9 : List (MethodName × Nat) := [(⟨"TreeBuilderModel", "keyed", "(I)V"⟩, 26), (⟨"TreeBuilderModel", "value", "(I)V"⟩, 26), (⟨"TreeBuilderModel", "typing", "(III)V"⟩, 26), (⟨"TreeBuilderModel", "type", "(II)V"⟩, 26), (⟨"TreeBuilderModel", "array", "(II)V"⟩, 26), (⟨"TreeBuilderModel", "functionTail", "(I)V"⟩, 26), (⟨"TreeBuilderModel", "block", "(I)V"⟩, 26), (⟨"TreeBuilderModel", "signature", "(I)V"⟩, 26), (⟨"TreeBuilderModel", "result", "(I)V"⟩, 26), (⟨"TreeBuilderModel", "params", "(I)V"⟩, 26), (⟨"TreeBuilderModel", "param", "(I)V"⟩, 26), (⟨"TreeBuilderModel", "paramMore", "(I)V"⟩, 26), (⟨"TreeBuilderModel", "fields", "(I)V"⟩, 26), (⟨"TreeBuilderModel", "fieldsMore", "(II)V"⟩, 26), (⟨"TreeBuilderModel", "methods", "(I)V"⟩, 26), (⟨"TreeBuilderModel", "declaring", "(III)V"⟩, 26)]
theorem lw_r9 : ∀ q ∈ lw_privs_9, lw_okq q := List.forall_mem_cons.mpr ⟨lw_p128, List.forall_mem_cons.mpr ⟨lw_p129, List.forall_mem_cons.mpr ⟨lw_p130, List.forall_mem_cons.mpr ⟨lw_p131, List.forall_mem_cons.mpr ⟨lw_p132, List.forall_mem_cons.mpr ⟨lw_p133, List.forall_mem_cons.mpr ⟨lw_p134, List.forall_mem_cons.mpr ⟨lw_p135, List.forall_mem_cons.mpr ⟨lw_p136, List.forall_mem_cons.mpr ⟨lw_p137, List.forall_mem_cons.mpr ⟨lw_p138, List.forall_mem_cons.mpr ⟨lw_p139, List.forall_mem_cons.mpr ⟨lw_p140, List.forall_mem_cons.mpr ⟨lw_p141, List.forall_mem_cons.mpr ⟨lw_p142, List.forall_mem_cons.mpr ⟨lw_p143, fun _ h => absurd h List.not_mem_nil⟩⟩⟩⟩⟩⟩⟩⟩⟩⟩⟩⟩⟩⟩⟩⟩
theorem lw_p144 : lw_okq (⟨"TreeBuilderModel", "names", "(I)V"⟩, 26) := ⟨⟨by decide +kernel, by decide +kernel⟩, List.mem_of_getElem? (i := 671) (by decide +kernel), List.mem_of_getElem? (i := 962) (by decide +kernel), List.mem_of_getElem? (i := 963) (by decide +kernel)⟩
theorem lw_p145 : lw_okq (⟨"TreeBuilderModel", "namesMore", "(I)V"⟩, 26) := ⟨⟨by decide +kernel, by decide +kernel⟩, List.mem_of_getElem? (i := 671) (by decide +kernel), List.mem_of_getElem? (i := 966) (by decide +kernel), List.mem_of_getElem? (i := 967) (by decide +kernel)⟩
theorem lw_p146 : lw_okq (⟨"TreeBuilderModel", "exprsMore", "(II)V"⟩, 26) := ⟨⟨by decide +kernel, by decide +kernel⟩, List.mem_of_getElem? (i := 671) (by decide +kernel), List.mem_of_getElem? (i := 970) (by decide +kernel), List.mem_of_getElem? (i := 971) (by decide +kernel)⟩
theorem lw_p147 : lw_okq (⟨"TreeBuilderModel", "spec", "(II)V"⟩, 26) := ⟨⟨by decide +kernel, by decide +kernel⟩, List.mem_of_getElem? (i := 671) (by decide +kernel), List.mem_of_getElem? (i := 974) (by decide +kernel), List.mem_of_getElem? (i := 975) (by decide +kernel)⟩
theorem lw_p148 : lw_okq (⟨"TreeBuilderModel", "specs", "(II)V"⟩, 26) := ⟨⟨by decide +kernel, by decide +kernel⟩, List.mem_of_getElem? (i := 671) (by decide +kernel), List.mem_of_getElem? (i := 978) (by decide +kernel), List.mem_of_getElem? (i := 979) (by decide +kernel)⟩
theorem lw_p149 : lw_okq (⟨"TreeBuilderModel", "specsMore", "(II)V"⟩, 26) := ⟨⟨by decide +kernel, by decide +kernel⟩, List.mem_of_getElem? (i := 671) (by decide +kernel), List.mem_of_getElem? (i := 982) (by decide +kernel), List.mem_of_getElem? (i := 983) (by decide +kernel)⟩
theorem lw_p150 : lw_okq (⟨"TreeBuilderModel", "constRest", "(I)V"⟩, 26) := ⟨⟨by decide +kernel, by decide +kernel⟩, List.mem_of_getElem? (i := 671) (by decide +kernel), List.mem_of_getElem? (i := 986) (by decide +kernel), List.mem_of_getElem? (i := 987) (by decide +kernel)⟩
theorem lw_p151 : lw_okq (⟨"TreeBuilderModel", "valued", "(II)V"⟩, 26) := ⟨⟨by decide +kernel, by decide +kernel⟩, List.mem_of_getElem? (i := 671) (by decide +kernel), List.mem_of_getElem? (i := 990) (by decide +kernel), List.mem_of_getElem? (i := 991) (by decide +kernel)⟩
theorem lw_p152 : lw_okq (⟨"TreeBuilderModel", "exprs", "(II)V"⟩, 26) := ⟨⟨by decide +kernel, by decide +kernel⟩, List.mem_of_getElem? (i := 671) (by decide +kernel), List.mem_of_getElem? (i := 994) (by decide +kernel), List.mem_of_getElem? (i := 995) (by decide +kernel)⟩
theorem lw_p153 : lw_okq (⟨"TreeBuilderModel", "varRest", "(I)V"⟩, 26) := ⟨⟨by decide +kernel, by decide +kernel⟩, List.mem_of_getElem? (i := 671) (by decide +kernel), List.mem_of_getElem? (i := 998) (by decide +kernel), List.mem_of_getElem? (i := 999) (by decide +kernel)⟩
theorem lw_p154 : lw_okq (⟨"TreeBuilderModel", "statements", "(I)V"⟩, 26) := ⟨⟨by decide +kernel, by decide +kernel⟩, List.mem_of_getElem? (i := 671) (by decide +kernel), List.mem_of_getElem? (i := 1002) (by decide +kernel), List.mem_of_getElem? (i := 1003) (by decide +kernel)⟩
theorem lw_p155 : lw_okq (⟨"TreeBuilderModel", "statement", "(I)V"⟩, 26) := ⟨⟨by decide +kernel, by decide +kernel⟩, List.mem_of_getElem? (i := 671) (by decide +kernel), List.mem_of_getElem? (i := 1012) (by decide +kernel), List.mem_of_getElem? (i := 1013) (by decide +kernel)⟩
theorem lw_p156 : lw_okq (⟨"TreeBuilderModel", "declaration", "(I)V"⟩, 26) := ⟨⟨by decide +kernel, by decide +kernel⟩, List.mem_of_getElem? (i := 671) (by decide +kernel), List.mem_of_getElem? (i := 1016) (by decide +kernel), List.mem_of_getElem? (i := 1017) (by decide +kernel)⟩
theorem lw_p157 : lw_okq (⟨"TreeBuilderModel", "ifs", "(I)V"⟩, 26) := ⟨⟨by decide +kernel, by decide +kernel⟩, List.mem_of_getElem? (i := 671) (by decide +kernel), List.mem_of_getElem? (i := 1020) (by decide +kernel), List.mem_of_getElem? (i := 1021) (by decide +kernel)⟩
theorem lw_p158 : lw_okq (⟨"TreeBuilderModel", "loop", "(I)V"⟩, 26) := ⟨⟨by decide +kernel, by decide +kernel⟩, List.mem_of_getElem? (i := 671) (by decide +kernel), List.mem_of_getElem? (i := 1024) (by decide +kernel), List.mem_of_getElem? (i := 1025) (by decide +kernel)⟩
theorem lw_p159 : lw_okq (⟨"TreeBuilderModel", "condition", "(I)V"⟩, 26) := ⟨⟨by decide +kernel, by decide +kernel⟩, List.mem_of_getElem? (i := 671) (by decide +kernel), List.mem_of_getElem? (i := 1028) (by decide +kernel), List.mem_of_getElem? (i := 1029) (by decide +kernel)⟩
def lw_privs_10 : List (MethodName × Nat) := [(⟨"TreeBuilderModel", "names", "(I)V"⟩, 26), (⟨"TreeBuilderModel", "namesMore", "(I)V"⟩, 26), (⟨"TreeBuilderModel", "exprsMore", "(II)V"⟩, 26), (⟨"TreeBuilderModel", "spec", "(II)V"⟩, 26), (⟨"TreeBuilderModel", "specs", "(II)V"⟩, 26), (⟨"TreeBuilderModel", "specsMore", "(II)V"⟩, 26), (⟨"TreeBuilderModel", "constRest", "(I)V"⟩, 26), (⟨"TreeBuilderModel", "valued", "(II)V"⟩, 26), (⟨"TreeBuilderModel", "exprs", "(II)V"⟩, 26), (⟨"TreeBuilderModel", "varRest", "(I)V"⟩, 26), (⟨"TreeBuilderModel", "statements", "(I)V"⟩, 26), (⟨"TreeBuilderModel", "statement", "(I)V"⟩, 26), (⟨"TreeBuilderModel", "declaration", "(I)V"⟩, 26), (⟨"TreeBuilderModel", "ifs", "(I)V"⟩, 26), (⟨"TreeBuilderModel", "loop", "(I)V"⟩, 26), (⟨"TreeBuilderModel", "condition", "(I)V"⟩, 26)]
theorem lw_r10 : ∀ q ∈ lw_privs_10, lw_okq q := List.forall_mem_cons.mpr ⟨lw_p144, List.forall_mem_cons.mpr ⟨lw_p145, List.forall_mem_cons.mpr ⟨lw_p146, List.forall_mem_cons.mpr ⟨lw_p147, List.forall_mem_cons.mpr ⟨lw_p148, List.forall_mem_cons.mpr ⟨lw_p149, List.forall_mem_cons.mpr ⟨lw_p150, List.forall_mem_cons.mpr ⟨lw_p151, List.forall_mem_cons.mpr ⟨lw_p152, List.forall_mem_cons.mpr ⟨lw_p153, List.forall_mem_cons.mpr ⟨lw_p154, List.forall_mem_cons.mpr ⟨lw_p155, List.forall_mem_cons.mpr ⟨lw_p156, List.forall_mem_cons.mpr ⟨lw_p157, List.forall_mem_cons.mpr ⟨lw_p158, List.forall_mem_cons.mpr ⟨lw_p159, fun _ h => absurd h List.not_mem_nil⟩⟩⟩⟩⟩⟩⟩⟩⟩⟩⟩⟩⟩⟩⟩⟩
theorem lw_p160 : lw_okq (⟨"TreeBuilderModel", "choice", "(I)V"⟩, 26) := ⟨⟨by decide +kernel, by decide +kernel⟩, List.mem_of_getElem? (i := 671) (by decide +kernel), List.mem_of_getElem? (i := 1032) (by decide +kernel), List.mem_of_getElem? (i := 1033) (by decide +kernel)⟩
theorem lw_p161 : lw_okq (⟨"TreeBuilderModel", "body", "(II)V"⟩, 26) := ⟨⟨by decide +kernel, by decide +kernel⟩, List.mem_of_getElem? (i := 671) (by decide +kernel), List.mem_of_getElem? (i := 1036) (by decide +kernel), List.mem_of_getElem? (i := 1037) (by decide +kernel)⟩
theorem lw_p162 : lw_okq (⟨"TreeBuilderModel", "second", "(I)V"⟩, 26) := ⟨⟨by decide +kernel, by decide +kernel⟩, List.mem_of_getElem? (i := 671) (by decide +kernel), List.mem_of_getElem? (i := 1040) (by decide +kernel), List.mem_of_getElem? (i := 1041) (by decide +kernel)⟩
theorem lw_p163 : lw_okq (⟨"TreeBuilderModel", "leaving", "(II)V"⟩, 26) := ⟨⟨by decide +kernel, by decide +kernel⟩, List.mem_of_getElem? (i := 671) (by decide +kernel), List.mem_of_getElem? (i := 1044) (by decide +kernel), List.mem_of_getElem? (i := 1045) (by decide +kernel)⟩
theorem lw_p164 : lw_okq (⟨"TreeBuilderModel", "statementsMore", "(I)V"⟩, 26) := ⟨⟨by decide +kernel, by decide +kernel⟩, List.mem_of_getElem? (i := 671) (by decide +kernel), List.mem_of_getElem? (i := 1048) (by decide +kernel), List.mem_of_getElem? (i := 1049) (by decide +kernel)⟩
theorem lw_p165 : lw_okq (⟨"TreeBuilderModel", "stating", "(III)V"⟩, 26) := ⟨⟨by decide +kernel, by decide +kernel⟩, List.mem_of_getElem? (i := 671) (by decide +kernel), List.mem_of_getElem? (i := 1052) (by decide +kernel), List.mem_of_getElem? (i := 1053) (by decide +kernel)⟩
theorem lw_p166 : lw_okq (⟨"TreeBuilderModel", "simple", "(II)V"⟩, 26) := ⟨⟨by decide +kernel, by decide +kernel⟩, List.mem_of_getElem? (i := 671) (by decide +kernel), List.mem_of_getElem? (i := 1056) (by decide +kernel), List.mem_of_getElem? (i := 1057) (by decide +kernel)⟩
theorem lw_p167 : lw_okq (⟨"TreeBuilderModel", "simpleRest", "(II)V"⟩, 26) := ⟨⟨by decide +kernel, by decide +kernel⟩, List.mem_of_getElem? (i := 671) (by decide +kernel), List.mem_of_getElem? (i := 1060) (by decide +kernel), List.mem_of_getElem? (i := 1061) (by decide +kernel)⟩
theorem lw_p168 : lw_okq (⟨"TreeBuilderModel", "assign", "(II)V"⟩, 26) := ⟨⟨by decide +kernel, by decide +kernel⟩, List.mem_of_getElem? (i := 671) (by decide +kernel), List.mem_of_getElem? (i := 1064) (by decide +kernel), List.mem_of_getElem? (i := 1065) (by decide +kernel)⟩
theorem lw_p169 : lw_okq (⟨"TreeBuilderModel", "ranges", "(II)Z"⟩, 26) := ⟨⟨by decide +kernel, by decide +kernel⟩, List.mem_of_getElem? (i := 671) (by decide +kernel), List.mem_of_getElem? (i := 1068) (by decide +kernel), List.mem_of_getElem? (i := 1069) (by decide +kernel)⟩
theorem lw_p170 : lw_okq (⟨"TreeBuilderModel", "right", "(III)V"⟩, 26) := ⟨⟨by decide +kernel, by decide +kernel⟩, List.mem_of_getElem? (i := 671) (by decide +kernel), List.mem_of_getElem? (i := 1072) (by decide +kernel), List.mem_of_getElem? (i := 1073) (by decide +kernel)⟩
theorem lw_p171 : lw_okq (⟨"TreeBuilderModel", "define", "(IIZ)V"⟩, 26) := ⟨⟨by decide +kernel, by decide +kernel⟩, List.mem_of_getElem? (i := 671) (by decide +kernel), List.mem_of_getElem? (i := 1076) (by decide +kernel), List.mem_of_getElem? (i := 1077) (by decide +kernel)⟩
theorem lw_p172 : lw_okq (⟨"TreeBuilderModel", "listRest", "(II)V"⟩, 26) := ⟨⟨by decide +kernel, by decide +kernel⟩, List.mem_of_getElem? (i := 671) (by decide +kernel), List.mem_of_getElem? (i := 1080) (by decide +kernel), List.mem_of_getElem? (i := 1081) (by decide +kernel)⟩
theorem lw_p173 : lw_okq (⟨"TreeBuilderModel", "ifRest", "(I)V"⟩, 26) := ⟨⟨by decide +kernel, by decide +kernel⟩, List.mem_of_getElem? (i := 671) (by decide +kernel), List.mem_of_getElem? (i := 1084) (by decide +kernel), List.mem_of_getElem? (i := 1085) (by decide +kernel)⟩
theorem lw_p174 : lw_okq (⟨"TreeBuilderModel", "unwrap", "(I)V"⟩, 26) := ⟨⟨by decide +kernel, by decide +kernel⟩, List.mem_of_getElem? (i := 671) (by decide +kernel), List.mem_of_getElem? (i := 1088) (by decide +kernel), List.mem_of_getElem? (i := 1089) (by decide +kernel)⟩
theorem lw_p175 : lw_okq (⟨"TreeBuilderModel", "ifElse", "(I)V"⟩, 26) := ⟨⟨by decide +kernel, by decide +kernel⟩, List.mem_of_getElem? (i := 671) (by decide +kernel), List.mem_of_getElem? (i := 1092) (by decide +kernel), List.mem_of_getElem? (i := 1093) (by decide +kernel)⟩
def lw_privs_11 : List (MethodName × Nat) := [(⟨"TreeBuilderModel", "choice", "(I)V"⟩, 26), (⟨"TreeBuilderModel", "body", "(II)V"⟩, 26), (⟨"TreeBuilderModel", "second", "(I)V"⟩, 26), (⟨"TreeBuilderModel", "leaving", "(II)V"⟩, 26), (⟨"TreeBuilderModel", "statementsMore", "(I)V"⟩, 26), (⟨"TreeBuilderModel", "stating", "(III)V"⟩, 26), (⟨"TreeBuilderModel", "simple", "(II)V"⟩, 26), (⟨"TreeBuilderModel", "simpleRest", "(II)V"⟩, 26), (⟨"TreeBuilderModel", "assign", "(II)V"⟩, 26), (⟨"TreeBuilderModel", "ranges", "(II)Z"⟩, 26), (⟨"TreeBuilderModel", "right", "(III)V"⟩, 26), (⟨"TreeBuilderModel", "define", "(IIZ)V"⟩, 26), (⟨"TreeBuilderModel", "listRest", "(II)V"⟩, 26), (⟨"TreeBuilderModel", "ifRest", "(I)V"⟩, 26), (⟨"TreeBuilderModel", "unwrap", "(I)V"⟩, 26), (⟨"TreeBuilderModel", "ifElse", "(I)V"⟩, 26)]
theorem lw_r11 : ∀ q ∈ lw_privs_11, lw_okq q := List.forall_mem_cons.mpr ⟨lw_p160, List.forall_mem_cons.mpr ⟨lw_p161, List.forall_mem_cons.mpr ⟨lw_p162, List.forall_mem_cons.mpr ⟨lw_p163, List.forall_mem_cons.mpr ⟨lw_p164, List.forall_mem_cons.mpr ⟨lw_p165, List.forall_mem_cons.mpr ⟨lw_p166, List.forall_mem_cons.mpr ⟨lw_p167, List.forall_mem_cons.mpr ⟨lw_p168, List.forall_mem_cons.mpr ⟨lw_p169, List.forall_mem_cons.mpr ⟨lw_p170, List.forall_mem_cons.mpr ⟨lw_p171, List.forall_mem_cons.mpr ⟨lw_p172, List.forall_mem_cons.mpr ⟨lw_p173, List.forall_mem_cons.mpr ⟨lw_p174, List.forall_mem_cons.mpr ⟨lw_p175, fun _ h => absurd h List.not_mem_nil⟩⟩⟩⟩⟩⟩⟩⟩⟩⟩⟩⟩⟩⟩⟩⟩
theorem lw_p176 : lw_okq (⟨"TreeBuilderModel", "forRest", "(I)V"⟩, 26) := ⟨⟨by decide +kernel, by decide +kernel⟩, List.mem_of_getElem? (i := 671) (by decide +kernel), List.mem_of_getElem? (i := 1096) (by decide +kernel), List.mem_of_getElem? (i := 1097) (by decide +kernel)⟩
theorem lw_p177 : lw_okq (⟨"TreeBuilderModel", "forPost", "(II)V"⟩, 26) := ⟨⟨by decide +kernel, by decide +kernel⟩, List.mem_of_getElem? (i := 671) (by decide +kernel), List.mem_of_getElem? (i := 1100) (by decide +kernel), List.mem_of_getElem? (i := 1101) (by decide +kernel)⟩
theorem lw_p178 : lw_okq (⟨"TreeBuilderModel", "switchRest", "(I)V"⟩, 26) := ⟨⟨by decide +kernel, by decide +kernel⟩, List.mem_of_getElem? (i := 671) (by decide +kernel), List.mem_of_getElem? (i := 1104) (by decide +kernel), List.mem_of_getElem? (i := 1105) (by decide +kernel)⟩
theorem lw_p179 : lw_okq (⟨"TreeBuilderModel", "clauses", "(II)V"⟩, 26) := ⟨⟨by decide +kernel, by decide +kernel⟩, List.mem_of_getElem? (i := 671) (by decide +kernel), List.mem_of_getElem? (i := 1108) (by decide +kernel), List.mem_of_getElem? (i := 1109) (by decide +kernel)⟩
theorem lw_p180 : lw_okq (⟨"TreeBuilderModel", "clause", "(I)V"⟩, 26) := ⟨⟨by decide +kernel, by decide +kernel⟩, List.mem_of_getElem? (i := 671) (by decide +kernel), List.mem_of_getElem? (i := 1112) (by decide +kernel), List.mem_of_getElem? (i := 1113) (by decide +kernel)⟩
theorem lw_p181 : lw_okq (⟨"TreeBuilderModel", "types", "(I)V"⟩, 26) := ⟨⟨by decide +kernel, by decide +kernel⟩, List.mem_of_getElem? (i := 671) (by decide +kernel), List.mem_of_getElem? (i := 1116) (by decide +kernel), List.mem_of_getElem? (i := 1117) (by decide +kernel)⟩
theorem lw_p182 : lw_okq (⟨"TreeBuilderModel", "tops", "(I)V"⟩, 26) := ⟨⟨by decide +kernel, by decide +kernel⟩, List.mem_of_getElem? (i := 671) (by decide +kernel), List.mem_of_getElem? (i := 1120) (by decide +kernel), List.mem_of_getElem? (i := 1121) (by decide +kernel)⟩
theorem lw_p183 : lw_okq (⟨"TreeBuilderModel", "function", "(I)V"⟩, 26) := ⟨⟨by decide +kernel, by decide +kernel⟩, List.mem_of_getElem? (i := 671) (by decide +kernel), List.mem_of_getElem? (i := 1124) (by decide +kernel), List.mem_of_getElem? (i := 1125) (by decide +kernel)⟩
theorem lw_p184 : lw_okq (⟨"TreeBuilderModel", "guarded", "(II)V"⟩, 26) := ⟨⟨by decide +kernel, by decide +kernel⟩, List.mem_of_getElem? (i := 671) (by decide +kernel), List.mem_of_getElem? (i := 1128) (by decide +kernel), List.mem_of_getElem? (i := 1129) (by decide +kernel)⟩
theorem lw_p185 : lw_okq (⟨"TreeBuilderModel", "numberAll", "(I)V"⟩, 26) := ⟨⟨by decide +kernel, by decide +kernel⟩, List.mem_of_getElem? (i := 671) (by decide +kernel), List.mem_of_getElem? (i := 1132) (by decide +kernel), List.mem_of_getElem? (i := 1133) (by decide +kernel)⟩
theorem lw_p186 : lw_okq (⟨"TreeBuilderModel", "fail", "()I"⟩, 26) := ⟨⟨by decide +kernel, by decide +kernel⟩, List.mem_of_getElem? (i := 671) (by decide +kernel), List.mem_of_getElem? (i := 1144) (by decide +kernel), List.mem_of_getElem? (i := 1145) (by decide +kernel)⟩
def lw_privs_12 : List (MethodName × Nat) := [(⟨"TreeBuilderModel", "forRest", "(I)V"⟩, 26), (⟨"TreeBuilderModel", "forPost", "(II)V"⟩, 26), (⟨"TreeBuilderModel", "switchRest", "(I)V"⟩, 26), (⟨"TreeBuilderModel", "clauses", "(II)V"⟩, 26), (⟨"TreeBuilderModel", "clause", "(I)V"⟩, 26), (⟨"TreeBuilderModel", "types", "(I)V"⟩, 26), (⟨"TreeBuilderModel", "tops", "(I)V"⟩, 26), (⟨"TreeBuilderModel", "function", "(I)V"⟩, 26), (⟨"TreeBuilderModel", "guarded", "(II)V"⟩, 26), (⟨"TreeBuilderModel", "numberAll", "(I)V"⟩, 26), (⟨"TreeBuilderModel", "fail", "()I"⟩, 26)]
theorem lw_r12 : ∀ q ∈ lw_privs_12, lw_okq q := List.forall_mem_cons.mpr ⟨lw_p176, List.forall_mem_cons.mpr ⟨lw_p177, List.forall_mem_cons.mpr ⟨lw_p178, List.forall_mem_cons.mpr ⟨lw_p179, List.forall_mem_cons.mpr ⟨lw_p180, List.forall_mem_cons.mpr ⟨lw_p181, List.forall_mem_cons.mpr ⟨lw_p182, List.forall_mem_cons.mpr ⟨lw_p183, List.forall_mem_cons.mpr ⟨lw_p184, List.forall_mem_cons.mpr ⟨lw_p185, List.forall_mem_cons.mpr ⟨lw_p186, fun _ h => absurd h List.not_mem_nil⟩⟩⟩⟩⟩⟩⟩⟩⟩⟩⟩
def lw_privs : List (MethodName × Nat) := lw_privs_1 ++ (lw_privs_2 ++ (lw_privs_3 ++ (lw_privs_4 ++ (lw_privs_5 ++ (lw_privs_6 ++ (lw_privs_7 ++ (lw_privs_8 ++ (lw_privs_9 ++ (lw_privs_10 ++ (lw_privs_11 ++ (lw_privs_12)))))))))))
def lw_tbl : List Cond := k2_sels lw_privs ++ tables_1
theorem lw_privs_ok : ∀ q ∈ lw_privs, lw_okq q := by
  show ∀ q ∈ lw_privs_1 ++ (lw_privs_2 ++ (lw_privs_3 ++ (lw_privs_4 ++ (lw_privs_5 ++ (lw_privs_6 ++ (lw_privs_7 ++ (lw_privs_8 ++ (lw_privs_9 ++ (lw_privs_10 ++ (lw_privs_11 ++ (lw_privs_12))))))))))), lw_okq q
  exact List.forall_mem_append.mpr ⟨lw_r1, List.forall_mem_append.mpr ⟨lw_r2, List.forall_mem_append.mpr ⟨lw_r3, List.forall_mem_append.mpr ⟨lw_r4, List.forall_mem_append.mpr ⟨lw_r5, List.forall_mem_append.mpr ⟨lw_r6, List.forall_mem_append.mpr ⟨lw_r7, List.forall_mem_append.mpr ⟨lw_r8, List.forall_mem_append.mpr ⟨lw_r9, List.forall_mem_append.mpr ⟨lw_r10, List.forall_mem_append.mpr ⟨lw_r11, lw_r12⟩⟩⟩⟩⟩⟩⟩⟩⟩⟩⟩
end
section
/-! ===== BEGIN words of one list among another's, by their places ===== -/
theorem goodIn_r {big : List Cond} (ws : List Cond) (ps : List Nat) (hp : ws = ps.filterMap (fun i => big[i]?)) (h : ws.all goodWord = true) : GoodIn big ws := by
  intro w hw
  have h1 := List.all_eq_true.mp h w hw
  rw [hp] at hw
  obtain ⟨i, -, hi⟩ := List.mem_filterMap.mp hw
  have hm : w ∈ big := by first | exact List.mem_of_getElem? hi | exact List.getElem?_mem hi
  exact ⟨hm, good_of_word h1⟩
theorem goodIn_app {big a b : List Cond} (ha : GoodIn big a) (hb : GoodIn big b) : GoodIn big (a ++ b) := fun w h => (List.mem_append.mp h).elim (ha w) (hb w)
theorem goodIn_ca {big a b : List Cond} {c : Cond} (ha : GoodIn big (c :: a)) (hb : GoodIn big b) : GoodIn big (c :: (a ++ b)) := fun w h => (List.mem_cons.mp h).elim (fun e => ha w (List.mem_cons.mpr (Or.inl e))) (fun h => (List.mem_append.mp h).elim (fun h => ha w (List.mem_cons.mpr (Or.inr h))) (hb w))
theorem goodIn_sub {big ws : List Cond} (hm : ∀ w ∈ ws, w ∈ big) (h : ws.all goodWord = true) : GoodIn big ws := fun w hw => ⟨hm w hw, good_of_word (List.all_eq_true.mp h w hw)⟩
/-! ===== END ===== -/

/-! ===== BEGIN exceptions that leave a method, and their catching by the caller (launches without stack traces) ===== -/
section VXA
/-! The laws vx_back, vx_callV, vx_callS, vx_callSW, vx_throw0, vx_throwS follow proofs of the library, with one case more: JvmDerived/Free/Laws.lean (Back.of_free), Shelf42/LK1.lean (callV, callS), Shelf/KitTraced.lean (throwNew0V, throwNewS). -/
/-- where a method has thrown q: the class by its name, the cell, what was written, the world -/
def vx_T (XC : String → State → State → Prop) (st : State) (q : Addr) (t : State) (mc ms : Nat) (free : Addr → Prop) : Prop :=
  ∃ (E : String) (ce : Cell) (L : List Loc), XC E st t ∧ t.heap[q]? = some ce ∧ ce.vm = .none ∧ st.vm.findClass E = some ce.cls ∧ st.WarmedH t.vm ∧ st.sameButNew ({ t with vm := st.vm } : State) L mc ms ∧ ∀ z ∈ L, free z.base
def vx_Q (Qc : Array Value → State → Outcome → State → Prop) (XC : String → State → State → Prop) (mc ms : Nat) (free : Addr → Prop) : Array Value → State → Outcome → State → Prop := fun a st o t =>
  (Qc a st o t ∧ ∃ L, FrameEnd st o t L mc ms ∧ ∀ q ∈ L, free q.base) ∨ ∃ q, o = .threw q ∧ vx_T XC st q t mc ms free
/-- a callee that returns or throws -/
def vx_Met (l : Launch) (y : MethodName) (ws : List Cond) (rm : Room) (Pc : Array Value → State → Prop) (Qc : Array Value → State → Outcome → State → Prop) (XC : String → State → State → Prop) (mc ms : Nat) (free : Addr → Prop) : Prop :=
  MetFree l y (headSpec ws rm) Pc (fun _ _ _ _ _ => True) (vx_Q Qc XC mc ms free)
def vx_Post (XC : String → State → State → Prop) (mc ms : Nat) (free : Addr → Prop) : Pt → Array Value → Addr → Pt → Prop := fun A a q B =>
  ∃ (g : JFrame) (mk : MethodId) (t : State) (L : List Loc) (E : String) (ce : Cell), B.U.heap = t.heap ∧ B.U.vm = t.vm ∧ XC E (A.U.calling g mk a) t ∧ t.heap[q]? = some ce ∧ ce.vm = .none ∧ A.U.vm.findClass E = some ce.cls ∧ B.locs = A.locs ++ L ∧ (∀ z ∈ L, free z.base) ∧ B.cells = A.cells + mc ∧ B.slots = A.slots + ms
def vx_Back (l : Launch) (R : Room) (p : Program) (e : Env) (below : List Frame) (s : State) (sargs : Array Value) (y : MethodName) (len W9 : Nat)
    (Pre : Pt → Array Value → Prop) (Post : Pt → Array Value → Option Value → Pt → Prop) (PostX : Pt → Array Value → Addr → Pt → Prop) : Prop :=
  ∀ (m : MethodId) (meth : Method) (c : Code) (A : Pt) (g : JFrame) (ig : Instr) (mk : MethodId) (a : Array Value),
    Stand p l e R s m sargs below meth c A.U A.locs A.cells A.slots → g.method = m → g.locals.size = c.maxLocals → decode c.code g.pc = .ok (ig, len) →
    2 * g.monitorRoom + (g.stack.map fun v => v.category).sum ≤ W9 → A.U.methodNamed? y = some mk → Pre A a →
    (∃ (v : Option Value) (B : Pt), Stand p l e R s m sargs below meth c B.U B.locs B.cells B.slots ∧ Post A a v B ∧
      Steps p.tables e below (doInvoke e (A.U.setTop g) [] mk a).1 (B.U.setTop { g with pc := g.pc + len, stack := v.toList ++ g.stack })) ∨
    (∃ (q : Addr) (B : Pt), Stand p l e R s m sargs below meth c B.U B.locs B.cells B.slots ∧ PostX A a q B ∧
      Steps p.tables e below (doInvoke e (A.U.setTop g) [] mk a).1 ((B.U.setTop g).pushFrame (.throwing q)))
section Payer
variable {l : Launch} {R : Room} {p : Program} {e : Env} {below : List Frame} {s : State} {sargs : Array Value} {y : MethodName} {len W9 : Nat}
theorem vx_back {ws : List Cond} {rm : Room} {Pc : Array Value → State → Prop} {Qc : Array Value → State → Outcome → State → Prop} {XC : String → State → State → Prop} {mc ms : Nat} {free : Addr → Prop} {bytes : ByteArray} {maxL : Nat} {ret : Option FieldType}
    (hM : vx_Met l y ws rm Pc Qc XC mc ms free) (hblind : FrameBlind Pc) (hrc : rm.cells = mc) (hrs : rm.slots = ms)
    (hframes : rm.frames + 1 ≤ R.frames) (hlocals : W9 + (maxL + 11) + rm.locals ≤ R.locals)
    (hws : ∀ w ∈ ws, ∀ a' U, s.WarmedH U.vm → w.before a' U = true) (hcode : Cond.code y bytes maxL ret ∈ ws) (hinit : ∀ a' U, s.WarmedH U.vm → (Cond.initialized y.cls).before a' U = true) :
    vx_Back l R p e below s sargs y len W9 (PreOf R mc ms Pc) (PostOf Qc mc ms free) (vx_Post XC mc ms free) := by
  intro m meth c A g ig mk a X hg hsize hdg hW hn hp
  have h1 : (headSpec ws rm).pre.before a A.U = true := atoms_intro fun w hw => hws w hw _ _ X.warmed
  have h2 : (Cond.code y bytes maxL ret).before a A.U = true := hws _ hcode _ _ X.warmed
  have h3 : (Cond.initialized y.cls).before a A.U = true := hinit _ _ X.warmed
  have h4 : A.cells + (headSpec ws rm).room.cells ≤ R.cells := by rw [show (headSpec ws rm).room.cells = mc from hrc]; exact hp.1
  have h5 : A.slots + (headSpec ws rm).room.slots ≤ R.slots := by rw [show (headSpec ws rm).room.slots = ms from hrs]; exact hp.2.1
  have hPc : Pc a (A.U.calling g mk a) := hblind _ _ _ _ hp.2.2
  obtain ⟨U, Ls, c0, s0⟩ := A
  dsimp only [Pt.U, Pt.locs, Pt.cells, Pt.slots] at h1 h2 h3 h4 h5 X hn hPc ⊢
  obtain ⟨methY, cY, hmY, hcY, -, hlY, -, -, -, -⟩ := Cond.code_spec hn h2
  obtain ⟨kY, hkY, -⟩ := className_of_methodNamed hn
  have hinitY : kY.init = .initialized := Cond.initialized_spec (findClass_of_methodNamed hn) hkY h3
  have h : At U g.method c below := by rw [hg]; exact X.here
  have hlocals9 : W9 + (maxL + 11) + (headSpec ws rm).room.locals ≤ R.locals := hlocals
  have happ : (headSpec ws rm).appliesLoose y e.platform (U.calling g mk a) = true :=
    Spec.appliesLoose_calling (g := g) h hdg hn hkY hinitY
      (X.room_calling (g := g) (R' := (headSpec ws rm).room) hsize hmY hcY hframes (by rw [hlY]; omega) h4 h5) h1
  obtain ⟨mid, hmid⟩ := h.above
  have hfr : (U.setTop g).frames = (.java g :: mid) ++ below := by rw [State.frames_setTop' g h.top, hmid]; rfl
  obtain ⟨o, s₂, hsteps, -, hend, hq⟩ := Steps.callFree hM p X.admits X.cas X.clock (acts := []) hfr happ hPc trivial
  have hq' : vx_Q Qc XC mc ms free a (U.calling g mk a) o s₂ := hq
  rw [State.frames_setTop' g h.top] at hend
  obtain ⟨g₀, hg0⟩ := Option.isSome_iff_exists.mp h.top
  obtain ⟨r, hr⟩ := State.topJava?_eq_some.mp hg0
  have hr' : (({ U with heap := s₂.heap, slotsUsed := s₂.slotsUsed } : State).setVm s₂.vm).frames = .java g₀ :: r := hr
  rcases hq' with ⟨hqc, L, hfe, hL⟩ | ⟨q, rfl, E, ce, L, hx, hce, hcv, hcl, hW₂, hsm, hL⟩
  · obtain ⟨⟨v, rfl⟩, hW₂, e2, q2, q3, q4, q5, q6⟩ := id hfe
    have e3 : s₂ = ({ (U.calling g mk a).setFrames s₂.frames with heap := s₂.heap, slotsUsed := s₂.slotsUsed } : State).setVm s₂.vm := by
      have : s₂ = ({ s₂ with vm := (U.calling g mk a).vm } : State).setVm s₂.vm := rfl
      rw [e2] at this
      exact this
    obtain ⟨c₂, i₂, len₂, hc₂, hd₂, hf₂⟩ := hend
    have hW' : U.WarmedH s₂.vm := hW₂
    have hcc : c₂ = c := by
      have h1 : s₂.code? g.method = U.code? g.method := by
        rw [State.code?_eq, State.code?_eq, hW'.alike.method?]
      exact Option.some.inj (hc₂.symm.trans (h1.trans h.code))
    subst hcc
    have hlen : len₂ = len := by rw [hdg] at hd₂; cases hd₂; rfl
    subst hlen
    have hs₂ : s₂ = (({ U with heap := s₂.heap, slotsUsed := s₂.slotsUsed } : State).setVm s₂.vm).setTop { g with pc := g.pc + len₂, stack := v.toList ++ g.stack } := by
      refine e3.trans ?_
      rw [hf₂, State.calling_eq h.top, State.setFrames_setFrames, State.setTop_of_frames _ hr', hr]
      rfl
    have hsame : U.sameButNew ({ U with heap := s₂.heap, slotsUsed := s₂.slotsUsed } : State) L mc ms := by
      refine ⟨?_, q2, q3, q4, q5, q6⟩
      obtain ⟨t, ht, -⟩ := State.frames_cons hr
      show ({ U with heap := s₂.heap, slotsUsed := s₂.slotsUsed } : State) = { U.setFrames U.frames with heap := s₂.heap, slotsUsed := s₂.slotsUsed }
      rw [State.setFrames_self ht]
    subst hg
    refine Or.inl ⟨v, ⟨(({ U with heap := s₂.heap, slotsUsed := s₂.slotsUsed } : State).setVm s₂.vm), Ls ++ L, c0 + mc, s0 + ms⟩,
      ⟨X.admits, X.cas, X.clock, X.frames, X.room, X.hears, X.method, X.code, (X.here.setHeapUsed s₂.heap s₂.slotsUsed).setVm hW'.alike, X.tail, State.WarmedH.trans X.warmed hW', X.limits, X.bytes, X.same.trans (hsame.setVm s.vm)⟩,
      ⟨g, mk, s₂, L, rfl, rfl, hqc, rfl, hL, rfl, rfl⟩, ?_⟩
    show Steps p.tables e below _ ((({ U with heap := s₂.heap, slotsUsed := s₂.slotsUsed } : State).setVm s₂.vm).setTop { g with pc := g.pc + len₂, stack := v.toList ++ g.stack })
    rw [← hs₂]
    exact hsteps
  · obtain ⟨e2, q2, q3, q4, q5, q6⟩ := id hsm
    have e3 : s₂ = ({ (U.calling g mk a).setFrames s₂.frames with heap := s₂.heap, slotsUsed := s₂.slotsUsed } : State).setVm s₂.vm := by
      have : s₂ = ({ s₂ with vm := (U.calling g mk a).vm } : State).setVm s₂.vm := rfl
      rw [e2] at this
      exact this
    have hf₂ : s₂.frames = .throwing q :: .java g :: U.frames.tail := hend
    have hW' : U.WarmedH s₂.vm := hW₂
    have hs₂ : s₂ = ((({ U with heap := s₂.heap, slotsUsed := s₂.slotsUsed } : State).setVm s₂.vm).setTop g).pushFrame (.throwing q) := by
      refine e3.trans ?_
      rw [hf₂, State.calling_eq h.top, State.setFrames_setFrames, State.pushFrame, State.frames_setTop _ hr', State.setTop_of_frames _ hr', State.setFrames_setFrames, hr]
      rfl
    have hsame : U.sameButNew ({ U with heap := s₂.heap, slotsUsed := s₂.slotsUsed } : State) L mc ms := by
      refine ⟨?_, q2, q3, q4, q5, q6⟩
      obtain ⟨t, ht, -⟩ := State.frames_cons hr
      show ({ U with heap := s₂.heap, slotsUsed := s₂.slotsUsed } : State) = { U.setFrames U.frames with heap := s₂.heap, slotsUsed := s₂.slotsUsed }
      rw [State.setFrames_self ht]
    subst hg
    refine Or.inr ⟨q, ⟨(({ U with heap := s₂.heap, slotsUsed := s₂.slotsUsed } : State).setVm s₂.vm), Ls ++ L, c0 + mc, s0 + ms⟩,
      ⟨X.admits, X.cas, X.clock, X.frames, X.room, X.hears, X.method, X.code, (X.here.setHeapUsed s₂.heap s₂.slotsUsed).setVm hW'.alike, X.tail, State.WarmedH.trans X.warmed hW', X.limits, X.bytes, X.same.trans (hsame.setVm s.vm)⟩,
      ⟨g, mk, s₂, L, E, ce, rfl, rfl, hx, hce, hcv, hcl, rfl, hL, rfl, rfl⟩, ?_⟩
    show Steps p.tables e below _ (((({ U with heap := s₂.heap, slotsUsed := s₂.slotsUsed } : State).setVm s₂.vm).setTop g).pushFrame (.throwing q))
    rw [← hs₂]
    exact hsteps
end Payer
section Calls
variable {p : Program} {l : Launch} {e : Env} {R : Room} {s : State} {m : MethodId} {args : Array Value} {below : List Frame} {meth : Method} {c : Code} {T : State} {locs : List Loc} {cells slots : Nat}
theorem vx_callV (X : Stand p l e R s m args below meth c T locs cells slots) (hexec : p.tables.exec = Jvm.exec) {own C : String} {index : Nat} {y : MethodName} {bytes : ByteArray} {maxL : Nat} {ret : Option FieldType}
    (hown : s.vm.findClass own = some m.cls) (hlink : (Cond.methodLink own index y).before args s = true) (hinst : (Cond.instanceMethod y).before args s = true) (hsel : (Cond.selects C y y).before args s = true)
    (hcode : (Cond.code y bytes maxL ret).before args s = true) (hy : y.cls ≠ "java/lang/invoke/MethodHandle" ∧ y.cls ≠ "java/lang/invoke/VarHandle")
    {W9 : Nat} {Pre : Pt → Array Value → Prop} {Post : Pt → Array Value → Option Value → Pt → Prop} {PostX : Pt → Array Value → Addr → Pt → Prop} (hK : vx_Back l R p e below s args y 3 W9 Pre Post PostX)
    {b : Addr} {cellB : Cell} (hcell : T.heap[b]? = some cellB) (hobj : cellB.vm.isStatics = false) (hcls : s.vm.findClass C = some cellB.cls)
    {g : JFrame} (hg : g.method = m) (hsize : g.locals.size = c.maxLocals) {argsL rest : List Value} (hlen : ∀ sig, parseMethodDescriptor y.desc = some sig → argsL.length = sig.parameters.length)
    (hstack : g.stack = argsL.reverse ++ .ref b :: rest) (hW : 2 * g.monitorRoom + (rest.map fun v => v.category).sum ≤ W9) (hdg : decode c.code g.pc = .ok (.invokevirtual index, 3))
    (hpre : ∀ vm₁, s.WarmedH vm₁ → Pre ⟨T.setVm vm₁, locs, cells, slots⟩ (Value.ref b :: argsL).toArray) :
    (∃ (v : Option Value) (vm₁ : Vm) (B : Pt), s.WarmedH vm₁ ∧ Stand p l e R s m args below meth c B.U B.locs B.cells B.slots ∧ Post ⟨T.setVm vm₁, locs, cells, slots⟩ (Value.ref b :: argsL).toArray v B ∧
      ∀ target, Steps p.tables e below (B.U.setTop { g with pc := g.pc + 3, stack := v.toList ++ rest }) target → Steps p.tables e below (T.setTop g) target) ∨
    (∃ (q : Addr) (vm₁ : Vm) (B : Pt), s.WarmedH vm₁ ∧ Stand p l e R s m args below meth c B.U B.locs B.cells B.slots ∧ PostX ⟨T.setVm vm₁, locs, cells, slots⟩ (Value.ref b :: argsL).toArray q B ∧
      Steps p.tables e below (T.setTop g) ((B.U.setTop { g with stack := rest }).pushFrame (.throwing q))) := by
  obtain ⟨mk, methM, hnamed, hmethM, hstM, habM⟩ := Cond.instanceMethod_spec hinst
  obtain ⟨methM', cM, hmethM', -, -, -, -, -, -, hsigM⟩ := Cond.code_spec hnamed hcode
  cases hmethM.symm.trans hmethM'
  obtain ⟨c2, r2, m2, q1, q2, q3, q4, kP, hkP, hkPi⟩ := Cond.selects_spec hsel
  cases hcls.symm.trans q1
  cases (State.methodFound?_of_named hnamed hy).symm.trans q2
  cases hnamed.symm.trans q3
  have hselP : selectMethod e.platform s.vm cellB.cls mk = .method mk := by rw [Launch.admits_selectMethod X.admits]; exact q4
  obtain ⟨vm₁, X₁, hstep₁⟩ := X.invokevirtual hexec hown hlink hnamed hmethM hstM hkP hkPi hy (a := b) (cell := cellB) hcell
    (fun z h => by rw [h] at hobj; cases hobj) hselP hmethM habM hkP hkPi (g := g) hg (argsL := argsL) (rest := rest) (hlen _ hsigM) hstack hdg
  rcases hK m meth c ⟨T.setVm vm₁, locs, cells, slots⟩ { g with stack := rest } (.invokevirtual index) mk (Value.ref b :: argsL).toArray X₁ hg hsize hdg hW (X₁.named hnamed) (hpre vm₁ X₁.warmed) with ⟨v, B, X', hpost, hsteps⟩ | ⟨q, B, X', hpost, hsteps⟩
  · exact Or.inl ⟨v, vm₁, B, X₁.warmed, X', hpost, fun target h => hstep₁ _ fun acts => by rw [doInvoke_state]; exact hsteps.trans h⟩
  · exact Or.inr ⟨q, vm₁, B, X₁.warmed, X', hpost, hstep₁ _ fun acts => by rw [doInvoke_state]; exact hsteps⟩
theorem vx_callS (X : Stand p l e R s m args below meth c T locs cells slots) (hexec : p.tables.exec = Jvm.exec) {own : String} {index : Nat} {y : MethodName} {bytes : ByteArray} {maxL : Nat} {ret : Option FieldType}
    (hown : s.vm.findClass own = some m.cls) (hlink : (Cond.methodLink own index y).before args s = true) (hstat : (Cond.static y).before args s = true) (hinit : (Cond.initialized y.cls).before args s = true)
    (hcode : (Cond.code y bytes maxL ret).before args s = true) (hy : y.cls ≠ "java/lang/invoke/MethodHandle" ∧ y.cls ≠ "java/lang/invoke/VarHandle")
    {W9 : Nat} {Pre : Pt → Array Value → Prop} {Post : Pt → Array Value → Option Value → Pt → Prop} {PostX : Pt → Array Value → Addr → Pt → Prop} (hK : vx_Back l R p e below s args y 3 W9 Pre Post PostX)
    {g : JFrame} (hg : g.method = m) (hsize : g.locals.size = c.maxLocals) {argsL rest : List Value} (hlen : ∀ sig, parseMethodDescriptor y.desc = some sig → argsL.length = sig.parameters.length)
    (hstack : g.stack = argsL.reverse ++ rest) (hW : 2 * g.monitorRoom + (rest.map fun v => v.category).sum ≤ W9) (hdg : decode c.code g.pc = .ok (.invokestatic index, 3))
    (hpre : ∀ vm₁, s.WarmedH vm₁ → Pre ⟨T.setVm vm₁, locs, cells, slots⟩ argsL.toArray) :
    (∃ (v : Option Value) (vm₁ : Vm) (B : Pt), s.WarmedH vm₁ ∧ Stand p l e R s m args below meth c B.U B.locs B.cells B.slots ∧ Post ⟨T.setVm vm₁, locs, cells, slots⟩ argsL.toArray v B ∧
      ∀ target, Steps p.tables e below (B.U.setTop { g with pc := g.pc + 3, stack := v.toList ++ rest }) target → Steps p.tables e below (T.setTop g) target) ∨
    (∃ (q : Addr) (vm₁ : Vm) (B : Pt), s.WarmedH vm₁ ∧ Stand p l e R s m args below meth c B.U B.locs B.cells B.slots ∧ PostX ⟨T.setVm vm₁, locs, cells, slots⟩ argsL.toArray q B ∧
      Steps p.tables e below (T.setTop g) ((B.U.setTop { g with stack := rest }).pushFrame (.throwing q))) := by
  obtain ⟨mk, hnamed⟩ := Cond.code_named hcode
  obtain ⟨methM, cM, hmethM, -, -, -, -, -, -, hsigM⟩ := Cond.code_spec hnamed hcode
  have hstatic : methM.isStatic = true := Cond.static_spec hnamed hmethM hstat
  obtain ⟨kP, hkP, -⟩ := className_of_methodNamed hnamed
  have hinitP : kP.init = .initialized := Cond.initialized_spec (findClass_of_methodNamed hnamed) hkP hinit
  obtain ⟨vm₁, X₁, hstep₁⟩ := X.invokestatic hexec hown hlink hnamed hmethM hstatic hkP hinitP hy (g := g) hg (argsL := argsL) (rest := rest) (hlen _ hsigM) hstack hdg
  rcases hK m meth c ⟨T.setVm vm₁, locs, cells, slots⟩ { g with stack := rest } (.invokestatic index) mk argsL.toArray X₁ hg hsize hdg hW (X₁.named hnamed) (hpre vm₁ X₁.warmed) with ⟨v, B, X', hpost, hsteps⟩ | ⟨q, B, X', hpost, hsteps⟩
  · exact Or.inl ⟨v, vm₁, B, X₁.warmed, X', hpost, fun target h => hstep₁ _ fun acts => by rw [doInvoke_state]; exact hsteps.trans h⟩
  · exact Or.inr ⟨q, vm₁, B, X₁.warmed, X', hpost, hstep₁ _ fun acts => by rw [doInvoke_state]; exact hsteps⟩
end Calls
theorem vx_cls {s : State} {T : State} {vm₁ : Vm} {E : String} {k : ClassId} (hW : s.WarmedH vm₁) (h : (T.setVm vm₁).vm.findClass E = some k) : s.vm.findClass E = some k := by
  have h1 : vm₁.findClass E = some k := h
  rw [hW.alike.findClass] at h1
  exact h1
/-- the method's frame g, with q thrown over it -/
def vx_W (p : Program) (l : Launch) (e : Env) (R : Room) (s : State) (m : MethodId) (args : Array Value) (below : List Frame) (meth : Method) (c : Code) (H : Heap) (locs : List Loc) (cells slots : Nat) (Q : State → Prop) (g : JFrame) (q : Addr) : Prop :=
  ∀ T : State, T.heap = H → Stand p l e R s m args below meth c T locs cells slots → ∃ t, Steps p.tables e below ((T.setTop g).pushFrame (.throwing q)) t ∧ Q t
def vx_Run (p : Program) (l : Launch) (e : Env) (R : Room) (s : State) (m : MethodId) (args : Array Value) (below : List Frame) (meth : Method) (c : Code) (H : Heap) (locs : List Loc) (cells slots mc ms : Nat) (g : JFrame) (rest : List Value) (Qa : State → Outcome → State → Prop) (XC : String → State → State → Prop) (free : Addr → Prop) : Prop :=
  ∀ T : State, T.heap = H → Stand p l e R s m args below meth c T locs cells slots →
    (∃ (v : Option Value) (st₀ t T' : State) (L : List Loc), st₀.heap = H ∧ Stand p l e R s m args below meth c T' (locs ++ L) (cells + mc) (slots + ms) ∧ (∀ q ∈ L, free q.base) ∧ T'.heap = t.heap ∧ T'.vm = t.vm ∧ Qa st₀ (.returned v) t ∧
      Goes p e below T g T' { g with pc := g.pc + 3, stack := v.toList ++ rest }) ∨
    (∃ (q : Addr) (st₀ t T' : State) (L : List Loc) (E : String) (ce : Cell), st₀.heap = H ∧ Stand p l e R s m args below meth c T' (locs ++ L) (cells + mc) (slots + ms) ∧ (∀ z ∈ L, free z.base) ∧ T'.heap = t.heap ∧ T'.vm = t.vm ∧ XC E st₀ t ∧ t.heap[q]? = some ce ∧ ce.vm = .none ∧ s.vm.findClass E = some ce.cls ∧
      Steps p.tables e below (T.setTop g) ((T'.setTop { g with stack := rest }).pushFrame (.throwing q)))
def vx_X {S : Type} (px : S → Prop) (B : String → S → State → Prop) (A : Nat → Prop) : String → State → State → Prop := fun E st t => ∃ u : S, px u ∧ B E u t ∧ va_F A st t
section Runs
variable {p : Program} {l : Launch} {e : Env} {R : Room} {s : State} {m : MethodId} {args : Array Value} {below : List Frame} {meth : Method} {c : Code} {H : Heap} {locs : List Loc} {cells slots : Nat}
variable {y : MethodName} {bytes cc : ByteArray} {maxL nL mc ms n index : Nat} {ret : Option FieldType} {ws : List Cond} {rm : Room} {Pc : Array Value → State → Prop} {Qc : Array Value → State → Outcome → State → Prop} {XC : String → State → State → Prop} {free : Addr → Prop} {Ts : List Cond} {own C : String} {b : Addr} {As rest : List Value} {g : JFrame}
theorem vx_callBack (cb : CallB R s args own index y bytes maxL ret ws rm mc ms n) (hM : vx_Met l y ws rm Pc Qc XC mc ms free) (hbl : FrameBlind Pc) : vx_Back l R p e below s args y 3 8 (PreOf R mc ms Pc) (PostOf Qc mc ms free) (vx_Post XC mc ms free) := by
  obtain ⟨hrc, hrs, hfr, hlo, hws, hcw, -, hini, -⟩ := cb
  exact vx_back (bytes := bytes) (maxL := maxL) (ret := ret) hM hbl hrc hrs hfr hlo hws hcw (fun a' U hW => word_at hW (Or.inl (by first | rfl | simp [Cond.onTables, Cond.keeps, Cond.steady])) hini)
theorem vx_runV (S : CallFix p m c cc nL s args Ts own) (hM : vx_Met l y ws rm Pc Qc XC mc ms free) (cw : CallW R s args own C index y bytes maxL ret ws rm mc ms n) (hp : PreV s H C b Pc As)
    (hg : g.method = m) (hn : As.length = n) (hsize : g.locals.size = nL) (hstack : g.stack = As.reverse ++ .ref b :: rest) (hW : 2 * g.monitorRoom + (rest.map fun v => v.category).sum ≤ 8) (hdg : decode cc g.pc = .ok (.invokevirtual index, 3)) (hf : cells + mc ≤ R.cells ∧ slots + ms ≤ R.slots) :
    vx_Run p l e R s m args below meth c H locs cells slots mc ms g rest (Qc (Value.ref b :: As).toArray) XC free := by
  have hK : vx_Back l R p e below s args y 3 8 (PreOf R mc ms Pc) (PostOf Qc mc ms free) (vx_Post XC mc ms free) := vx_callBack cw.1 hM hp.1
  obtain ⟨⟨-, -, -, -, -, -, hcode, -, hy, hlen, hl⟩, hin, hse⟩ := cw
  obtain ⟨hx, hb, hml, ho, -⟩ := S
  obtain ⟨-, ⟨cellB, hcB, hoB, hclB⟩, hPc⟩ := hp
  intro T hT X
  rcases vx_callV X hx (C := C) (bytes := bytes) (maxL := maxL) (ret := ret) ho hl hin hse hcode hy hK (by rw [hT]; exact hcB) hoB hclB hg (hsize.trans hml.symm) (argsL := As) (rest := rest) (fun sig h => hn.trans (hlen sig h)) hstack hW (by rw [hb]; exact hdg)
    (fun vm₁ hW₁ => ⟨hf.1, hf.2, hPc (T.setVm vm₁) hT hW₁⟩) with ⟨v, vm₁, ⟨U', l2, c2, s2⟩, hW₁, X', ⟨g', mk, t, L, e1, e2, hq, h1, hL, h2, h3⟩, st⟩ | ⟨q, vm₁, ⟨U', l2, c2, s2⟩, hW₁, X', ⟨g', mk, t, L, E, ce, e1, e2, hq, hce, hcv, hcl, h1, hL, h2, h3⟩, st⟩
  · dsimp only [Pt.U, Pt.locs, Pt.cells, Pt.slots] at X' e1 e2 h1 h2 h3 st
    subst h1; subst h2; subst h3
    exact Or.inl ⟨v, (T.setVm vm₁).calling g' mk (Value.ref b :: As).toArray, t, U', L, hT, X', hL, e1, e2, hq, st⟩
  · dsimp only [Pt.U, Pt.locs, Pt.cells, Pt.slots] at X' e1 e2 h1 h2 h3 st hcl
    subst h1; subst h2; subst h3
    exact Or.inr ⟨q, (T.setVm vm₁).calling g' mk (Value.ref b :: As).toArray, t, U', L, E, ce, hT, X', hL, e1, e2, hq, hce, hcv, vx_cls hW₁ hcl, st⟩
theorem vx_runS (S : CallFix p m c cc nL s args Ts own) (hM : vx_Met l y ws rm Pc Qc XC mc ms free) (cw : CallB R s args own index y bytes maxL ret ws rm mc ms n ∧ (Cond.static y).before args s = true) (hp : PreS s H Pc As)
    (hg : g.method = m) (hn : As.length = n) (hsize : g.locals.size = nL) (hstack : g.stack = As.reverse ++ rest) (hW : 2 * g.monitorRoom + (rest.map fun v => v.category).sum ≤ 8) (hdg : decode cc g.pc = .ok (.invokestatic index, 3)) (hf : cells + mc ≤ R.cells ∧ slots + ms ≤ R.slots) :
    vx_Run p l e R s m args below meth c H locs cells slots mc ms g rest (Qc As.toArray) XC free := by
  have hK : vx_Back l R p e below s args y 3 8 (PreOf R mc ms Pc) (PostOf Qc mc ms free) (vx_Post XC mc ms free) := vx_callBack cw.1 hM hp.1
  obtain ⟨⟨-, -, -, -, -, -, hcode, hini, hy, hlen, hl⟩, hstt⟩ := cw
  obtain ⟨hx, hb, hml, ho, -⟩ := S
  intro T hT X
  rcases vx_callS X hx (bytes := bytes) (maxL := maxL) (ret := ret) ho hl hstt hini hcode hy hK hg (hsize.trans hml.symm) (argsL := As) (rest := rest) (fun sig h => hn.trans (hlen sig h)) hstack hW (by rw [hb]; exact hdg)
    (fun vm₁ hW₁ => ⟨hf.1, hf.2, hp.2 (T.setVm vm₁) hT hW₁⟩) with ⟨v, vm₁, ⟨U', l2, c2, s2⟩, hW₁, X', ⟨g', mk, t, L, e1, e2, hq, h1, hL, h2, h3⟩, st⟩ | ⟨q, vm₁, ⟨U', l2, c2, s2⟩, hW₁, X', ⟨g', mk, t, L, E, ce, e1, e2, hq, hce, hcv, hcl, h1, hL, h2, h3⟩, st⟩
  · dsimp only [Pt.U, Pt.locs, Pt.cells, Pt.slots] at X' e1 e2 h1 h2 h3 st
    subst h1; subst h2; subst h3
    exact Or.inl ⟨v, (T.setVm vm₁).calling g' mk As.toArray, t, U', L, hT, X', hL, e1, e2, hq, st⟩
  · dsimp only [Pt.U, Pt.locs, Pt.cells, Pt.slots] at X' e1 e2 h1 h2 h3 st hcl
    subst h1; subst h2; subst h3
    exact Or.inr ⟨q, (T.setVm vm₁).calling g' mk As.toArray, t, U', L, E, ce, hT, X', hL, e1, e2, hq, hce, hcv, vx_cls hW₁ hcl, st⟩
end Runs
section Rows
variable {p : Program} {l : Launch} {e : Env} {R : Room} {s : State} {m : MethodId} {args : Array Value} {below : List Frame} {meth : Method} {c : Code} {H : Heap} {locs : List Loc} {cells slots : Nat} {Q : State → Prop}
variable {mc ms : Nat} {free : Addr → Prop} {A0 A1 : Nat → Prop} {H0 : Heap} {a : Array Value} {pc : Nat} {ls : Array Slot} {st0 rest : List Value}
theorem vx_keep {st₀ t T' : State} {L : List Loc} (h0 : st₀.heap = H) (e1 : T'.heap = t.heap) (hS : va_S A0 H0 H locs) (hA : ∀ q, q < H.size → A1 q → A0 q) (hf : ∀ q, free q → A0 q) (hL : ∀ q ∈ L, free q.base) (hF : va_F A1 st₀ t) :
    H.size ≤ T'.heap.size ∧ (∀ q : Nat, q < H.size → ¬ A1 q → T'.heap[q]? = H[q]?) ∧ va_S A0 H0 T'.heap (locs ++ L) := by
  obtain ⟨hz, hk⟩ := hF
  rw [h0] at hz hk
  exact ⟨by rw [e1]; exact hz, fun q h1 h2 => by rw [e1]; exact hk q h1 h2,
    ⟨Nat.le_trans hS.1 (by rw [e1]; exact hz), fun q h1 h2 => by rw [e1, hk q (Nat.lt_of_lt_of_le h1 hS.1) (fun z => h2 (hA q (Nat.lt_of_lt_of_le h1 hS.1) z))]; exact hS.2.1 q h1 h2, fun q hq => by
      rcases List.mem_append.mp hq with h | h
      · exact hS.2.2 q h
      · exact hf _ (hL q h)⟩⟩
theorem vx_calli {S SX : Type} {post : Int32 → S → Prop} {px : SX → Prop} {B : S → State → Prop} {BX : String → SX → State → Prop} {AX : Nat → Prop} (hr : vx_Run p l e R s m args below meth c H locs cells slots mc ms (F0 m pc ls st0) rest (va_Qi post B A1 a) (vx_X px BX AX) free) (hS : va_S A0 H0 H locs) (hA : ∀ q, q < H.size → A1 q → A0 q) (hf : ∀ q, free q → A0 q) (hAX : ∀ q, q < H.size → AX q → A0 q)
    (kx : ∀ (E : String) (ce : Cell) (q9 : Addr) (u : SX) (t : State) (H1 : Heap) (locs1 : List Loc), t.heap = H1 → s.vm.Alike t.vm → px u → BX E u t → H.size ≤ H1.size → (∀ q : Nat, q < H.size → ¬ AX q → H1[q]? = H[q]?) → va_S A0 H0 H1 locs1 → H1[q9]? = some ce → ce.vm = .none → s.vm.findClass E = some ce.cls → vx_W p l e R s m args below meth c H1 locs1 (cells + mc) (slots + ms) Q (F0 m pc ls rest) q9)
    (kk : ∀ (r : Int32) (u : S) (t : State) (H1 : Heap) (locs1 : List Loc), t.heap = H1 → s.vm.Alike t.vm → post r u → B u t → H.size ≤ H1.size → (∀ q : Nat, q < H.size → ¬ A1 q → H1[q]? = H[q]?) → va_S A0 H0 H1 locs1 → W p l e R s m args below meth c H1 locs1 (cells + mc) (slots + ms) Q (F0 m (pc + 3) ls (.int r :: rest))) : W p l e R s m args below meth c H locs cells slots Q (F0 m pc ls st0) := by
  intro T hT X
  rcases hr T hT X with ⟨v, st₀, t, T', L, h0, X', hL, e1, e2, ⟨⟨r, u, hv, hp, hb⟩, hF⟩, st⟩ | ⟨q, st₀, t, T', L, E, ce, h0, X', hL, e1, e2, ⟨u, hp, hb, hF⟩, hce, hcv, hcl, st⟩
  · cases hv
    obtain ⟨k1, k2, k3⟩ := vx_keep h0 e1 hS hA hf hL hF
    obtain ⟨t2, a1, b1⟩ := kk r u t T'.heap (locs ++ L) e1.symm (by rw [← e2]; exact X'.warmed.alike) hp hb k1 k2 k3 T' rfl X'
    exact ⟨t2, st t2 a1, b1⟩
  · obtain ⟨k1, k2, k3⟩ := vx_keep h0 e1 hS hAX hf hL hF
    obtain ⟨t2, a1, b1⟩ := kx E ce q u t T'.heap (locs ++ L) e1.symm (by rw [← e2]; exact X'.warmed.alike) hp hb k1 k2 k3 (by rw [e1]; exact hce) hcv hcl T' rfl X'
    exact ⟨t2, st.trans a1, b1⟩
theorem vx_calll {S SX : Type} {post : Int64 → S → Prop} {px : SX → Prop} {B : S → State → Prop} {BX : String → SX → State → Prop} {AX : Nat → Prop} (hr : vx_Run p l e R s m args below meth c H locs cells slots mc ms (F0 m pc ls st0) rest (va_Ql post B A1 a) (vx_X px BX AX) free) (hS : va_S A0 H0 H locs) (hA : ∀ q, q < H.size → A1 q → A0 q) (hf : ∀ q, free q → A0 q) (hAX : ∀ q, q < H.size → AX q → A0 q)
    (kx : ∀ (E : String) (ce : Cell) (q9 : Addr) (u : SX) (t : State) (H1 : Heap) (locs1 : List Loc), t.heap = H1 → s.vm.Alike t.vm → px u → BX E u t → H.size ≤ H1.size → (∀ q : Nat, q < H.size → ¬ AX q → H1[q]? = H[q]?) → va_S A0 H0 H1 locs1 → H1[q9]? = some ce → ce.vm = .none → s.vm.findClass E = some ce.cls → vx_W p l e R s m args below meth c H1 locs1 (cells + mc) (slots + ms) Q (F0 m pc ls rest) q9)
    (kk : ∀ (r : Int64) (u : S) (t : State) (H1 : Heap) (locs1 : List Loc), t.heap = H1 → s.vm.Alike t.vm → post r u → B u t → H.size ≤ H1.size → (∀ q : Nat, q < H.size → ¬ A1 q → H1[q]? = H[q]?) → va_S A0 H0 H1 locs1 → W p l e R s m args below meth c H1 locs1 (cells + mc) (slots + ms) Q (F0 m (pc + 3) ls (.long r :: rest))) : W p l e R s m args below meth c H locs cells slots Q (F0 m pc ls st0) := by
  intro T hT X
  rcases hr T hT X with ⟨v, st₀, t, T', L, h0, X', hL, e1, e2, ⟨⟨r, u, hv, hp, hb⟩, hF⟩, st⟩ | ⟨q, st₀, t, T', L, E, ce, h0, X', hL, e1, e2, ⟨u, hp, hb, hF⟩, hce, hcv, hcl, st⟩
  · cases hv
    obtain ⟨k1, k2, k3⟩ := vx_keep h0 e1 hS hA hf hL hF
    obtain ⟨t2, a1, b1⟩ := kk r u t T'.heap (locs ++ L) e1.symm (by rw [← e2]; exact X'.warmed.alike) hp hb k1 k2 k3 T' rfl X'
    exact ⟨t2, st t2 a1, b1⟩
  · obtain ⟨k1, k2, k3⟩ := vx_keep h0 e1 hS hAX hf hL hF
    obtain ⟨t2, a1, b1⟩ := kx E ce q u t T'.heap (locs ++ L) e1.symm (by rw [← e2]; exact X'.warmed.alike) hp hb k1 k2 k3 (by rw [e1]; exact hce) hcv hcl T' rfl X'
    exact ⟨t2, st.trans a1, b1⟩
theorem vx_callf {S SX : Type} {post : UInt32 → S → Prop} {px : SX → Prop} {B : S → State → Prop} {BX : String → SX → State → Prop} {AX : Nat → Prop} (hr : vx_Run p l e R s m args below meth c H locs cells slots mc ms (F0 m pc ls st0) rest (va_Qf post B A1 a) (vx_X px BX AX) free) (hS : va_S A0 H0 H locs) (hA : ∀ q, q < H.size → A1 q → A0 q) (hf : ∀ q, free q → A0 q) (hAX : ∀ q, q < H.size → AX q → A0 q)
    (kx : ∀ (E : String) (ce : Cell) (q9 : Addr) (u : SX) (t : State) (H1 : Heap) (locs1 : List Loc), t.heap = H1 → s.vm.Alike t.vm → px u → BX E u t → H.size ≤ H1.size → (∀ q : Nat, q < H.size → ¬ AX q → H1[q]? = H[q]?) → va_S A0 H0 H1 locs1 → H1[q9]? = some ce → ce.vm = .none → s.vm.findClass E = some ce.cls → vx_W p l e R s m args below meth c H1 locs1 (cells + mc) (slots + ms) Q (F0 m pc ls rest) q9)
    (kk : ∀ (r : UInt32) (u : S) (t : State) (H1 : Heap) (locs1 : List Loc), t.heap = H1 → s.vm.Alike t.vm → post r u → B u t → H.size ≤ H1.size → (∀ q : Nat, q < H.size → ¬ A1 q → H1[q]? = H[q]?) → va_S A0 H0 H1 locs1 → W p l e R s m args below meth c H1 locs1 (cells + mc) (slots + ms) Q (F0 m (pc + 3) ls (.float r :: rest))) : W p l e R s m args below meth c H locs cells slots Q (F0 m pc ls st0) := by
  intro T hT X
  rcases hr T hT X with ⟨v, st₀, t, T', L, h0, X', hL, e1, e2, ⟨⟨r, u, hv, hp, hb⟩, hF⟩, st⟩ | ⟨q, st₀, t, T', L, E, ce, h0, X', hL, e1, e2, ⟨u, hp, hb, hF⟩, hce, hcv, hcl, st⟩
  · cases hv
    obtain ⟨k1, k2, k3⟩ := vx_keep h0 e1 hS hA hf hL hF
    obtain ⟨t2, a1, b1⟩ := kk r u t T'.heap (locs ++ L) e1.symm (by rw [← e2]; exact X'.warmed.alike) hp hb k1 k2 k3 T' rfl X'
    exact ⟨t2, st t2 a1, b1⟩
  · obtain ⟨k1, k2, k3⟩ := vx_keep h0 e1 hS hAX hf hL hF
    obtain ⟨t2, a1, b1⟩ := kx E ce q u t T'.heap (locs ++ L) e1.symm (by rw [← e2]; exact X'.warmed.alike) hp hb k1 k2 k3 (by rw [e1]; exact hce) hcv hcl T' rfl X'
    exact ⟨t2, st.trans a1, b1⟩
theorem vx_calld {S SX : Type} {post : UInt64 → S → Prop} {px : SX → Prop} {B : S → State → Prop} {BX : String → SX → State → Prop} {AX : Nat → Prop} (hr : vx_Run p l e R s m args below meth c H locs cells slots mc ms (F0 m pc ls st0) rest (va_Qd post B A1 a) (vx_X px BX AX) free) (hS : va_S A0 H0 H locs) (hA : ∀ q, q < H.size → A1 q → A0 q) (hf : ∀ q, free q → A0 q) (hAX : ∀ q, q < H.size → AX q → A0 q)
    (kx : ∀ (E : String) (ce : Cell) (q9 : Addr) (u : SX) (t : State) (H1 : Heap) (locs1 : List Loc), t.heap = H1 → s.vm.Alike t.vm → px u → BX E u t → H.size ≤ H1.size → (∀ q : Nat, q < H.size → ¬ AX q → H1[q]? = H[q]?) → va_S A0 H0 H1 locs1 → H1[q9]? = some ce → ce.vm = .none → s.vm.findClass E = some ce.cls → vx_W p l e R s m args below meth c H1 locs1 (cells + mc) (slots + ms) Q (F0 m pc ls rest) q9)
    (kk : ∀ (r : UInt64) (u : S) (t : State) (H1 : Heap) (locs1 : List Loc), t.heap = H1 → s.vm.Alike t.vm → post r u → B u t → H.size ≤ H1.size → (∀ q : Nat, q < H.size → ¬ A1 q → H1[q]? = H[q]?) → va_S A0 H0 H1 locs1 → W p l e R s m args below meth c H1 locs1 (cells + mc) (slots + ms) Q (F0 m (pc + 3) ls (.double r :: rest))) : W p l e R s m args below meth c H locs cells slots Q (F0 m pc ls st0) := by
  intro T hT X
  rcases hr T hT X with ⟨v, st₀, t, T', L, h0, X', hL, e1, e2, ⟨⟨r, u, hv, hp, hb⟩, hF⟩, st⟩ | ⟨q, st₀, t, T', L, E, ce, h0, X', hL, e1, e2, ⟨u, hp, hb, hF⟩, hce, hcv, hcl, st⟩
  · cases hv
    obtain ⟨k1, k2, k3⟩ := vx_keep h0 e1 hS hA hf hL hF
    obtain ⟨t2, a1, b1⟩ := kk r u t T'.heap (locs ++ L) e1.symm (by rw [← e2]; exact X'.warmed.alike) hp hb k1 k2 k3 T' rfl X'
    exact ⟨t2, st t2 a1, b1⟩
  · obtain ⟨k1, k2, k3⟩ := vx_keep h0 e1 hS hAX hf hL hF
    obtain ⟨t2, a1, b1⟩ := kx E ce q u t T'.heap (locs ++ L) e1.symm (by rw [← e2]; exact X'.warmed.alike) hp hb k1 k2 k3 (by rw [e1]; exact hce) hcv hcl T' rfl X'
    exact ⟨t2, st.trans a1, b1⟩
theorem vx_callv {S SX : Type} {post : S → Prop} {px : SX → Prop} {B : S → State → Prop} {BX : String → SX → State → Prop} {AX : Nat → Prop} (hr : vx_Run p l e R s m args below meth c H locs cells slots mc ms (F0 m pc ls st0) rest (va_Qv post B A1 a) (vx_X px BX AX) free) (hS : va_S A0 H0 H locs) (hA : ∀ q, q < H.size → A1 q → A0 q) (hf : ∀ q, free q → A0 q) (hAX : ∀ q, q < H.size → AX q → A0 q)
    (kx : ∀ (E : String) (ce : Cell) (q9 : Addr) (u : SX) (t : State) (H1 : Heap) (locs1 : List Loc), t.heap = H1 → s.vm.Alike t.vm → px u → BX E u t → H.size ≤ H1.size → (∀ q : Nat, q < H.size → ¬ AX q → H1[q]? = H[q]?) → va_S A0 H0 H1 locs1 → H1[q9]? = some ce → ce.vm = .none → s.vm.findClass E = some ce.cls → vx_W p l e R s m args below meth c H1 locs1 (cells + mc) (slots + ms) Q (F0 m pc ls rest) q9)
    (kk : ∀ (u : S) (t : State) (H1 : Heap) (locs1 : List Loc), t.heap = H1 → s.vm.Alike t.vm → post u → B u t → H.size ≤ H1.size → (∀ q : Nat, q < H.size → ¬ A1 q → H1[q]? = H[q]?) → va_S A0 H0 H1 locs1 → W p l e R s m args below meth c H1 locs1 (cells + mc) (slots + ms) Q (F0 m (pc + 3) ls (rest))) : W p l e R s m args below meth c H locs cells slots Q (F0 m pc ls st0) := by
  intro T hT X
  rcases hr T hT X with ⟨v, st₀, t, T', L, h0, X', hL, e1, e2, ⟨⟨u, hv, hp, hb⟩, hF⟩, st⟩ | ⟨q, st₀, t, T', L, E, ce, h0, X', hL, e1, e2, ⟨u, hp, hb, hF⟩, hce, hcv, hcl, st⟩
  · cases hv
    obtain ⟨k1, k2, k3⟩ := vx_keep h0 e1 hS hA hf hL hF
    obtain ⟨t2, a1, b1⟩ := kk u t T'.heap (locs ++ L) e1.symm (by rw [← e2]; exact X'.warmed.alike) hp hb k1 k2 k3 T' rfl X'
    exact ⟨t2, st t2 a1, b1⟩
  · obtain ⟨k1, k2, k3⟩ := vx_keep h0 e1 hS hAX hf hL hF
    obtain ⟨t2, a1, b1⟩ := kx E ce q u t T'.heap (locs ++ L) e1.symm (by rw [← e2]; exact X'.warmed.alike) hp hb k1 k2 k3 (by rw [e1]; exact hce) hcv hcl T' rfl X'
    exact ⟨t2, st.trans a1, b1⟩
end Rows
section Ends
variable {p : Program} {l : Launch} {e : Env} {R : Room} {s : State} {m : MethodId} {args : Array Value} {below : List Frame} {meth : Method} {c : Code} {H : Heap} {locs : List Loc} {cells slots : Nat} {Q : State → Prop}
variable {mc ms : Nat} {free : Addr → Prop} {A0 A1 : Nat → Prop} {H0 : Heap} {a : Array Value} {ls : Array Slot} {st0 rest : List Value}
variable {Qc : Array Value → State → Outcome → State → Prop} {XC : String → State → State → Prop}
/-- what a body that may throw owes at its end -/
def vx_MQ (below : List Frame) (Qc : Array Value → State → Outcome → State → Prop) (XC : String → State → State → Prop) (a : Array Value) (s : State) (mc ms : Nat) (free : Addr → Prop) : State → Prop := fun t =>
  ∃ o, t.status = .running ∧ Ended t below o ∧ vx_Q Qc XC mc ms free a s o t
theorem vx_ret {g : JFrame} {mc ms : Nat} (k : W p l e R s m args below meth c H locs cells slots (MQ below Qc args s mc ms free) g) : W p l e R s m args below meth c H locs cells slots (vx_MQ below Qc XC args s mc ms free) g := by
  intro T hT X
  obtain ⟨t, a1, o, b1, b2, b3, b4⟩ := k T hT X
  exact ⟨t, a1, o, b1, b2, Or.inl ⟨b3, b4⟩⟩
/-- not caught here: it goes on to the caller -/
theorem vx_widen {g : JFrame} {q : Addr} {k n : Nat} (h1 : cells ≤ k) (h2 : slots ≤ n) (kk : vx_W p l e R s m args below meth c H locs k n Q g q) : vx_W p l e R s m args below meth c H locs cells slots Q g q := fun T hT X => kk T hT (stand_widen X h1 h2)
theorem vx_out {pc : Nat} {E : String} {ce : Cell} {q : Addr} {mc ms : Nat} (hout : ∀ x ∈ c.exceptionTable.toList, covers x pc = false) (hlocks : meth.locks = false) (hcell : H[q]? = some ce) (hv : ce.vm = .none) (hcl : s.vm.findClass E = some ce.cls)
    (hx : ∀ t : State, t.heap = H → s.vm.Alike t.vm → XC E s t) (hf : ∀ z ∈ locs, free z.base) (hc : cells ≤ mc) (hs : slots ≤ ms) :
    vx_W p l e R s m args below meth c H locs cells slots (vx_MQ below Qc XC args s mc ms free) (F0 m pc ls rest) q := by
  intro T hT X
  obtain ⟨st1, hrun, hend, hW, hsm⟩ := X.leaveThrown q (g := F0 m pc ls rest) rfl rfl rfl hout hlocks
  have hcell9 : (T.setFrames (.throwing q :: below)).heap[q]? = some ce := by
    show T.heap[q]? = some ce
    rw [hT]; exact hcell
  exact ⟨_, st1, .threw q, hrun, hend, Or.inr ⟨q, rfl, E, ce, locs, hx _ hT hW.alike, hcell9, hv, hcl, hW, hsm.mono hc hs, hf⟩⟩
theorem vx_frame {U : State} {k n : Nat} (h : s.sameButNew ({ U with vm := s.vm } : State) locs k n) : s.heap.size ≤ U.heap.size ∧ ∀ q : Nat, q < s.heap.size → (∀ z ∈ locs, z.base ≠ q) → U.heap[q]? = s.heap[q]? := by
  obtain ⟨-, h2, -, -, -, h6⟩ := h
  refine ⟨h2, fun q hq hz => ?_⟩
  obtain ⟨c9, e1, e2, e3, e4⟩ := h6 q _ (Array.getElem?_eq_getElem hq)
  have hs : c9.slots = (s.heap[q]).slots := Array.ext_getElem? fun i => e4 i fun hm => hz _ hm rfl
  have h9 : c9 = s.heap[q] := by
    rw [hs] at e2
    exact e2
  have e5 : U.heap[q]? = some c9 := e1
  rw [e5, h9, Array.getElem?_eq_getElem hq]
/-- the words of a throw but the four that speak of the heap -/
def vx_no (w : Cond) : Bool := decide (w ≠ .isRef (.static Bundle.tN "UNASSIGNED_STACK" Bundle.steD)) && decide (w ≠ .isRef (.static Bundle.tN "SUPPRESSED_SENTINEL" Bundle.listD)) && decide (w ≠ .laysStatic Bundle.tN "UNASSIGNED_STACK" Bundle.steD) && decide (w ≠ .laysStatic Bundle.tN "SUPPRESSED_SENTINEL" Bundle.listD)
def vx_at0 (own : String) (ic : Nat) (X : String) (names : List String) : List Cond := (Bundle.ownAtoms0 own ic X names).filter vx_no
def vx_atS (own : String) (ic : Nat) (X : String) (names : List String) : List Cond := (Bundle.ownAtoms own ic X names).filter vx_no
/-- a word that the tables alone decide, or a good one -/
def vx_ot (w : Cond) : Bool := w.onTables || goodWord w
theorem vx_ot_at {args a' : Array Value} {s U : State} {w : Cond} (hW : s.WarmedH U.vm) (hvm : s.vm = U.vm) (hg : vx_ot w = true) (h : w.before args s = true) : w.before a' U = true := by
  simp only [vx_ot, Bool.or_eq_true] at hg
  rcases hg with hg | hg
  · exact va_tabs hg hvm h
  · exact word_at hW (good_of_word hg) h
/-- a list's words: the good ones out of the method's own list, the others by premises of their own -/
theorem vx_hat {args : Array Value} {s : State} {L B : List Cond} (h1 : ∀ w ∈ L.filter goodWord, w.before args s = true) (h2 : ∀ w ∈ L.filter (fun w => !goodWord w), w ∈ B) (h3 : ∀ w ∈ B, w.before args s = true) : ∀ w ∈ L, w.before args s = true := by
  intro w hw
  by_cases g : goodWord w = true
  · exact h1 w (List.mem_filter.mpr ⟨hw, g⟩)
  · refine h3 w (h2 w (List.mem_filter.mpr ⟨hw, ?_⟩))
    show (!goodWord w) = true
    cases hgw : goodWord w
    · rfl
    · exact absurd hgw g
theorem vx_c {args : Array Value} {s : State} {w : Cond} {B : List Cond} (h : w.before args s = true) (t : ∀ w ∈ B, w.before args s = true) : ∀ w' ∈ w :: B, w'.before args s = true := fun w' h' => (List.mem_cons.mp h').elim (fun e => by rw [e]; exact h) (t w')
theorem vx_n {args : Array Value} {s : State} : ∀ w ∈ ([] : List Cond), w.before args s = true := fun _ h => nomatch h
theorem vx_own {args : Array Value} {s : State} {L : List Cond} (h1 : ∀ w ∈ L.filter vx_no, w.before args s = true)
    (hU : (Cond.isRef (.static Bundle.tN "UNASSIGNED_STACK" Bundle.steD)).before args s = true) (hN : (Cond.isRef (.static Bundle.tN "SUPPRESSED_SENTINEL" Bundle.listD)).before args s = true)
    (lU : (Cond.laysStatic Bundle.tN "UNASSIGNED_STACK" Bundle.steD).before args s = true) (lN : (Cond.laysStatic Bundle.tN "SUPPRESSED_SENTINEL" Bundle.listD).before args s = true) : ∀ w ∈ L, w.before args s = true := by
  intro w hw
  by_cases e1 : w = .isRef (.static Bundle.tN "UNASSIGNED_STACK" Bundle.steD)
  · rw [e1]; exact hU
  · by_cases e2 : w = .isRef (.static Bundle.tN "SUPPRESSED_SENTINEL" Bundle.listD)
    · rw [e2]; exact hN
    · by_cases e3 : w = .laysStatic Bundle.tN "UNASSIGNED_STACK" Bundle.steD
      · rw [e3]; exact lU
      · by_cases e4 : w = .laysStatic Bundle.tN "SUPPRESSED_SENTINEL" Bundle.listD
        · rw [e4]; exact lN
        · exact h1 w (List.mem_filter.mpr ⟨hw, by unfold vx_no; rw [decide_eq_true e1, decide_eq_true e2, decide_eq_true e3, decide_eq_true e4]; rfl⟩)
/-- where a static field lies, its class's statics cell in H -/
def vx_L (C n d : String) (A : Nat → Prop) (U : State) (H : Heap) : Prop := ∃ (c : ClassId) (k : Class) (i : Nat) (f : Field) (a : Nat) (cell : Cell), U.vm.findClass C = some c ∧ U.fieldFound? C n d = some (c, k, i, f) ∧ f.isStatic = true ∧ k.statics = some a ∧ H[a]? = some cell ∧ cell.vm.isStatics = true ∧ cell.cls = c ∧ f.slot < cell.slots.size ∧ k.staticTypes[f.slot]? = some f.type ∧ ¬ A a
theorem vx_L.moved {C n d : String} {A : Nat → Prop} {u U : State} {H : Heap} (hvm : u.vm.Alike U.vm) (h : vx_L C n d A u H) : vx_L C n d A U H := by
  obtain ⟨c, k, i, f, a, cell, h1, h2, h3, h4, h5, h6, h7, h8, h9, h10⟩ := h
  obtain ⟨k', hi', he⟩ := State.fieldFound?_setVm hvm h2
  exact ⟨c, k', i, f, a, cell, by rw [hvm.findClass]; exact h1, hi', h3, by rw [he]; exact h4, h5, h6, h7, h8, by rw [he]; exact h9, h10⟩
theorem vx_L.kept {C n d : String} {A : Nat → Prop} {U : State} {H H1 : Heap} (h : vx_L C n d A U H) (hq : ∀ a : Nat, a < H.size → ¬ A a → H1[a]? = H[a]?) : vx_L C n d A U H1 := by
  obtain ⟨c, k, i, f, a, cell, h1, h2, h3, h4, h5, h6, h7, h8, h9, h10⟩ := h
  exact ⟨c, k, i, f, a, cell, h1, h2, h3, h4, by rw [hq a (Array.getElem?_eq_some_iff.mp h5).1 h10]; exact h5, h6, h7, h8, h9, h10⟩
theorem vx_L.narrow {C n d : String} {A B : Nat → Prop} {U : State} {H : Heap} (h : vx_L C n d A U H) (hAB : ∀ q, B q → A q) : vx_L C n d B U H := by
  obtain ⟨c, k, i, f, a, cell, h1, h2, h3, h4, h5, h6, h7, h8, h9, h10⟩ := h
  exact ⟨c, k, i, f, a, cell, h1, h2, h3, h4, h5, h6, h7, h8, h9, fun z => h10 (hAB _ z)⟩
theorem vx_L.word {C n d : String} {A : Nat → Prop} {s : State} {args : Array Value} (h : vx_L C n d A s s.heap) : (Cond.laysStatic C n d).before args s = true := by
  obtain ⟨c, k, i, f, a, cell, h1, h2, h3, h4, h5, h6, h7, h8, h9, -⟩ := h
  show (Cond.laysStatic C n d).holds args s none s [] = true
  exact Cond.laysStatic_of h1 h2 h3 h4 h5 h6 h7 h8 h9
/-- .. and what it holds: null or some reference -/
def vx_Zq (C n d : String) (A : Nat → Prop) (U : State) (H : Heap) : Prop := va_Zq C n d A U H ∧ vx_L C n d A U H
theorem vx_Zq.moved {C n d : String} {A : Nat → Prop} {u U : State} {H : Heap} (hvm : u.vm.Alike U.vm) (h : vx_Zq C n d A u H) : vx_Zq C n d A U H := ⟨va_Zq.moved hvm h.1, vx_L.moved hvm h.2⟩
theorem vx_Zq.kept {C n d : String} {A : Nat → Prop} {U : State} {H H1 : Heap} (h : vx_Zq C n d A U H) (hq : ∀ a : Nat, a < H.size → ¬ A a → H1[a]? = H[a]?) : vx_Zq C n d A U H1 := ⟨va_Zq.kept h.1 hq, vx_L.kept h.2 hq⟩
theorem vx_Zq.narrow {C n d : String} {A B : Nat → Prop} {U : State} {H : Heap} (h : vx_Zq C n d A U H) (hAB : ∀ q, B q → A q) : vx_Zq C n d B U H := ⟨va_Zq.narrow h.1 hAB, vx_L.narrow h.2 hAB⟩
theorem vx_Zqof {args : Array Value} {s : State} {C n d : String} {A : Nat → Prop} (hl : (Cond.laysStatic C n d).before args s = true) (hini : (Cond.initialized C).before args s = true) (h : (Cond.isRef (.static C n d)).before args s = true) (hA : ∀ a : Nat, a < s.heap.size → ¬ A a) : vx_Zq C n d A s s.heap := by
  refine ⟨va_Zqof hl hini h hA, ?_⟩
  obtain ⟨c, k, i, f, a, cell, h1, h2, h3, h4, h5, h6, h7, h8, h9⟩ := Cond.laysStatic_spec hl
  exact ⟨c, k, i, f, a, cell, h1, h2, h3, h4, h5, h6, h7, h8, h9, hA a (Array.getElem?_eq_some_iff.mp h5).1⟩
theorem vx_isRef {C n d : String} {v : Value} {A : Nat → Prop} {s : State} {args : Array Value} (h : va_Z C n d v A s s.heap) (hv : v.isRef = true) : (Cond.isRef (.static C n d)).before args s = true := by
  obtain ⟨cf, kf, fi, f, a, cell, h1, h2, h3, h4, h5, h6, h7, -⟩ := h
  have he : (Term.static C n d).eval args s none [] s = some v := by
    simp [Term.eval, State.fieldNamed?, h1, h2, h4, h5, h6, h7]
  simp only [Cond.before, Cond.holds, Cond.value, he]
  cases v <;> simp_all [Value.isRef]
theorem vx_isRefq {C n d : String} {A : Nat → Prop} {s : State} {args : Array Value} (h : va_Zq C n d A s s.heap) : (Cond.isRef (.static C n d)).before args s = true := by
  rcases h with h | ⟨t, h⟩
  · exact vx_isRef h rfl
  · exact vx_isRef h rfl
/-- the same frame, seen from here: as if the method were called anew in this heap -/
theorem vx_rebase {T : State} (X : Stand p l e R s m args below meth c T locs cells slots) {R' : Room} (hf : R'.frames ≤ R.frames) (hl : R'.locals ≤ R.locals) (hc : cells + R'.cells ≤ R.cells) (hs : slots + R'.slots ≤ R.slots) :
    Stand p l e R' ((T.setVm s.vm).setFrames (.invoking m args :: below)) m args below meth c T [] 0 0 := by
  have htop : (T.setVm s.vm).topJava?.isSome := X.here.top
  have hF : ((T.setVm s.vm).setFrames (.invoking m args :: below)).frames = .invoking m args :: below := State.frames_setFrames _ (State.cur_lt_of_top htop)
  obtain ⟨g₀, hg0⟩ := Option.isSome_iff_exists.mp htop
  obtain ⟨r, hr⟩ := State.topJava?_eq_some.mp hg0
  have hl9 : e.platform.stackLimits (T.setVm s.vm).me = e.platform.stackLimits s.me := X.limits
  have hb9 : (T.setVm s.vm).me.stackBytes = s.me.stackBytes := X.bytes
  refine ⟨X.admits, X.cas, X.clock, hF, ?_, X.hears, X.method, X.code, X.here, X.tail, X.warmed, ?_, ?_, ?_⟩
  · have h := X.room
    have hU : ((T.setVm s.vm).setFrames (.invoking m args :: below)).localsInUse = s.localsInUse := by
      rw [State.localsInUse_invoking hF (meth := meth) (c := c) X.method X.code, State.localsInUse_invoking X.frames X.method X.code]
    simp only [State.hasRoom, Bool.and_eq_true, decide_eq_true_eq] at h ⊢
    obtain ⟨⟨⟨⟨h1, h2, h3, h4, h5, h6⟩, h7⟩, h8⟩, h9⟩ := h
    rw [X.frames, List.length_cons] at h2 h3
    have q1 := X.heapSize
    have q2 := X.used
    simp only [hF, hU, List.length_cons, State.stackLimits_setFrames, State.stackBytes_setFrames, hl9, hb9]
    refine ⟨⟨⟨⟨by omega, by omega, by omega, by omega, by omega, h6⟩, ?_⟩, ?_⟩, X.book⟩
    · show T.heap.size + R'.cells ≤ e.platform.maxCells
      omega
    · show T.slotsUsed + R'.slots ≤ e.platform.maxSlots
      omega
  · rw [State.stackLimits_setFrames]; rfl
  · rw [State.stackBytes_setFrames]; rfl
  · refine ⟨?_, Nat.le_refl _, Nat.le_refl _, ?_, ?_, fun a c9 h9 => ⟨c9, h9, rfl, rfl, fun _ _ => rfl⟩⟩
    · obtain ⟨t, ht, -⟩ := State.frames_cons hr
      show T.setVm s.vm = { ((T.setVm s.vm).setFrames (.invoking m args :: below)).setFrames (T.setVm s.vm).frames with heap := T.heap, slotsUsed := T.slotsUsed }
      rw [State.setFrames_setFrames, State.setFrames_self ht]
      rfl
    · show T.slotsUsed = T.slotsUsed + ((T.heap.toList.drop T.heap.size).map (·.slots.size)).sum
      rw [List.drop_eq_nil_of_le (Nat.le_of_eq Array.length_toList)]
      rfl
    · show ((T.heap.toList.drop T.heap.size).map (·.slots.size)).sum ≤ 0
      rw [List.drop_eq_nil_of_le (Nat.le_of_eq Array.length_toList)]
      exact Nat.le_refl _
/-- 'throw new E()': new; dup; invokespecial; athrow -/
theorem vx_throw0 {cc : ByteArray} {pc : Nat} (hexec : p.tables.exec = Jvm.exec) (hb : c.code = cc) (hl : l.stackTraces = false) {own cls : String} {names : List String} {ik ic mc ms : Nat} {A : Nat → Prop}
    (hown : s.vm.findClass own = some m.cls) (hcls : Bundle.fit cls = true) (hnames : ∀ n ∈ names, Bundle.fit n = true)
    (hk : (Cond.classLink own ik cls).before args s = true) (hini : (Cond.initialized cls).before args s = true) (hat : ∀ w ∈ vx_at0 own ic cls names, w.before args s = true)
    (hgood : ∀ w ∈ Cond.classLink own ik cls :: Cond.initialized cls :: vx_at0 own ic cls names, vx_ot w = true)
    (hU : vx_Zq Bundle.tN "UNASSIGNED_STACK" Bundle.steD A s s.heap) (hN : vx_Zq Bundle.tN "SUPPRESSED_SENTINEL" Bundle.listD A s s.heap) (hS : va_S A s.heap H locs) (hsize : ls.size = c.maxLocals)
    (d0 : decode cc pc = .ok (.new ik, 3)) (d3 : decode cc (pc + 3) = .ok (.dup, 1)) (d4 : decode cc (pc + 4) = .ok (.invokespecial ic, 3)) (d7 : decode cc (pc + 7) = .ok (.athrow, 1))
    (hout : ∀ x ∈ c.exceptionTable.toList, covers x (pc + 7) = false)
    (hRframes : names.length + 3 < R.frames) (hRlocals : (rest.map fun v => v.category).sum + (13 * (names.length + 1) + 42) ≤ R.locals) (hRcells : cells + 1 ≤ R.cells) (hRslots : slots + 6 ≤ R.slots) (hlocks : meth.locks = false)
    (hx : ∀ t : State, s.vm.Alike t.vm → H.size ≤ t.heap.size → (∀ q : Nat, q < H.size → t.heap[q]? = H[q]?) → XC cls s t)
    (hf : ∀ z ∈ locs, free z.base) (hc : cells + 1 ≤ mc) (hs : slots + 6 ≤ ms) :
    W p l e R s m args below meth c H locs cells slots (vx_MQ below Qc XC args s mc ms free) (F0 m pc ls rest) := by
  intro T hT X
  have htr : e.platform.stackTraces = false := (show e.platform.stackTraces = l.stackTraces by rw [X.admits.platform]).trans hl
  have Y := vx_rebase X (R' := { frames := R.frames, locals := R.locals, cells := 1, slots := 6 }) (Nat.le_refl _) (Nat.le_refl _) hRcells hRslots
  obtain ⟨s', hA⟩ : ∃ z, z = (T.setVm s.vm).setFrames (.invoking m args :: below) := ⟨_, rfl⟩
  rw [← hA] at Y
  have hvm : s'.vm = s.vm := by rw [hA]; rfl
  have hhp : s'.heap = H := by rw [hA]; exact hT
  have hW0 : s.WarmedH s'.vm := by rw [hvm]; exact State.WarmedH.refl s
  have hat' : ∀ w ∈ vx_at0 own ic cls names, w.before args s' = true := fun w hw => vx_ot_at hW0 hvm.symm (hgood w (List.mem_cons_of_mem _ (List.mem_cons_of_mem _ hw))) (hat w hw)
  have hk' : (Cond.classLink own ik cls).before args s' = true := vx_ot_at hW0 hvm.symm (hgood _ List.mem_cons_self) hk
  have hini' : (Cond.initialized cls).before args s' = true := vx_ot_at hW0 hvm.symm (hgood _ (List.mem_cons_of_mem _ List.mem_cons_self)) hini
  have hU' : vx_Zq Bundle.tN "UNASSIGNED_STACK" Bundle.steD A s' s'.heap := by rw [hhp]; exact vx_Zq.moved hW0.alike (hU.kept hS.2.1)
  have hN' : vx_Zq Bundle.tN "SUPPRESSED_SENTINEL" Bundle.listD A s' s'.heap := by rw [hhp]; exact vx_Zq.moved hW0.alike (hN.kept hS.2.1)
  have h : ∀ w ∈ Bundle.ownAtoms0 own ic cls names, w.before args s' = true := vx_own hat' (vx_isRefq hU'.1) (vx_isRefq hN'.1) hU'.2.word hN'.2.word
  have hown' : s'.vm.findClass own = some m.cls := by rw [hvm]; exact hown
  have hins : (Cond.instantiable cls 6).before args s' = true := h _ (by simp [Bundle.ownAtoms0])
  obtain ⟨vm₁, cX, kX, hfX, hkX, -, -, X₁, st1⟩ := Y.newCold hexec (own := own) (C := cls) (index := ik) (n := 6) hown' hk' hins hini'
    (g := F0 m pc ls rest) rfl (by rw [hb]; exact d0) (Nat.le_refl _) (Nat.le_refl _)
  generalize hT1 : (T.setVm vm₁).pushCell { cls := cX, slots := kX.instanceTypes.map defaultValue, vm := .none } = T1 at X₁ st1
  have hcat : (Value.ref T.heap.size).category = 1 := rfl
  have hcellA : T1.heap[T.heap.size]? = some (freshCell cX kX) := by rw [← hT1]; exact State.heap_pushCell_size _ _
  have d3' : decode c.code (pc + 3) = .ok (.dup, 1) := by rw [hb]; exact d3
  obtain ⟨U, hsteps, hrun, hend, hW, hsame, ce, hce, hO⟩ := X₁.ctorThrow0 hexec htr (own := own) (cls := cls) (names := names) (ic := ic) hown' hcls hnames h (fun x hx => nomatch hx) hfX hkX hcellA (by rw [hhp, hT]; exact Nat.le_refl _)
    (g := { method := m, pc := pc + 4, locals := ls, stack := .ref T.heap.size :: .ref T.heap.size :: rest, locked := none }) rfl hsize rfl rfl (rest := rest) rfl
    (by rw [hb]; exact d4) (by rw [hb]; exact d7) hout hRframes (by simp only [List.map_cons, List.sum_cons, hcat]; omega) hlocks
  obtain ⟨f1, f2⟩ := vx_frame hsame
  rw [hhp] at f1 f2
  have hWs : s.WarmedH U.vm := State.WarmedH.trans hW0 hW
  have hcl : s.vm.findClass cls = some ce.cls := by
    have h9 := hO.cls
    rw [hvm] at h9
    exact h9
  have hall : s.sameButNew ({ U with vm := s.vm } : State) locs mc ms := by
    subst hA
    obtain ⟨e1, e2⟩ := hsame
    rw [State.setFrames_setFrames] at e1
    have h2 : (T.setVm s.vm).sameButNew ({ U with vm := s.vm } : State) [] (0 + 1) (0 + 6) := ⟨e1, e2⟩
    have h3 := X.same.trans h2
    rw [List.append_nil] at h3
    exact h3.mono hc hs
  refine ⟨U, ?_, .threw T.heap.size, hrun, hend, Or.inr ⟨T.heap.size, rfl, cls, ce, locs, hx U hWs.alike f1 (fun q hq => f2 q hq (fun z hz => nomatch hz)), hce, hO.vm, hcl, hWs, hall, hf⟩⟩
  refine st1 _ ?_
  show Steps p.tables e below (T1.setTop { method := m, pc := pc + 3, locals := ls, stack := .ref T.heap.size :: rest, locked := none }) _
  jvm_step X₁.here [X₁.here.top, hexec, d3', Value.category]
  exact hsteps
/-- 'throw new E("text")': new; dup; ldc; invokespecial; athrow -/
theorem vx_throwS {cc : ByteArray} {pc : Nat} (hexec : p.tables.exec = Jvm.exec) (hb : c.code = cc) (hl : l.stackTraces = false) {own cls text : String} {names : List String} {ik is ic mc ms sa : Nat} {A : Nat → Prop}
    (hown : s.vm.findClass own = some m.cls) (hcls : Bundle.fit cls = true) (hnames : ∀ n ∈ names, Bundle.fit n = true)
    (hk : (Cond.classLink own ik cls).before args s = true) (hini : (Cond.initialized cls).before args s = true) (hstr : vk_R own is text sa s) (hat : ∀ w ∈ vx_atS own ic cls names, w.before args s = true)
    (hgood : ∀ w ∈ Cond.classLink own ik cls :: Cond.initialized cls :: vx_atS own ic cls names, vx_ot w = true)
    (hU : vx_Zq Bundle.tN "UNASSIGNED_STACK" Bundle.steD A s s.heap) (hN : vx_Zq Bundle.tN "SUPPRESSED_SENTINEL" Bundle.listD A s s.heap) (hS : va_S A s.heap H locs) (hsize : ls.size = c.maxLocals)
    (d0 : decode cc pc = .ok (.new ik, 3)) (d3 : decode cc (pc + 3) = .ok (.dup, 1)) (d4 : decode cc (pc + 4) = .ok (.ldc is, 2)) (d6 : decode cc (pc + 6) = .ok (.invokespecial ic, 3)) (d9 : decode cc (pc + 9) = .ok (.athrow, 1))
    (hout : ∀ x ∈ c.exceptionTable.toList, covers x (pc + 9) = false)
    (hRframes : names.length + 3 < R.frames) (hRlocals : (rest.map fun v => v.category).sum + (13 * (names.length + 1) + 43) ≤ R.locals) (hRcells : cells + 1 ≤ R.cells) (hRslots : slots + 6 ≤ R.slots) (hlocks : meth.locks = false)
    (hx : ∀ t : State, s.vm.Alike t.vm → H.size ≤ t.heap.size → (∀ q : Nat, q < H.size → t.heap[q]? = H[q]?) → XC cls s t)
    (hf : ∀ z ∈ locs, free z.base) (hc : cells + 1 ≤ mc) (hs : slots + 6 ≤ ms) :
    W p l e R s m args below meth c H locs cells slots (vx_MQ below Qc XC args s mc ms free) (F0 m pc ls rest) := by
  intro T hT X
  have htr : e.platform.stackTraces = false := (show e.platform.stackTraces = l.stackTraces by rw [X.admits.platform]).trans hl
  have Y := vx_rebase X (R' := { frames := R.frames, locals := R.locals, cells := 1, slots := 6 }) (Nat.le_refl _) (Nat.le_refl _) hRcells hRslots
  obtain ⟨s', hA⟩ : ∃ z, z = (T.setVm s.vm).setFrames (.invoking m args :: below) := ⟨_, rfl⟩
  rw [← hA] at Y
  have hvm : s'.vm = s.vm := by rw [hA]; rfl
  have hhp : s'.heap = H := by rw [hA]; exact hT
  have hW0 : s.WarmedH s'.vm := by rw [hvm]; exact State.WarmedH.refl s
  have hat' : ∀ w ∈ vx_atS own ic cls names, w.before args s' = true := fun w hw => vx_ot_at hW0 hvm.symm (hgood w (List.mem_cons_of_mem _ (List.mem_cons_of_mem _ hw))) (hat w hw)
  have hk' : (Cond.classLink own ik cls).before args s' = true := vx_ot_at hW0 hvm.symm (hgood _ List.mem_cons_self) hk
  have hini' : (Cond.initialized cls).before args s' = true := vx_ot_at hW0 hvm.symm (hgood _ (List.mem_cons_of_mem _ List.mem_cons_self)) hini
  have hU' : vx_Zq Bundle.tN "UNASSIGNED_STACK" Bundle.steD A s' s'.heap := by rw [hhp]; exact vx_Zq.moved hW0.alike (hU.kept hS.2.1)
  have hN' : vx_Zq Bundle.tN "SUPPRESSED_SENTINEL" Bundle.listD A s' s'.heap := by rw [hhp]; exact vx_Zq.moved hW0.alike (hN.kept hS.2.1)
  have h : ∀ w ∈ Bundle.ownAtoms own ic cls names, w.before args s' = true := vx_own hat' (vx_isRefq hU'.1) (vx_isRefq hN'.1) hU'.2.word hN'.2.word
  have hown' : s'.vm.findClass own = some m.cls := by rw [hvm]; exact hown
  have hins : (Cond.instantiable cls 6).before args s' = true := h _ (by simp [Bundle.ownAtoms])
  obtain ⟨vm₁, cX, kX, hfX, hkX, -, -, X₁, st1⟩ := Y.newCold hexec (own := own) (C := cls) (index := ik) (n := 6) hown' hk' hins hini'
    (g := F0 m pc ls rest) rfl (by rw [hb]; exact d0) (Nat.le_refl _) (Nat.le_refl _)
  generalize hT1 : (T.setVm vm₁).pushCell { cls := cX, slots := kX.instanceTypes.map defaultValue, vm := .none } = T1 at X₁ st1
  have hcat : (Value.ref T.heap.size).category = 1 := rfl
  have hcellA : T1.heap[T.heap.size]? = some (freshCell cX kX) := by rw [← hT1]; exact State.heap_pushCell_size _ _
  have d3' : decode c.code (pc + 3) = .ok (.dup, 1) := by rw [hb]; exact d3
  have d4' : decode c.code (pc + 4) = .ok (.ldc is, 2) := by rw [hb]; exact d4
  have hstr' : vk_R own is text sa s' := vk_R.warm hW0 hstr
  obtain ⟨U, hsteps, hrun, hend, hW, hsame, ce, hce, hO⟩ := X₁.ctorThrowS hexec htr (own := own) (cls := cls) (names := names) (ic := ic) hown' hcls hnames h (fun x hx => nomatch hx) hfX hkX hcellA (by rw [hhp, hT]; exact Nat.le_refl _) (msg := .ref sa) rfl
    (g := { method := m, pc := pc + 6, locals := ls, stack := .ref sa :: .ref T.heap.size :: .ref T.heap.size :: rest, locked := none }) rfl hsize rfl rfl (rest := rest) rfl
    (by rw [hb]; exact d6) (by rw [hb]; exact d9) hout hRframes (by simp only [List.map_cons, List.sum_cons, hcat]; omega) hlocks
  obtain ⟨f1, f2⟩ := vx_frame hsame
  rw [hhp] at f1 f2
  have hWs : s.WarmedH U.vm := State.WarmedH.trans hW0 hW
  have hcl : s.vm.findClass cls = some ce.cls := by
    have h9 := hO.cls
    rw [hvm] at h9
    exact h9
  have hall : s.sameButNew ({ U with vm := s.vm } : State) locs mc ms := by
    subst hA
    obtain ⟨e1, e2⟩ := hsame
    rw [State.setFrames_setFrames] at e1
    have h2 : (T.setVm s.vm).sameButNew ({ U with vm := s.vm } : State) [] (0 + 1) (0 + 6) := ⟨e1, e2⟩
    have h3 := X.same.trans h2
    rw [List.append_nil] at h3
    exact h3.mono hc hs
  refine ⟨U, ?_, .threw T.heap.size, hrun, hend, Or.inr ⟨T.heap.size, rfl, cls, ce, locs, hx U hWs.alike f1 (fun q hq => f2 q hq (fun z hz => nomatch hz)), hce, hO.vm, hcl, hWs, hall, hf⟩⟩
  refine st1 _ ?_
  show Steps p.tables e below (T1.setTop { method := m, pc := pc + 3, locals := ls, stack := .ref T.heap.size :: rest, locked := none }) _
  jvm_step X₁.here [X₁.here.top, hexec, d3', Value.category]
  exact X₁.ldcString hexec (own := own) (text := text) (index := is) (a := sa) hown' hstr'.1 hstr'.2
    (g := { method := m, pc := pc + 4, locals := ls, stack := .ref T.heap.size :: .ref T.heap.size :: rest, locked := none }) rfl d4' _ hsteps
/-- 'throw new E("text")', the text by a wide index -/
theorem vx_throwSW {cc : ByteArray} {pc : Nat} (hexec : p.tables.exec = Jvm.exec) (hb : c.code = cc) (hl : l.stackTraces = false) {own cls text : String} {names : List String} {ik is ic mc ms sa : Nat} {A : Nat → Prop}
    (hown : s.vm.findClass own = some m.cls) (hcls : Bundle.fit cls = true) (hnames : ∀ n ∈ names, Bundle.fit n = true)
    (hk : (Cond.classLink own ik cls).before args s = true) (hini : (Cond.initialized cls).before args s = true) (hstr : vk_R own is text sa s) (hat : ∀ w ∈ vx_atS own ic cls names, w.before args s = true)
    (hgood : ∀ w ∈ Cond.classLink own ik cls :: Cond.initialized cls :: vx_atS own ic cls names, vx_ot w = true)
    (hU : vx_Zq Bundle.tN "UNASSIGNED_STACK" Bundle.steD A s s.heap) (hN : vx_Zq Bundle.tN "SUPPRESSED_SENTINEL" Bundle.listD A s s.heap) (hS : va_S A s.heap H locs) (hsize : ls.size = c.maxLocals)
    (d0 : decode cc pc = .ok (.new ik, 3)) (d3 : decode cc (pc + 3) = .ok (.dup, 1)) (d4 : decode cc (pc + 4) = .ok (.ldc_w is, 3)) (d7 : decode cc (pc + 7) = .ok (.invokespecial ic, 3)) (d10 : decode cc (pc + 10) = .ok (.athrow, 1))
    (hout : ∀ x ∈ c.exceptionTable.toList, covers x (pc + 10) = false)
    (hRframes : names.length + 3 < R.frames) (hRlocals : (rest.map fun v => v.category).sum + (13 * (names.length + 1) + 43) ≤ R.locals) (hRcells : cells + 1 ≤ R.cells) (hRslots : slots + 6 ≤ R.slots) (hlocks : meth.locks = false)
    (hx : ∀ t : State, s.vm.Alike t.vm → H.size ≤ t.heap.size → (∀ q : Nat, q < H.size → t.heap[q]? = H[q]?) → XC cls s t)
    (hf : ∀ z ∈ locs, free z.base) (hc : cells + 1 ≤ mc) (hs : slots + 6 ≤ ms) :
    W p l e R s m args below meth c H locs cells slots (vx_MQ below Qc XC args s mc ms free) (F0 m pc ls rest) := by
  intro T hT X
  have htr : e.platform.stackTraces = false := (show e.platform.stackTraces = l.stackTraces by rw [X.admits.platform]).trans hl
  have Y := vx_rebase X (R' := { frames := R.frames, locals := R.locals, cells := 1, slots := 6 }) (Nat.le_refl _) (Nat.le_refl _) hRcells hRslots
  obtain ⟨s', hA⟩ : ∃ z, z = (T.setVm s.vm).setFrames (.invoking m args :: below) := ⟨_, rfl⟩
  rw [← hA] at Y
  have hvm : s'.vm = s.vm := by rw [hA]; rfl
  have hhp : s'.heap = H := by rw [hA]; exact hT
  have hW0 : s.WarmedH s'.vm := by rw [hvm]; exact State.WarmedH.refl s
  have hat' : ∀ w ∈ vx_atS own ic cls names, w.before args s' = true := fun w hw => vx_ot_at hW0 hvm.symm (hgood w (List.mem_cons_of_mem _ (List.mem_cons_of_mem _ hw))) (hat w hw)
  have hk' : (Cond.classLink own ik cls).before args s' = true := vx_ot_at hW0 hvm.symm (hgood _ List.mem_cons_self) hk
  have hini' : (Cond.initialized cls).before args s' = true := vx_ot_at hW0 hvm.symm (hgood _ (List.mem_cons_of_mem _ List.mem_cons_self)) hini
  have hU' : vx_Zq Bundle.tN "UNASSIGNED_STACK" Bundle.steD A s' s'.heap := by rw [hhp]; exact vx_Zq.moved hW0.alike (hU.kept hS.2.1)
  have hN' : vx_Zq Bundle.tN "SUPPRESSED_SENTINEL" Bundle.listD A s' s'.heap := by rw [hhp]; exact vx_Zq.moved hW0.alike (hN.kept hS.2.1)
  have h : ∀ w ∈ Bundle.ownAtoms own ic cls names, w.before args s' = true := vx_own hat' (vx_isRefq hU'.1) (vx_isRefq hN'.1) hU'.2.word hN'.2.word
  have hown' : s'.vm.findClass own = some m.cls := by rw [hvm]; exact hown
  have hins : (Cond.instantiable cls 6).before args s' = true := h _ (by simp [Bundle.ownAtoms])
  obtain ⟨vm₁, cX, kX, hfX, hkX, -, -, X₁, st1⟩ := Y.newCold hexec (own := own) (C := cls) (index := ik) (n := 6) hown' hk' hins hini'
    (g := F0 m pc ls rest) rfl (by rw [hb]; exact d0) (Nat.le_refl _) (Nat.le_refl _)
  generalize hT1 : (T.setVm vm₁).pushCell { cls := cX, slots := kX.instanceTypes.map defaultValue, vm := .none } = T1 at X₁ st1
  have hcat : (Value.ref T.heap.size).category = 1 := rfl
  have hcellA : T1.heap[T.heap.size]? = some (freshCell cX kX) := by rw [← hT1]; exact State.heap_pushCell_size _ _
  have d3' : decode c.code (pc + 3) = .ok (.dup, 1) := by rw [hb]; exact d3
  have d4' : decode c.code (pc + 4) = .ok (.ldc_w is, 3) := by rw [hb]; exact d4
  have hstr' : vk_R own is text sa s' := vk_R.warm hW0 hstr
  obtain ⟨U, hsteps, hrun, hend, hW, hsame, ce, hce, hO⟩ := X₁.ctorThrowS hexec htr (own := own) (cls := cls) (names := names) (ic := ic) hown' hcls hnames h (fun x hx => nomatch hx) hfX hkX hcellA (by rw [hhp, hT]; exact Nat.le_refl _) (msg := .ref sa) rfl
    (g := { method := m, pc := pc + 7, locals := ls, stack := .ref sa :: .ref T.heap.size :: .ref T.heap.size :: rest, locked := none }) rfl hsize rfl rfl (rest := rest) rfl
    (by rw [hb]; exact d7) (by rw [hb]; exact d10) hout hRframes (by simp only [List.map_cons, List.sum_cons, hcat]; omega) hlocks
  obtain ⟨f1, f2⟩ := vx_frame hsame
  rw [hhp] at f1 f2
  have hWs : s.WarmedH U.vm := State.WarmedH.trans hW0 hW
  have hcl : s.vm.findClass cls = some ce.cls := by
    have h9 := hO.cls
    rw [hvm] at h9
    exact h9
  have hall : s.sameButNew ({ U with vm := s.vm } : State) locs mc ms := by
    subst hA
    obtain ⟨e1, e2⟩ := hsame
    rw [State.setFrames_setFrames] at e1
    have h2 : (T.setVm s.vm).sameButNew ({ U with vm := s.vm } : State) [] (0 + 1) (0 + 6) := ⟨e1, e2⟩
    have h3 := X.same.trans h2
    rw [List.append_nil] at h3
    exact h3.mono hc hs
  refine ⟨U, ?_, .threw T.heap.size, hrun, hend, Or.inr ⟨T.heap.size, rfl, cls, ce, locs, hx U hWs.alike f1 (fun q hq => f2 q hq (fun z hz => nomatch hz)), hce, hO.vm, hcl, hWs, hall, hf⟩⟩
  refine st1 _ ?_
  show Steps p.tables e below (T1.setTop { method := m, pc := pc + 3, locals := ls, stack := .ref T.heap.size :: rest, locked := none }) _
  jvm_step X₁.here [X₁.here.top, hexec, d3', Value.category]
  exact X₁.ldcStringW hexec (own := own) (text := text) (index := is) (a := sa) hown' hstr'.1 hstr'.2
    (g := { method := m, pc := pc + 4, locals := ls, stack := .ref T.heap.size :: .ref T.heap.size :: rest, locked := none }) rfl d4' _ hsteps
end Ends
section Bodies
variable {l : Launch}
theorem vx_ofW {y : MethodName} {ws ws' : List Cond} {rm : Room} {Pc : Array Value → State → Prop} {Qc : Array Value → State → Outcome → State → Prop} {XC : String → State → State → Prop} {mc ms : Nat} {free : Addr → Prop} {cc : ByteArray} {maxL : Nat} {ret : Option FieldType}
    (hy : plainName y.cls = true) (hw : ws = Cond.code y cc maxL ret :: ws')
    (body : ∀ p e s m args below meth c s₁, BodyLoose p l y (headSpec ws rm) cc maxL ret e s m args below meth c s₁ → c.maxLocals = maxL → (∀ x ∈ c.exceptionTable.toList, False) → Pc args s →
      W p l e (headSpec ws rm).room s m args below meth c s.heap [] 0 0 (vx_MQ below Qc XC args s mc ms free) (entryFrame m args maxL)) : vx_Met l y ws rm Pc Qc XC mc ms free := by
  refine MetFree.of_bodyS (code := cc) (maxLocals := maxL) (ret := ret) hy ?_ ?_
  · intro args s m h hn
    obtain ⟨meth, c, h1, h2, h3, h4, h5, h6, -, -⟩ := Cond.code_spec hn (atoms_spec (ws := ws) h _ (by rw [hw]; exact List.mem_cons_self))
    exact ⟨meth, c, h1, h2, h3, h4, h5, h6⟩
  · intro p e s m args below meth c s₁ B hml hP _
    have hh0 : s₁.heap = s.heap := by rw [B.state]; rfl
    have ht : ∀ x ∈ c.exceptionTable.toList, False := by
      obtain ⟨meth9, c9, h1, h2, -, -, -, -, h7, -⟩ := Cond.code_spec B.named (atoms_spec (ws := ws) B.pre _ (by rw [hw]; exact List.mem_cons_self))
      cases Option.some.inj (h1.symm.trans B.method)
      cases Option.some.inj (h2.symm.trans (Stand.of_body B).code)
      intro x hx
      rw [Array.isEmpty_iff.mp h7] at hx
      cases hx
    obtain ⟨t, a1, o, b1, b2, b3⟩ := body p e s m args below meth c s₁ B hml ht hP s₁ hh0 (Stand.of_body B)
    exact ⟨t, o, a1, b1, b2, b3⟩
/-- the table of a body with handlers -/
theorem vx_table {p : Program} {x y : MethodName} {S : Spec} {cc bytes : ByteArray} {maxL maxL' : Nat} {ret ret' : Option FieldType} {e : Env} {s s₁ : State} {m : MethodId} {args : Array Value} {below : List Frame} {meth : Method} {c : Code} {hh : List (Nat × Nat × Nat × Nat)}
    (B : BodyLoose p l y S cc maxL ret e s m args below meth c s₁) (h : (Cond.codeWith y bytes maxL' ret' hh).before args s = true) : c.exceptionTable.toList = tableOf hh := by
  obtain ⟨m9, meth9, c9, hn9, h1, h2, -, -, h6, -⟩ := Cond.codeWith_spec h
  cases Option.some.inj (hn9.symm.trans B.named)
  cases Option.some.inj (h1.symm.trans B.method)
  cases Option.some.inj (h2.symm.trans (Stand.of_body B).code)
  rw [← h6, table_eq]
end Bodies
end VXA
/-! ===== END ===== -/
/-! ===== BEGIN a static call of a method with an exception table ===== -/
section VXS
variable {p : Program} {l : Launch} {e : Env} {R : Room} {s : State} {m : MethodId} {args : Array Value} {below : List Frame} {meth : Method} {c : Code} {T : State} {H : Heap} {locs : List Loc} {cells slots : Nat}
abbrev vx_CSW (R : Room) (s : State) (args : Array Value) (own : String) (index : Nat) (y : MethodName) (bytes : ByteArray) (maxL : Nat) (ret : Option FieldType) (hh : List (Nat × Nat × Nat × Nat)) (ws : List Cond) (rm : Room) (mc ms n : Nat) : Prop :=
  (rm.cells = mc ∧ rm.slots = ms ∧ rm.frames + 1 ≤ R.frames ∧ 8 + (maxL + 11) + rm.locals ≤ R.locals ∧ (∀ w ∈ ws, ∀ (a' : Array Value) (U : State), s.WarmedH U.vm → w.before a' U = true) ∧ Cond.codeWith y bytes maxL ret hh ∈ ws) ∧
  (Cond.codeWith y bytes maxL ret hh).before args s = true ∧ (Cond.initialized y.cls).before args s = true ∧ (y.cls ≠ "java/lang/invoke/MethodHandle" ∧ y.cls ≠ "java/lang/invoke/VarHandle") ∧
  (∀ sig, parseMethodDescriptor y.desc = some sig → n = sig.parameters.length) ∧ (Cond.methodLink own index y).before args s = true ∧ (Cond.static y).before args s = true
theorem vx_cwSW {own : String} {index maxL mc ms : Nat} {y : MethodName} {bytes : ByteArray} {ret : Option FieldType} {hh : List (Nat × Nat × Nat × Nat)} {Ts ws ws' : List Cond} {rm : Room} (n : Nat) (ht : ∀ w ∈ Ts, w.before args s = true) (hT : GoodIn Ts (va_wsS own index y ws)) (hw : ws = Cond.codeWith y bytes maxL ret hh :: ws') (hrc : rm.cells = mc) (hrs : rm.slots = ms)
    (hd : y.cls ≠ "java/lang/invoke/MethodHandle" ∧ y.cls ≠ "java/lang/invoke/VarHandle" ∧ (parseMethodDescriptor y.desc).map (fun d => d.parameters.length) = some n) (hR : rm.frames + 1 ≤ R.frames ∧ 8 + (maxL + 11) + rm.locals ≤ R.locals) :
    vx_CSW R s args own index y bytes maxL ret hh ws rm mc ms n := by
  have ok : ∀ w ∈ va_wsS own index y ws, w.before args s = true := fun w h => ht w (hT w h).1
  have hG : GoodIn Ts ws := fun w h => hT w (by unfold va_wsS; exact List.mem_append_right _ h)
  have hc : Cond.codeWith y bytes maxL ret hh ∈ ws := by rw [hw]; exact List.mem_cons_self
  refine ⟨⟨hrc, hrs, hR.1, hR.2, pay_in ht hG, hc⟩, ht _ (hG _ hc).1, ok _ (by simp [va_wsS]), ⟨hd.1, hd.2.1⟩, fun sig h => ?_, ok _ (by simp [va_wsS]), ok _ (by simp [va_wsS])⟩
  have h2 := hd.2.2
  rw [h] at h2
  exact (Option.some.inj h2).symm
theorem vx_callSW (X : Stand p l e R s m args below meth c T locs cells slots) (hexec : p.tables.exec = Jvm.exec) {own : String} {index : Nat} {y : MethodName} {bytes : ByteArray} {maxL : Nat} {ret : Option FieldType} {hh : List (Nat × Nat × Nat × Nat)}
    (hown : s.vm.findClass own = some m.cls) (hlink : (Cond.methodLink own index y).before args s = true) (hstat : (Cond.static y).before args s = true) (hinit : (Cond.initialized y.cls).before args s = true)
    (hcode : (Cond.codeWith y bytes maxL ret hh).before args s = true) (hy : y.cls ≠ "java/lang/invoke/MethodHandle" ∧ y.cls ≠ "java/lang/invoke/VarHandle")
    {W9 : Nat} {Pre : Pt → Array Value → Prop} {Post : Pt → Array Value → Option Value → Pt → Prop} (hK : Back l R p e below s args y 3 W9 Pre Post)
    {g : JFrame} (hg : g.method = m) (hsize : g.locals.size = c.maxLocals) {argsL rest : List Value} (hlen : ∀ sig, parseMethodDescriptor y.desc = some sig → argsL.length = sig.parameters.length)
    (hstack : g.stack = argsL.reverse ++ rest) (hW : 2 * g.monitorRoom + (rest.map fun v => v.category).sum ≤ W9) (hdg : decode c.code g.pc = .ok (.invokestatic index, 3))
    (hpre : ∀ vm₁, s.WarmedH vm₁ → Pre ⟨T.setVm vm₁, locs, cells, slots⟩ argsL.toArray) :
    ∃ (v : Option Value) (vm₁ : Vm) (B : Pt), s.WarmedH vm₁ ∧ Stand p l e R s m args below meth c B.U B.locs B.cells B.slots ∧ Post ⟨T.setVm vm₁, locs, cells, slots⟩ argsL.toArray v B ∧
      ∀ target, Steps p.tables e below (B.U.setTop { g with pc := g.pc + 3, stack := v.toList ++ rest }) target → Steps p.tables e below (T.setTop g) target := by
  obtain ⟨mk, methM, cM, hnamed, hmethM, -, -, -, -, -, -, hsigM⟩ := Cond.codeWith_spec hcode
  have hstatic : methM.isStatic = true := Cond.static_spec hnamed hmethM hstat
  obtain ⟨kP, hkP, -⟩ := className_of_methodNamed hnamed
  have hinitP : kP.init = .initialized := Cond.initialized_spec (findClass_of_methodNamed hnamed) hkP hinit
  obtain ⟨vm₁, X₁, hstep₁⟩ := X.invokestatic hexec hown hlink hnamed hmethM hstatic hkP hinitP hy (g := g) hg (argsL := argsL) (rest := rest) (hlen _ hsigM) hstack hdg
  obtain ⟨v, B, X', hpost, hsteps⟩ := hK m meth c ⟨T.setVm vm₁, locs, cells, slots⟩ { g with stack := rest } (.invokestatic index) mk argsL.toArray X₁ hg hsize hdg hW (X₁.named hnamed) (hpre vm₁ X₁.warmed)
  exact ⟨v, vm₁, B, X₁.warmed, X', hpost, fun target h => hstep₁ _ fun acts => by rw [doInvoke_state]; exact hsteps.trans h⟩
theorem vx_runSW {y : MethodName} {bytes cc : ByteArray} {maxL nL mc ms n index : Nat} {ret : Option FieldType} {hh : List (Nat × Nat × Nat × Nat)} {ws : List Cond} {rm : Room} {Pc : Array Value → State → Prop} {Qc : Array Value → State → Outcome → State → Prop} {free : Addr → Prop} {Ts : List Cond} {own : String} {As rest : List Value} {g : JFrame}
    (S : CallFix p m c cc nL s args Ts own) (hM : Met l y ws rm Pc Qc mc ms free) (cw : vx_CSW R s args own index y bytes maxL ret hh ws rm mc ms n) (hp : PreS s H Pc As)
    (hg : g.method = m) (hn : As.length = n) (hsize : g.locals.size = nL) (hstack : g.stack = As.reverse ++ rest) (hW : 2 * g.monitorRoom + (rest.map fun v => v.category).sum ≤ 8) (hdg : decode cc g.pc = .ok (.invokestatic index, 3)) (hf : cells + mc ≤ R.cells ∧ slots + ms ≤ R.slots) :
    va_Run p l e R s m args below meth c H locs cells slots mc ms g rest (Qc As.toArray) (free) := by
  obtain ⟨⟨hrc, hrs, hfr, hlo, hws, hcw⟩, hcode, hini, hy, hlen, hl, hstt⟩ := cw
  have hK : Back l R p e below s args y 3 8 (PreOf R mc ms Pc) (PostOf Qc mc ms free) := va_backW (hh := hh) (bytes := bytes) (maxL := maxL) (ret := ret) hM hp.1 hrc hrs hfr hlo hws hcw (fun a' U hW => word_at hW (Or.inl (by first | rfl | simp [Cond.onTables, Cond.keeps, Cond.steady])) hini)
  obtain ⟨hx, hb, hml, ho, -⟩ := S
  intro T hT X
  obtain ⟨v, vm₁, ⟨U', l2, c2, s2⟩, hW₁, X', ⟨g', mk, t, L, e1, e2, hq, h1, hL, h2, h3⟩, st⟩ := vx_callSW X hx (hh := hh) (bytes := bytes) (maxL := maxL) (ret := ret) ho hl hstt hini hcode hy hK hg (hsize.trans hml.symm) (argsL := As) (rest := rest) (fun sig h => hn.trans (hlen sig h)) hstack hW (by rw [hb]; exact hdg)
    (fun vm₁ hW₁ => ⟨hf.1, hf.2, hp.2 (T.setVm vm₁) hT hW₁⟩)
  dsimp only [Pt.U, Pt.locs, Pt.cells, Pt.slots] at X' e1 e2 h1 h2 h3 st
  subst h1; subst h2; subst h3
  exact ⟨v, (T.setVm vm₁).calling g' mk As.toArray, t, U', L, hT, X', hL, e1, e2, hq, st⟩
/-- a thing of a world lies in the heap -/
theorem vx_lt {D : va_G} {cl : List vw_C} {ws : va_W} {H1 : Heap} (h : va_P D cl ws H1) {k : Nat} {q : Nat × va_E} (hk : ws[k]? = some q) : q.1 < H1.size := (h k q hk).lt
end VXS
/-! ===== END ===== -/
/-! ===== BEGIN methods with a table of their own: called by a name, returning or throwing ===== -/
section VXH
/-! vx_backW, vx_callVX, vx_callSX, vx_callVW, vx_runVW, vx_runVX, vx_runSX, vx_ofWH follow the same proofs as their sisters above (Free/Laws.lean, Shelf42/LK1.lean); vx_outP calls Shelf42/NT130.lean (outThrough). -/
section
variable {l : Launch} {R : Room} {p : Program} {e : Env} {below : List Frame} {s : State} {sargs : Array Value} {y : MethodName} {len W9 : Nat}
theorem vx_backW {ws : List Cond} {rm : Room} {Pc : Array Value → State → Prop} {Qc : Array Value → State → Outcome → State → Prop} {XC : String → State → State → Prop} {mc ms : Nat} {free : Addr → Prop} {bytes : ByteArray} {maxL : Nat} {ret : Option FieldType} {hh : List (Nat × Nat × Nat × Nat)}
    (hM : vx_Met l y ws rm Pc Qc XC mc ms free) (hblind : FrameBlind Pc) (hrc : rm.cells = mc) (hrs : rm.slots = ms)
    (hframes : rm.frames + 1 ≤ R.frames) (hlocals : W9 + (maxL + 11) + rm.locals ≤ R.locals)
    (hws : ∀ w ∈ ws, ∀ a' U, s.WarmedH U.vm → w.before a' U = true) (hcode : Cond.codeWith y bytes maxL ret hh ∈ ws) (hinit : ∀ a' U, s.WarmedH U.vm → (Cond.initialized y.cls).before a' U = true) :
    vx_Back l R p e below s sargs y len W9 (PreOf R mc ms Pc) (PostOf Qc mc ms free) (vx_Post XC mc ms free) := by
  intro m meth c A g ig mk a X hg hsize hdg hW hn hp
  have h1 : (headSpec ws rm).pre.before a A.U = true := atoms_intro fun w hw => hws w hw _ _ X.warmed
  have h2 : (Cond.codeWith y bytes maxL ret hh).before a A.U = true := hws _ hcode _ _ X.warmed
  have h3 : (Cond.initialized y.cls).before a A.U = true := hinit _ _ X.warmed
  have h4 : A.cells + (headSpec ws rm).room.cells ≤ R.cells := by rw [show (headSpec ws rm).room.cells = mc from hrc]; exact hp.1
  have h5 : A.slots + (headSpec ws rm).room.slots ≤ R.slots := by rw [show (headSpec ws rm).room.slots = ms from hrs]; exact hp.2.1
  have hPc : Pc a (A.U.calling g mk a) := hblind _ _ _ _ hp.2.2
  obtain ⟨U, Ls, c0, s0⟩ := A
  dsimp only [Pt.U, Pt.locs, Pt.cells, Pt.slots] at h1 h2 h3 h4 h5 X hn hPc ⊢
  obtain ⟨m9, methY, cY, hn9, hmY, hcY, -, hlY, -⟩ := Cond.codeWith_spec h2
  cases Option.some.inj (hn9.symm.trans hn)
  obtain ⟨kY, hkY, -⟩ := className_of_methodNamed hn
  have hinitY : kY.init = .initialized := Cond.initialized_spec (findClass_of_methodNamed hn) hkY h3
  have h : At U g.method c below := by rw [hg]; exact X.here
  have hlocals9 : W9 + (maxL + 11) + (headSpec ws rm).room.locals ≤ R.locals := hlocals
  have happ : (headSpec ws rm).appliesLoose y e.platform (U.calling g mk a) = true :=
    Spec.appliesLoose_calling (g := g) h hdg hn hkY hinitY
      (X.room_calling (g := g) (R' := (headSpec ws rm).room) hsize hmY hcY hframes (by rw [hlY]; omega) h4 h5) h1
  obtain ⟨mid, hmid⟩ := h.above
  have hfr : (U.setTop g).frames = (.java g :: mid) ++ below := by rw [State.frames_setTop' g h.top, hmid]; rfl
  obtain ⟨o, s₂, hsteps, -, hend, hq⟩ := Steps.callFree hM p X.admits X.cas X.clock (acts := []) hfr happ hPc trivial
  have hq' : vx_Q Qc XC mc ms free a (U.calling g mk a) o s₂ := hq
  rw [State.frames_setTop' g h.top] at hend
  obtain ⟨g₀, hg0⟩ := Option.isSome_iff_exists.mp h.top
  obtain ⟨r, hr⟩ := State.topJava?_eq_some.mp hg0
  have hr' : (({ U with heap := s₂.heap, slotsUsed := s₂.slotsUsed } : State).setVm s₂.vm).frames = .java g₀ :: r := hr
  rcases hq' with ⟨hqc, L, hfe, hL⟩ | ⟨q, rfl, E, ce, L, hx, hce, hcv, hcl, hW₂, hsm, hL⟩
  · obtain ⟨⟨v, rfl⟩, hW₂, e2, q2, q3, q4, q5, q6⟩ := id hfe
    have e3 : s₂ = ({ (U.calling g mk a).setFrames s₂.frames with heap := s₂.heap, slotsUsed := s₂.slotsUsed } : State).setVm s₂.vm := by
      have : s₂ = ({ s₂ with vm := (U.calling g mk a).vm } : State).setVm s₂.vm := rfl
      rw [e2] at this
      exact this
    obtain ⟨c₂, i₂, len₂, hc₂, hd₂, hf₂⟩ := hend
    have hW' : U.WarmedH s₂.vm := hW₂
    have hcc : c₂ = c := by
      have h1 : s₂.code? g.method = U.code? g.method := by
        rw [State.code?_eq, State.code?_eq, hW'.alike.method?]
      exact Option.some.inj (hc₂.symm.trans (h1.trans h.code))
    subst hcc
    have hlen : len₂ = len := by rw [hdg] at hd₂; cases hd₂; rfl
    subst hlen
    have hs₂ : s₂ = (({ U with heap := s₂.heap, slotsUsed := s₂.slotsUsed } : State).setVm s₂.vm).setTop { g with pc := g.pc + len₂, stack := v.toList ++ g.stack } := by
      refine e3.trans ?_
      rw [hf₂, State.calling_eq h.top, State.setFrames_setFrames, State.setTop_of_frames _ hr', hr]
      rfl
    have hsame : U.sameButNew ({ U with heap := s₂.heap, slotsUsed := s₂.slotsUsed } : State) L mc ms := by
      refine ⟨?_, q2, q3, q4, q5, q6⟩
      obtain ⟨t, ht, -⟩ := State.frames_cons hr
      show ({ U with heap := s₂.heap, slotsUsed := s₂.slotsUsed } : State) = { U.setFrames U.frames with heap := s₂.heap, slotsUsed := s₂.slotsUsed }
      rw [State.setFrames_self ht]
    subst hg
    refine Or.inl ⟨v, ⟨(({ U with heap := s₂.heap, slotsUsed := s₂.slotsUsed } : State).setVm s₂.vm), Ls ++ L, c0 + mc, s0 + ms⟩,
      ⟨X.admits, X.cas, X.clock, X.frames, X.room, X.hears, X.method, X.code, (X.here.setHeapUsed s₂.heap s₂.slotsUsed).setVm hW'.alike, X.tail, State.WarmedH.trans X.warmed hW', X.limits, X.bytes, X.same.trans (hsame.setVm s.vm)⟩,
      ⟨g, mk, s₂, L, rfl, rfl, hqc, rfl, hL, rfl, rfl⟩, ?_⟩
    show Steps p.tables e below _ ((({ U with heap := s₂.heap, slotsUsed := s₂.slotsUsed } : State).setVm s₂.vm).setTop { g with pc := g.pc + len₂, stack := v.toList ++ g.stack })
    rw [← hs₂]
    exact hsteps
  · obtain ⟨e2, q2, q3, q4, q5, q6⟩ := id hsm
    have e3 : s₂ = ({ (U.calling g mk a).setFrames s₂.frames with heap := s₂.heap, slotsUsed := s₂.slotsUsed } : State).setVm s₂.vm := by
      have : s₂ = ({ s₂ with vm := (U.calling g mk a).vm } : State).setVm s₂.vm := rfl
      rw [e2] at this
      exact this
    have hf₂ : s₂.frames = .throwing q :: .java g :: U.frames.tail := hend
    have hW' : U.WarmedH s₂.vm := hW₂
    have hs₂ : s₂ = ((({ U with heap := s₂.heap, slotsUsed := s₂.slotsUsed } : State).setVm s₂.vm).setTop g).pushFrame (.throwing q) := by
      refine e3.trans ?_
      rw [hf₂, State.calling_eq h.top, State.setFrames_setFrames, State.pushFrame, State.frames_setTop _ hr', State.setTop_of_frames _ hr', State.setFrames_setFrames, hr]
      rfl
    have hsame : U.sameButNew ({ U with heap := s₂.heap, slotsUsed := s₂.slotsUsed } : State) L mc ms := by
      refine ⟨?_, q2, q3, q4, q5, q6⟩
      obtain ⟨t, ht, -⟩ := State.frames_cons hr
      show ({ U with heap := s₂.heap, slotsUsed := s₂.slotsUsed } : State) = { U.setFrames U.frames with heap := s₂.heap, slotsUsed := s₂.slotsUsed }
      rw [State.setFrames_self ht]
    subst hg
    refine Or.inr ⟨q, ⟨(({ U with heap := s₂.heap, slotsUsed := s₂.slotsUsed } : State).setVm s₂.vm), Ls ++ L, c0 + mc, s0 + ms⟩,
      ⟨X.admits, X.cas, X.clock, X.frames, X.room, X.hears, X.method, X.code, (X.here.setHeapUsed s₂.heap s₂.slotsUsed).setVm hW'.alike, X.tail, State.WarmedH.trans X.warmed hW', X.limits, X.bytes, X.same.trans (hsame.setVm s.vm)⟩,
      ⟨g, mk, s₂, L, E, ce, rfl, rfl, hx, hce, hcv, hcl, rfl, hL, rfl, rfl⟩, ?_⟩
    show Steps p.tables e below _ (((({ U with heap := s₂.heap, slotsUsed := s₂.slotsUsed } : State).setVm s₂.vm).setTop g).pushFrame (.throwing q))
    rw [← hs₂]
    exact hsteps
end
variable {p : Program} {l : Launch} {e : Env} {R : Room} {s : State} {m : MethodId} {args : Array Value} {below : List Frame} {meth : Method} {c : Code} {T : State} {H : Heap} {locs : List Loc} {cells slots : Nat}
theorem vx_callVX (X : Stand p l e R s m args below meth c T locs cells slots) (hexec : p.tables.exec = Jvm.exec) {own C : String} {index : Nat} {y : MethodName} {bytes : ByteArray} {maxL : Nat} {ret : Option FieldType} {hh : List (Nat × Nat × Nat × Nat)}
    (hown : s.vm.findClass own = some m.cls) (hlink : (Cond.methodLink own index y).before args s = true) (hinst : (Cond.instanceMethod y).before args s = true) (hsel : (Cond.selects C y y).before args s = true)
    (hcode : (Cond.codeWith y bytes maxL ret hh).before args s = true) (hy : y.cls ≠ "java/lang/invoke/MethodHandle" ∧ y.cls ≠ "java/lang/invoke/VarHandle")
    {W9 : Nat} {Pre : Pt → Array Value → Prop} {Post : Pt → Array Value → Option Value → Pt → Prop} {PostX : Pt → Array Value → Addr → Pt → Prop} (hK : vx_Back l R p e below s args y 3 W9 Pre Post PostX)
    {b : Addr} {cellB : Cell} (hcell : T.heap[b]? = some cellB) (hobj : cellB.vm.isStatics = false) (hcls : s.vm.findClass C = some cellB.cls)
    {g : JFrame} (hg : g.method = m) (hsize : g.locals.size = c.maxLocals) {argsL rest : List Value} (hlen : ∀ sig, parseMethodDescriptor y.desc = some sig → argsL.length = sig.parameters.length)
    (hstack : g.stack = argsL.reverse ++ .ref b :: rest) (hW : 2 * g.monitorRoom + (rest.map fun v => v.category).sum ≤ W9) (hdg : decode c.code g.pc = .ok (.invokevirtual index, 3))
    (hpre : ∀ vm₁, s.WarmedH vm₁ → Pre ⟨T.setVm vm₁, locs, cells, slots⟩ (Value.ref b :: argsL).toArray) :
    (∃ (v : Option Value) (vm₁ : Vm) (B : Pt), s.WarmedH vm₁ ∧ Stand p l e R s m args below meth c B.U B.locs B.cells B.slots ∧ Post ⟨T.setVm vm₁, locs, cells, slots⟩ (Value.ref b :: argsL).toArray v B ∧
      ∀ target, Steps p.tables e below (B.U.setTop { g with pc := g.pc + 3, stack := v.toList ++ rest }) target → Steps p.tables e below (T.setTop g) target) ∨
    (∃ (q : Addr) (vm₁ : Vm) (B : Pt), s.WarmedH vm₁ ∧ Stand p l e R s m args below meth c B.U B.locs B.cells B.slots ∧ PostX ⟨T.setVm vm₁, locs, cells, slots⟩ (Value.ref b :: argsL).toArray q B ∧
      Steps p.tables e below (T.setTop g) ((B.U.setTop { g with stack := rest }).pushFrame (.throwing q))) := by
  obtain ⟨mk, methM, hnamed, hmethM, hstM, habM⟩ := Cond.instanceMethod_spec hinst
  obtain ⟨m8, methM', cM, hn8, hmethM', -, -, -, -, -, -, hsigM⟩ := Cond.codeWith_spec hcode
  cases Option.some.inj (hn8.symm.trans hnamed)
  cases hmethM.symm.trans hmethM'
  obtain ⟨c2, r2, m2, q1, q2, q3, q4, kP, hkP, hkPi⟩ := Cond.selects_spec hsel
  cases hcls.symm.trans q1
  cases (State.methodFound?_of_named hnamed hy).symm.trans q2
  cases hnamed.symm.trans q3
  have hselP : selectMethod e.platform s.vm cellB.cls mk = .method mk := by rw [Launch.admits_selectMethod X.admits]; exact q4
  obtain ⟨vm₁, X₁, hstep₁⟩ := X.invokevirtual hexec hown hlink hnamed hmethM hstM hkP hkPi hy (a := b) (cell := cellB) hcell
    (fun z h => by rw [h] at hobj; cases hobj) hselP hmethM habM hkP hkPi (g := g) hg (argsL := argsL) (rest := rest) (hlen _ hsigM) hstack hdg
  rcases hK m meth c ⟨T.setVm vm₁, locs, cells, slots⟩ { g with stack := rest } (.invokevirtual index) mk (Value.ref b :: argsL).toArray X₁ hg hsize hdg hW (X₁.named hnamed) (hpre vm₁ X₁.warmed) with ⟨v, B, X', hpost, hsteps⟩ | ⟨q, B, X', hpost, hsteps⟩
  · exact Or.inl ⟨v, vm₁, B, X₁.warmed, X', hpost, fun target h => hstep₁ _ fun acts => by rw [doInvoke_state]; exact hsteps.trans h⟩
  · exact Or.inr ⟨q, vm₁, B, X₁.warmed, X', hpost, hstep₁ _ fun acts => by rw [doInvoke_state]; exact hsteps⟩
theorem vx_callSX (X : Stand p l e R s m args below meth c T locs cells slots) (hexec : p.tables.exec = Jvm.exec) {own : String} {index : Nat} {y : MethodName} {bytes : ByteArray} {maxL : Nat} {ret : Option FieldType} {hh : List (Nat × Nat × Nat × Nat)}
    (hown : s.vm.findClass own = some m.cls) (hlink : (Cond.methodLink own index y).before args s = true) (hstat : (Cond.static y).before args s = true) (hinit : (Cond.initialized y.cls).before args s = true)
    (hcode : (Cond.codeWith y bytes maxL ret hh).before args s = true) (hy : y.cls ≠ "java/lang/invoke/MethodHandle" ∧ y.cls ≠ "java/lang/invoke/VarHandle")
    {W9 : Nat} {Pre : Pt → Array Value → Prop} {Post : Pt → Array Value → Option Value → Pt → Prop} {PostX : Pt → Array Value → Addr → Pt → Prop} (hK : vx_Back l R p e below s args y 3 W9 Pre Post PostX)
    {g : JFrame} (hg : g.method = m) (hsize : g.locals.size = c.maxLocals) {argsL rest : List Value} (hlen : ∀ sig, parseMethodDescriptor y.desc = some sig → argsL.length = sig.parameters.length)
    (hstack : g.stack = argsL.reverse ++ rest) (hW : 2 * g.monitorRoom + (rest.map fun v => v.category).sum ≤ W9) (hdg : decode c.code g.pc = .ok (.invokestatic index, 3))
    (hpre : ∀ vm₁, s.WarmedH vm₁ → Pre ⟨T.setVm vm₁, locs, cells, slots⟩ argsL.toArray) :
    (∃ (v : Option Value) (vm₁ : Vm) (B : Pt), s.WarmedH vm₁ ∧ Stand p l e R s m args below meth c B.U B.locs B.cells B.slots ∧ Post ⟨T.setVm vm₁, locs, cells, slots⟩ argsL.toArray v B ∧
      ∀ target, Steps p.tables e below (B.U.setTop { g with pc := g.pc + 3, stack := v.toList ++ rest }) target → Steps p.tables e below (T.setTop g) target) ∨
    (∃ (q : Addr) (vm₁ : Vm) (B : Pt), s.WarmedH vm₁ ∧ Stand p l e R s m args below meth c B.U B.locs B.cells B.slots ∧ PostX ⟨T.setVm vm₁, locs, cells, slots⟩ argsL.toArray q B ∧
      Steps p.tables e below (T.setTop g) ((B.U.setTop { g with stack := rest }).pushFrame (.throwing q))) := by
  obtain ⟨mk, methM, cM, hnamed, hmethM, -, -, -, -, -, -, hsigM⟩ := Cond.codeWith_spec hcode
  have hstatic : methM.isStatic = true := Cond.static_spec hnamed hmethM hstat
  obtain ⟨kP, hkP, -⟩ := className_of_methodNamed hnamed
  have hinitP : kP.init = .initialized := Cond.initialized_spec (findClass_of_methodNamed hnamed) hkP hinit
  obtain ⟨vm₁, X₁, hstep₁⟩ := X.invokestatic hexec hown hlink hnamed hmethM hstatic hkP hinitP hy (g := g) hg (argsL := argsL) (rest := rest) (hlen _ hsigM) hstack hdg
  rcases hK m meth c ⟨T.setVm vm₁, locs, cells, slots⟩ { g with stack := rest } (.invokestatic index) mk argsL.toArray X₁ hg hsize hdg hW (X₁.named hnamed) (hpre vm₁ X₁.warmed) with ⟨v, B, X', hpost, hsteps⟩ | ⟨q, B, X', hpost, hsteps⟩
  · exact Or.inl ⟨v, vm₁, B, X₁.warmed, X', hpost, fun target h => hstep₁ _ fun acts => by rw [doInvoke_state]; exact hsteps.trans h⟩
  · exact Or.inr ⟨q, vm₁, B, X₁.warmed, X', hpost, hstep₁ _ fun acts => by rw [doInvoke_state]; exact hsteps⟩
theorem vx_callVW (X : Stand p l e R s m args below meth c T locs cells slots) (hexec : p.tables.exec = Jvm.exec) {own C : String} {index : Nat} {y : MethodName} {bytes : ByteArray} {maxL : Nat} {ret : Option FieldType} {hh : List (Nat × Nat × Nat × Nat)}
    (hown : s.vm.findClass own = some m.cls) (hlink : (Cond.methodLink own index y).before args s = true) (hinst : (Cond.instanceMethod y).before args s = true) (hsel : (Cond.selects C y y).before args s = true)
    (hcode : (Cond.codeWith y bytes maxL ret hh).before args s = true) (hy : y.cls ≠ "java/lang/invoke/MethodHandle" ∧ y.cls ≠ "java/lang/invoke/VarHandle")
    {W9 : Nat} {Pre : Pt → Array Value → Prop} {Post : Pt → Array Value → Option Value → Pt → Prop} (hK : Back l R p e below s args y 3 W9 Pre Post)
    {b : Addr} {cellB : Cell} (hcell : T.heap[b]? = some cellB) (hobj : cellB.vm.isStatics = false) (hcls : s.vm.findClass C = some cellB.cls)
    {g : JFrame} (hg : g.method = m) (hsize : g.locals.size = c.maxLocals) {argsL rest : List Value} (hlen : ∀ sig, parseMethodDescriptor y.desc = some sig → argsL.length = sig.parameters.length)
    (hstack : g.stack = argsL.reverse ++ .ref b :: rest) (hW : 2 * g.monitorRoom + (rest.map fun v => v.category).sum ≤ W9) (hdg : decode c.code g.pc = .ok (.invokevirtual index, 3))
    (hpre : ∀ vm₁, s.WarmedH vm₁ → Pre ⟨T.setVm vm₁, locs, cells, slots⟩ (Value.ref b :: argsL).toArray) :
    ∃ (v : Option Value) (vm₁ : Vm) (B : Pt), s.WarmedH vm₁ ∧ Stand p l e R s m args below meth c B.U B.locs B.cells B.slots ∧ Post ⟨T.setVm vm₁, locs, cells, slots⟩ (Value.ref b :: argsL).toArray v B ∧
      ∀ target, Steps p.tables e below (B.U.setTop { g with pc := g.pc + 3, stack := v.toList ++ rest }) target → Steps p.tables e below (T.setTop g) target := by
  obtain ⟨mk, methM, hnamed, hmethM, hstM, habM⟩ := Cond.instanceMethod_spec hinst
  obtain ⟨m8, methM', cM, hn8, hmethM', -, -, -, -, -, -, hsigM⟩ := Cond.codeWith_spec hcode
  cases Option.some.inj (hn8.symm.trans hnamed)
  cases hmethM.symm.trans hmethM'
  obtain ⟨c2, r2, m2, q1, q2, q3, q4, kP, hkP, hkPi⟩ := Cond.selects_spec hsel
  cases hcls.symm.trans q1
  cases (State.methodFound?_of_named hnamed hy).symm.trans q2
  cases hnamed.symm.trans q3
  have hselP : selectMethod e.platform s.vm cellB.cls mk = .method mk := by rw [Launch.admits_selectMethod X.admits]; exact q4
  obtain ⟨vm₁, X₁, hstep₁⟩ := X.invokevirtual hexec hown hlink hnamed hmethM hstM hkP hkPi hy (a := b) (cell := cellB) hcell
    (fun z h => by rw [h] at hobj; cases hobj) hselP hmethM habM hkP hkPi (g := g) hg (argsL := argsL) (rest := rest) (hlen _ hsigM) hstack hdg
  obtain ⟨v, B, X', hpost, hsteps⟩ := hK m meth c ⟨T.setVm vm₁, locs, cells, slots⟩ { g with stack := rest } (.invokevirtual index) mk (Value.ref b :: argsL).toArray X₁ hg hsize hdg hW (X₁.named hnamed) (hpre vm₁ X₁.warmed)
  exact ⟨v, vm₁, B, X₁.warmed, X', hpost, fun target h => hstep₁ _ fun acts => by rw [doInvoke_state]; exact hsteps.trans h⟩
abbrev vx_CVW (R : Room) (s : State) (args : Array Value) (own C : String) (index : Nat) (y : MethodName) (bytes : ByteArray) (maxL : Nat) (ret : Option FieldType) (hh : List (Nat × Nat × Nat × Nat)) (ws : List Cond) (rm : Room) (mc ms n : Nat) : Prop :=
  (rm.cells = mc ∧ rm.slots = ms ∧ rm.frames + 1 ≤ R.frames ∧ 8 + (maxL + 11) + rm.locals ≤ R.locals ∧ (∀ w ∈ ws, ∀ (a' : Array Value) (U : State), s.WarmedH U.vm → w.before a' U = true) ∧ Cond.codeWith y bytes maxL ret hh ∈ ws) ∧
  (Cond.codeWith y bytes maxL ret hh).before args s = true ∧ (Cond.initialized y.cls).before args s = true ∧ (y.cls ≠ "java/lang/invoke/MethodHandle" ∧ y.cls ≠ "java/lang/invoke/VarHandle") ∧
  (∀ sig, parseMethodDescriptor y.desc = some sig → n = sig.parameters.length) ∧ (Cond.methodLink own index y).before args s = true ∧ (Cond.instanceMethod y).before args s = true ∧ (Cond.selects C y y).before args s = true
theorem vx_cwVW {own C : String} {index maxL mc ms : Nat} {y : MethodName} {bytes : ByteArray} {ret : Option FieldType} {hh : List (Nat × Nat × Nat × Nat)} {Ts ws ws' : List Cond} {rm : Room} (n : Nat) (ht : ∀ w ∈ Ts, w.before args s = true) (hT : GoodIn Ts (wsV own index C y ws)) (hw : ws = Cond.codeWith y bytes maxL ret hh :: ws') (hrc : rm.cells = mc) (hrs : rm.slots = ms)
    (hd : y.cls = C ∧ y.cls ≠ "java/lang/invoke/MethodHandle" ∧ y.cls ≠ "java/lang/invoke/VarHandle" ∧ (parseMethodDescriptor y.desc).map (fun d => d.parameters.length) = some n) (hR : rm.frames + 1 ≤ R.frames ∧ 8 + (maxL + 11) + rm.locals ≤ R.locals) :
    vx_CVW R s args own C index y bytes maxL ret hh ws rm mc ms n := by
  obtain ⟨hC, hd⟩ := hd
  subst hC
  have ok : ∀ w ∈ wsV own index y.cls y ws, w.before args s = true := fun w h => ht w (hT w h).1
  have hG : GoodIn Ts ws := fun w h => hT w (by unfold wsV; exact List.mem_append_right _ h)
  have hc : Cond.codeWith y bytes maxL ret hh ∈ ws := by rw [hw]; exact List.mem_cons_self
  refine ⟨⟨hrc, hrs, hR.1, hR.2, pay_in ht hG, hc⟩, ht _ (hG _ hc).1, ok _ (by simp [wsV]), ⟨hd.1, hd.2.1⟩, fun sig h => ?_, ok _ (by simp [wsV]), ok _ (by simp [wsV]), ok _ (by simp [wsV])⟩
  have h2 := hd.2.2
  rw [h] at h2
  exact (Option.some.inj h2).symm
theorem vx_runVW {y : MethodName} {bytes cc : ByteArray} {maxL nL mc ms n index : Nat} {ret : Option FieldType} {hh : List (Nat × Nat × Nat × Nat)} {ws : List Cond} {rm : Room} {Pc : Array Value → State → Prop} {Qc : Array Value → State → Outcome → State → Prop} {free : Addr → Prop} {Ts : List Cond} {own C : String} {b : Addr} {As rest : List Value} {g : JFrame}
    (S : CallFix p m c cc nL s args Ts own) (hM : Met l y ws rm Pc Qc mc ms free) (cw : vx_CVW R s args own C index y bytes maxL ret hh ws rm mc ms n) (hp : PreV s H C b Pc As)
    (hg : g.method = m) (hn : As.length = n) (hsize : g.locals.size = nL) (hstack : g.stack = As.reverse ++ .ref b :: rest) (hW : 2 * g.monitorRoom + (rest.map fun v => v.category).sum ≤ 8) (hdg : decode cc g.pc = .ok (.invokevirtual index, 3)) (hf : cells + mc ≤ R.cells ∧ slots + ms ≤ R.slots) :
    va_Run p l e R s m args below meth c H locs cells slots mc ms g rest (Qc (Value.ref b :: As).toArray) free := by
  obtain ⟨⟨hrc, hrs, hfr, hlo, hws, hcw⟩, hcode, hini, hy, hlen, hl, hin, hse⟩ := cw
  have hK : Back l R p e below s args y 3 8 (PreOf R mc ms Pc) (PostOf Qc mc ms free) := va_backW (hh := hh) (bytes := bytes) (maxL := maxL) (ret := ret) hM hp.1 hrc hrs hfr hlo hws hcw (fun a' U hW => word_at hW (Or.inl (by first | rfl | simp [Cond.onTables, Cond.keeps, Cond.steady])) hini)
  obtain ⟨hx, hb, hml, ho, -⟩ := S
  obtain ⟨-, ⟨cellB, hcB, hoB, hclB⟩, hPc⟩ := hp
  intro T hT X
  obtain ⟨v, vm₁, ⟨U', l2, c2, s2⟩, hW₁, X', ⟨g', mk, t, L, e1, e2, hq, h1, hL, h2, h3⟩, st⟩ := vx_callVW X hx (C := C) (hh := hh) (bytes := bytes) (maxL := maxL) (ret := ret) ho hl hin hse hcode hy hK (by rw [hT]; exact hcB) hoB hclB hg (hsize.trans hml.symm) (argsL := As) (rest := rest) (fun sig h => hn.trans (hlen sig h)) hstack hW (by rw [hb]; exact hdg)
    (fun vm₁ hW₁ => ⟨hf.1, hf.2, hPc (T.setVm vm₁) hT hW₁⟩)
  dsimp only [Pt.U, Pt.locs, Pt.cells, Pt.slots] at X' e1 e2 h1 h2 h3 st
  subst h1; subst h2; subst h3
  exact ⟨v, (T.setVm vm₁).calling g' mk (Value.ref b :: As).toArray, t, U', L, hT, X', hL, e1, e2, hq, st⟩
section
variable {y : MethodName} {bytes cc : ByteArray} {maxL nL mc ms n index : Nat} {ret : Option FieldType} {ws : List Cond} {rm : Room} {Pc : Array Value → State → Prop} {Qc : Array Value → State → Outcome → State → Prop} {XC : String → State → State → Prop} {free : Addr → Prop} {Ts : List Cond} {own C : String} {b : Addr} {As rest : List Value} {g : JFrame}
theorem vx_runVX {hh : List (Nat × Nat × Nat × Nat)} (S : CallFix p m c cc nL s args Ts own) (hM : vx_Met l y ws rm Pc Qc XC mc ms free) (cw : vx_CVW R s args own C index y bytes maxL ret hh ws rm mc ms n) (hp : PreV s H C b Pc As)
    (hg : g.method = m) (hn : As.length = n) (hsize : g.locals.size = nL) (hstack : g.stack = As.reverse ++ .ref b :: rest) (hW : 2 * g.monitorRoom + (rest.map fun v => v.category).sum ≤ 8) (hdg : decode cc g.pc = .ok (.invokevirtual index, 3)) (hf : cells + mc ≤ R.cells ∧ slots + ms ≤ R.slots) :
    vx_Run p l e R s m args below meth c H locs cells slots mc ms g rest (Qc (Value.ref b :: As).toArray) XC free := by
  obtain ⟨⟨hrc, hrs, hfr, hlo, hws, hcw⟩, hcode, hini, hy, hlen, hl, hin, hse⟩ := cw
  have hK : vx_Back l R p e below s args y 3 8 (PreOf R mc ms Pc) (PostOf Qc mc ms free) (vx_Post XC mc ms free) := vx_backW (hh := hh) (bytes := bytes) (maxL := maxL) (ret := ret) hM hp.1 hrc hrs hfr hlo hws hcw (fun a' U hW => word_at hW (Or.inl (by first | rfl | simp [Cond.onTables, Cond.keeps, Cond.steady])) hini)
  obtain ⟨hx, hb, hml, ho, -⟩ := S
  obtain ⟨-, ⟨cellB, hcB, hoB, hclB⟩, hPc⟩ := hp
  intro T hT X
  rcases vx_callVX X hx (C := C) (hh := hh) (bytes := bytes) (maxL := maxL) (ret := ret) ho hl hin hse hcode hy hK (by rw [hT]; exact hcB) hoB hclB hg (hsize.trans hml.symm) (argsL := As) (rest := rest) (fun sig h => hn.trans (hlen sig h)) hstack hW (by rw [hb]; exact hdg)
    (fun vm₁ hW₁ => ⟨hf.1, hf.2, hPc (T.setVm vm₁) hT hW₁⟩) with ⟨v, vm₁, ⟨U', l2, c2, s2⟩, hW₁, X', ⟨g', mk, t, L, e1, e2, hq, h1, hL, h2, h3⟩, st⟩ | ⟨q, vm₁, ⟨U', l2, c2, s2⟩, hW₁, X', ⟨g', mk, t, L, E, ce, e1, e2, hq, hce, hcv, hcl, h1, hL, h2, h3⟩, st⟩
  · dsimp only [Pt.U, Pt.locs, Pt.cells, Pt.slots] at X' e1 e2 h1 h2 h3 st
    subst h1; subst h2; subst h3
    exact Or.inl ⟨v, (T.setVm vm₁).calling g' mk (Value.ref b :: As).toArray, t, U', L, hT, X', hL, e1, e2, hq, st⟩
  · dsimp only [Pt.U, Pt.locs, Pt.cells, Pt.slots] at X' e1 e2 h1 h2 h3 st hcl
    subst h1; subst h2; subst h3
    exact Or.inr ⟨q, (T.setVm vm₁).calling g' mk (Value.ref b :: As).toArray, t, U', L, E, ce, hT, X', hL, e1, e2, hq, hce, hcv, vx_cls hW₁ hcl, st⟩
theorem vx_runSX {hh : List (Nat × Nat × Nat × Nat)} (S : CallFix p m c cc nL s args Ts own) (hM : vx_Met l y ws rm Pc Qc XC mc ms free) (cw : vx_CSW R s args own index y bytes maxL ret hh ws rm mc ms n) (hp : PreS s H Pc As)
    (hg : g.method = m) (hn : As.length = n) (hsize : g.locals.size = nL) (hstack : g.stack = As.reverse ++ rest) (hW : 2 * g.monitorRoom + (rest.map fun v => v.category).sum ≤ 8) (hdg : decode cc g.pc = .ok (.invokestatic index, 3)) (hf : cells + mc ≤ R.cells ∧ slots + ms ≤ R.slots) :
    vx_Run p l e R s m args below meth c H locs cells slots mc ms g rest (Qc As.toArray) XC free := by
  obtain ⟨⟨hrc, hrs, hfr, hlo, hws, hcw⟩, hcode, hini, hy, hlen, hl, hstt⟩ := cw
  have hK : vx_Back l R p e below s args y 3 8 (PreOf R mc ms Pc) (PostOf Qc mc ms free) (vx_Post XC mc ms free) := vx_backW (hh := hh) (bytes := bytes) (maxL := maxL) (ret := ret) hM hp.1 hrc hrs hfr hlo hws hcw (fun a' U hW => word_at hW (Or.inl (by first | rfl | simp [Cond.onTables, Cond.keeps, Cond.steady])) hini)
  obtain ⟨hx, hb, hml, ho, -⟩ := S
  intro T hT X
  rcases vx_callSX X hx (hh := hh) (bytes := bytes) (maxL := maxL) (ret := ret) ho hl hstt hini hcode hy hK hg (hsize.trans hml.symm) (argsL := As) (rest := rest) (fun sig h => hn.trans (hlen sig h)) hstack hW (by rw [hb]; exact hdg)
    (fun vm₁ hW₁ => ⟨hf.1, hf.2, hp.2 (T.setVm vm₁) hT hW₁⟩) with ⟨v, vm₁, ⟨U', l2, c2, s2⟩, hW₁, X', ⟨g', mk, t, L, e1, e2, hq, h1, hL, h2, h3⟩, st⟩ | ⟨q, vm₁, ⟨U', l2, c2, s2⟩, hW₁, X', ⟨g', mk, t, L, E, ce, e1, e2, hq, hce, hcv, hcl, h1, hL, h2, h3⟩, st⟩
  · dsimp only [Pt.U, Pt.locs, Pt.cells, Pt.slots] at X' e1 e2 h1 h2 h3 st
    subst h1; subst h2; subst h3
    exact Or.inl ⟨v, (T.setVm vm₁).calling g' mk As.toArray, t, U', L, hT, X', hL, e1, e2, hq, st⟩
  · dsimp only [Pt.U, Pt.locs, Pt.cells, Pt.slots] at X' e1 e2 h1 h2 h3 st hcl
    subst h1; subst h2; subst h3
    exact Or.inr ⟨q, (T.setVm vm₁).calling g' mk As.toArray, t, U', L, E, ce, hT, X', hL, e1, e2, hq, hce, hcv, vx_cls hW₁ hcl, st⟩
end
end VXH
theorem vx_ofWH {l : Launch} {y : MethodName} {ws ws' : List Cond} {rm : Room} {Pc : Array Value → State → Prop} {Qc : Array Value → State → Outcome → State → Prop} {XC : String → State → State → Prop} {mc ms : Nat} {free : Addr → Prop} {cc : ByteArray} {maxL : Nat} {ret : Option FieldType} {hh : List (Nat × Nat × Nat × Nat)}
    (hy : plainName y.cls = true) (hw : ws = Cond.codeWith y cc maxL ret hh :: ws')
    (body : ∀ p e s m args below meth c s₁, BodyLoose p l y (headSpec ws rm) cc maxL ret e s m args below meth c s₁ → c.maxLocals = maxL → Pc args s →
      W p l e (headSpec ws rm).room s m args below meth c s.heap [] 0 0 (vx_MQ below Qc XC args s mc ms free) (entryFrame m args maxL)) : vx_Met l y ws rm Pc Qc XC mc ms free := by
  refine MetFree.of_bodyS (code := cc) (maxLocals := maxL) (ret := ret) hy ?_ ?_
  · intro args s m h hn
    obtain ⟨m9, meth, c, hn9, h1, h2, h3, h4, -, h5, h6, -⟩ := Cond.codeWith_spec (atoms_spec (ws := ws) h _ (by rw [hw]; exact List.mem_cons_self))
    cases hn.symm.trans hn9
    exact ⟨meth, c, h1, h2, h3, h4, h5, h6⟩
  · intro p e s m args below meth c s₁ B hml hP _
    have hh0 : s₁.heap = s.heap := by rw [B.state]; rfl
    obtain ⟨t, a1, o, b1, b2, b3⟩ := body p e s m args below meth c s₁ B hml hP s₁ hh0 (Stand.of_body B)
    exact ⟨t, o, a1, b1, b2, b3⟩
/-! ===== END ===== -/
end
section
abbrev mm_Me : Type := String × MethodName × ByteArray × Nat × Option FieldType × List (Nat × Nat × Nat × Nat) × Nat × Nat
def RX0 : String := "TreeBuilder$Kind"
def TX0 : u_T := fun k => match k with
  | _ => ("", "", "", false)
def tyX0 : Nat → FieldType := fun k => match k with
  | _ => .int
abbrev wsX00 : List Cond := u_ws RX0 TX0 0
theorem nmX0 : ∀ a, a < 0 → ∀ b, b < 0 → a ≠ b → (TX0 a).2.1 ≠ (TX0 b).2.1 := by decide +kernel
theorem tyX0_ok : ∀ k, k < 0 → parseFieldDescriptor (TX0 k).2.2.1 = some (tyX0 k) := by decide +kernel
abbrev cX0_exists : ByteArray := prog_2_method_2_code
def yX0_exists : MethodName := ⟨RX0, "exists", "(I)Z"⟩
abbrev cX0_beginsDecl : ByteArray := prog_2_method_3_code
def yX0_beginsDecl : MethodName := ⟨RX0, "beginsDecl", "(I)Z"⟩
abbrev cX0_beginsType : ByteArray := prog_2_method_4_code
def yX0_beginsType : MethodName := ⟨RX0, "beginsType", "(I)Z"⟩
abbrev cX0_beginsExpr : ByteArray := prog_2_method_5_code
def yX0_beginsExpr : MethodName := ⟨RX0, "beginsExpr", "(I)Z"⟩
abbrev cX0_isUnarySign : ByteArray := prog_2_method_6_code
def yX0_isUnarySign : MethodName := ⟨RX0, "isUnarySign", "(I)Z"⟩
abbrev cX0_isOpAssign : ByteArray := prog_2_method_7_code
def yX0_isOpAssign : MethodName := ⟨RX0, "isOpAssign", "(I)Z"⟩
abbrev cX0_binding : ByteArray := prog_2_method_8_code
def yX0_binding : MethodName := ⟨RX0, "binding", "(I)I"⟩
def RX1 : String := "TreeBuilder$Parser"
def TX1 : u_T := fun k => match k with
  | 0 => ("TreeBuilder$Parser", "tokens", "LTreeBuilder$Tokens;", true)
  | 1 => ("TreeBuilder$Parser", "tree", "LTreeBuilder$Tree;", true)
  | 2 => ("TreeBuilder$Parser", "waiting", "[I", true)
  | 3 => ("TreeBuilder$Parser", "waitingCount", "I", false)
  | 4 => ("TreeBuilder$Parser", "at", "I", false)
  | 5 => ("TreeBuilder$Parser", "kind", "I", false)
  | 6 => ("TreeBuilder$Parser", "open", "I", false)
  | 7 => ("TreeBuilder$Parser", "inHead", "Z", false)
  | _ => ("TreeBuilder$Parser", "guardWord", "I", false)
def tyX1 : Nat → FieldType := fun k => match k with
  | 0 => .object "TreeBuilder$Tokens"
  | 1 => .object "TreeBuilder$Tree"
  | 2 => .array .int
  | 3 => .int
  | 4 => .int
  | 5 => .int
  | 6 => .int
  | 7 => .boolean
  | _ => .int
abbrev wsX10 : List Cond := u_ws RX1 TX1 9
theorem nmX1 : ∀ a, a < 9 → ∀ b, b < 9 → a ≠ b → (TX1 a).2.1 ≠ (TX1 b).2.1 := by decide +kernel
theorem tyX1_ok : ∀ k, k < 9 → parseFieldDescriptor (TX1 k).2.2.1 = some (tyX1 k) := by decide +kernel
abbrev cX1_init : ByteArray := prog_3_method_1_code
def yX1_init : MethodName := ⟨RX1, "<init>", "(LTreeBuilder$Tokens;LTreeBuilder$Tree;)V"⟩
abbrev cX1_refuse : ByteArray := prog_3_method_2_code
def yX1_refuse : MethodName := ⟨RX1, "refuse", "()V"⟩
abbrev cX1_nextKind : ByteArray := prog_3_method_3_code
def yX1_nextKind : MethodName := ⟨RX1, "nextKind", "()I"⟩
abbrev cX1_sees : ByteArray := prog_3_method_4_code
def yX1_sees : MethodName := ⟨RX1, "sees", "(I)Z"⟩
abbrev cX1_take : ByteArray := prog_3_method_5_code
def yX1_take : MethodName := ⟨RX1, "take", "()I"⟩
abbrev cX1_accept : ByteArray := prog_3_method_6_code
def yX1_accept : MethodName := ⟨RX1, "accept", "(I)Z"⟩
abbrev cX1_expect : ByteArray := prog_3_method_7_code
def yX1_expect : MethodName := ⟨RX1, "expect", "(I)I"⟩
abbrev cX1_openPart : ByteArray := prog_3_method_8_code
def yX1_openPart : MethodName := ⟨RX1, "openPart", "()V"⟩
abbrev cX1_closePart : ByteArray := prog_3_method_9_code
def yX1_closePart : MethodName := ⟨RX1, "closePart", "()V"⟩
abbrev cX1_enter : ByteArray := prog_3_method_10_code
def yX1_enter : MethodName := ⟨RX1, "enter", "(I)I"⟩
abbrev cX1_leave : ByteArray := prog_3_method_11_code
def yX1_leave : MethodName := ⟨RX1, "leave", "(I)V"⟩
abbrev cX1_putLeaf : ByteArray := prog_3_method_12_code
def yX1_putLeaf : MethodName := ⟨RX1, "putLeaf", "(I)V"⟩
abbrev cX1_name : ByteArray := prog_3_method_13_code
def yX1_name : MethodName := ⟨RX1, "name", "()V"⟩
abbrev cX1_file : ByteArray := prog_3_method_14_code
def yX1_file : MethodName := ⟨RX1, "file", "()V"⟩
abbrev cX1_functionDecl : ByteArray := prog_3_method_15_code
def yX1_functionDecl : MethodName := ⟨RX1, "functionDecl", "()V"⟩
abbrev cX1_receiver : ByteArray := prog_3_method_16_code
def yX1_receiver : MethodName := ⟨RX1, "receiver", "()V"⟩
abbrev cX1_decl : ByteArray := prog_3_method_17_code
def yX1_decl : MethodName := ⟨RX1, "decl", "()V"⟩
abbrev cX1_groupWhat : ByteArray := prog_3_method_18_code
def yX1_groupWhat : MethodName := ⟨RX1, "groupWhat", "(I)I"⟩
abbrev cX1_group : ByteArray := prog_3_method_19_code
def yX1_group : MethodName := ⟨RX1, "group", "(I)I"⟩
abbrev cX1_spec : ByteArray := prog_3_method_20_code
def yX1_spec : MethodName := ⟨RX1, "spec", "(I)V"⟩
abbrev cX1_constSpec : ByteArray := prog_3_method_21_code
def yX1_constSpec : MethodName := ⟨RX1, "constSpec", "()V"⟩
abbrev cX1_typeSpec : ByteArray := prog_3_method_22_code
def yX1_typeSpec : MethodName := ⟨RX1, "typeSpec", "()V"⟩
abbrev cX1_varSpec : ByteArray := prog_3_method_23_code
def yX1_varSpec : MethodName := ⟨RX1, "varSpec", "()V"⟩
abbrev cX1_names : ByteArray := prog_3_method_24_code
def yX1_names : MethodName := ⟨RX1, "names", "()V"⟩
abbrev cX1_signature : ByteArray := prog_3_method_25_code
def yX1_signature : MethodName := ⟨RX1, "signature", "()V"⟩
abbrev cX1_params : ByteArray := prog_3_method_26_code
def yX1_params : MethodName := ⟨RX1, "params", "()V"⟩
abbrev cX1_param : ByteArray := prog_3_method_27_code
def yX1_param : MethodName := ⟨RX1, "param", "(II)I"⟩
abbrev cX1_type : ByteArray := prog_3_method_28_code
def yX1_type : MethodName := ⟨RX1, "type", "()V"⟩
abbrev cX1_listType : ByteArray := prog_3_method_29_code
def yX1_listType : MethodName := ⟨RX1, "listType", "()V"⟩
abbrev cX1_mapType : ByteArray := prog_3_method_30_code
def yX1_mapType : MethodName := ⟨RX1, "mapType", "()V"⟩
abbrev cX1_chanType : ByteArray := prog_3_method_31_code
def yX1_chanType : MethodName := ⟨RX1, "chanType", "()V"⟩
abbrev cX1_receiveChanType : ByteArray := prog_3_method_32_code
def yX1_receiveChanType : MethodName := ⟨RX1, "receiveChanType", "()V"⟩
abbrev cX1_pointerType : ByteArray := prog_3_method_33_code
def yX1_pointerType : MethodName := ⟨RX1, "pointerType", "()V"⟩
abbrev cX1_structType : ByteArray := prog_3_method_34_code
def yX1_structType : MethodName := ⟨RX1, "structType", "()V"⟩
abbrev cX1_functionType : ByteArray := prog_3_method_35_code
def yX1_functionType : MethodName := ⟨RX1, "functionType", "()V"⟩
abbrev cX1_interfaceType : ByteArray := prog_3_method_36_code
def yX1_interfaceType : MethodName := ⟨RX1, "interfaceType", "()V"⟩
abbrev cX1_block : ByteArray := prog_3_method_37_code
def yX1_block : MethodName := ⟨RX1, "block", "()V"⟩
abbrev cX1_stmts : ByteArray := prog_3_method_38_code
def yX1_stmts : MethodName := ⟨RX1, "stmts", "()I"⟩
abbrev cX1_stmt : ByteArray := prog_3_method_39_code
def yX1_stmt : MethodName := ⟨RX1, "stmt", "()Z"⟩
abbrev cX1_wordStmt : ByteArray := prog_3_method_40_code
def yX1_wordStmt : MethodName := ⟨RX1, "wordStmt", "()Z"⟩
abbrev cX1_startStmt : ByteArray := prog_3_method_41_code
def yX1_startStmt : MethodName := ⟨RX1, "startStmt", "(I)V"⟩
abbrev cX1_returnStmt : ByteArray := prog_3_method_42_code
def yX1_returnStmt : MethodName := ⟨RX1, "returnStmt", "()V"⟩
abbrev cX1_jumpStmt : ByteArray := prog_3_method_43_code
def yX1_jumpStmt : MethodName := ⟨RX1, "jumpStmt", "(I)V"⟩
abbrev cX1_simpleStmt : ByteArray := prog_3_method_44_code
def yX1_simpleStmt : MethodName := ⟨RX1, "simpleStmt", "()Z"⟩
abbrev cX1_labeledStmt : ByteArray := prog_3_method_45_code
def yX1_labeledStmt : MethodName := ⟨RX1, "labeledStmt", "()V"⟩
abbrev cX1_wholeSimple : ByteArray := prog_3_method_46_code
def yX1_wholeSimple : MethodName := ⟨RX1, "wholeSimple", "(I)V"⟩
abbrev cX1_simple : ByteArray := prog_3_method_47_code
def yX1_simple : MethodName := ⟨RX1, "simple", "(I)I"⟩
abbrev cX1_isNameFrom : ByteArray := prog_3_method_48_code
def yX1_isNameFrom : MethodName := ⟨RX1, "isNameFrom", "(I)Z"⟩
abbrev cX1_assign : ByteArray := prog_3_method_49_code
def yX1_assign : MethodName := ⟨RX1, "assign", "(I)I"⟩
abbrev cX1_define : ByteArray := prog_3_method_50_code
def yX1_define : MethodName := ⟨RX1, "define", "(II)I"⟩
abbrev cX1_behindExpr : ByteArray := prog_3_method_51_code
def yX1_behindExpr : MethodName := ⟨RX1, "behindExpr", "(I)I"⟩
abbrev cX1_putGuard : ByteArray := prog_3_method_52_code
def yX1_putGuard : MethodName := ⟨RX1, "putGuard", "(I)V"⟩
abbrev cX1_opening : ByteArray := prog_3_method_53_code
def yX1_opening : MethodName := ⟨RX1, "opening", "(II)I"⟩
abbrev cX1_ifStmt : ByteArray := prog_3_method_54_code
def yX1_ifStmt : MethodName := ⟨RX1, "ifStmt", "()V"⟩
abbrev cX1_elseBranch : ByteArray := prog_3_method_55_code
def yX1_elseBranch : MethodName := ⟨RX1, "elseBranch", "()V"⟩
abbrev cX1_forStmt : ByteArray := prog_3_method_56_code
def yX1_forStmt : MethodName := ⟨RX1, "forStmt", "()V"⟩
abbrev cX1_forHead : ByteArray := prog_3_method_57_code
def yX1_forHead : MethodName := ⟨RX1, "forHead", "()I"⟩
abbrev cX1_range : ByteArray := prog_3_method_58_code
def yX1_range : MethodName := ⟨RX1, "range", "(I)V"⟩
abbrev cX1_restOfForHead : ByteArray := prog_3_method_59_code
def yX1_restOfForHead : MethodName := ⟨RX1, "restOfForHead", "()V"⟩
abbrev cX1_switchStmt : ByteArray := prog_3_method_60_code
def yX1_switchStmt : MethodName := ⟨RX1, "switchStmt", "()V"⟩
abbrev cX1_tag : ByteArray := prog_3_method_61_code
def yX1_tag : MethodName := ⟨RX1, "tag", "()Z"⟩
abbrev cX1_selectStmt : ByteArray := prog_3_method_62_code
def yX1_selectStmt : MethodName := ⟨RX1, "selectStmt", "()V"⟩
abbrev cX1_clauses : ByteArray := prog_3_method_63_code
def yX1_clauses : MethodName := ⟨RX1, "clauses", "(I)I"⟩
abbrev cX1_caseClause : ByteArray := prog_3_method_64_code
def yX1_caseClause : MethodName := ⟨RX1, "caseClause", "(I)V"⟩
abbrev cX1_defaultClause : ByteArray := prog_3_method_65_code
def yX1_defaultClause : MethodName := ⟨RX1, "defaultClause", "(I)V"⟩
abbrev cX1_clauseBody : ByteArray := prog_3_method_66_code
def yX1_clauseBody : MethodName := ⟨RX1, "clauseBody", "()V"⟩
abbrev cX1_types : ByteArray := prog_3_method_67_code
def yX1_types : MethodName := ⟨RX1, "types", "()V"⟩
abbrev cX1_exprs : ByteArray := prog_3_method_68_code
def yX1_exprs : MethodName := ⟨RX1, "exprs", "()V"⟩
abbrev cX1_restOfExprs : ByteArray := prog_3_method_69_code
def yX1_restOfExprs : MethodName := ⟨RX1, "restOfExprs", "(II)V"⟩
abbrev cX1_expr : ByteArray := prog_3_method_70_code
def yX1_expr : MethodName := ⟨RX1, "expr", "(Z)V"⟩
abbrev cX1_await : ByteArray := prog_3_method_71_code
def yX1_await : MethodName := ⟨RX1, "await", "(I)V"⟩
abbrev cX1_putWaiting : ByteArray := prog_3_method_72_code
def yX1_putWaiting : MethodName := ⟨RX1, "putWaiting", "(II)V"⟩
abbrev cX1_unary : ByteArray := prog_3_method_73_code
def yX1_unary : MethodName := ⟨RX1, "unary", "(Z)V"⟩
abbrev cX1_seesUnarySign : ByteArray := prog_3_method_74_code
def yX1_seesUnarySign : MethodName := ⟨RX1, "seesUnarySign", "()Z"⟩
abbrev cX1_primary : ByteArray := prog_3_method_75_code
def yX1_primary : MethodName := ⟨RX1, "primary", "(Z)V"⟩
abbrev cX1_behindOperand : ByteArray := prog_3_method_76_code
def yX1_behindOperand : MethodName := ⟨RX1, "behindOperand", "(Z)Z"⟩
abbrev cX1_dot : ByteArray := prog_3_method_77_code
def yX1_dot : MethodName := ⟨RX1, "dot", "(Z)Z"⟩
abbrev cX1_index : ByteArray := prog_3_method_78_code
def yX1_index : MethodName := ⟨RX1, "index", "()V"⟩
abbrev cX1_upperBounds : ByteArray := prog_3_method_79_code
def yX1_upperBounds : MethodName := ⟨RX1, "upperBounds", "()I"⟩
abbrev cX1_call : ByteArray := prog_3_method_80_code
def yX1_call : MethodName := ⟨RX1, "call", "()V"⟩
abbrev cX1_operand : ByteArray := prog_3_method_81_code
def yX1_operand : MethodName := ⟨RX1, "operand", "()V"⟩
abbrev cX1_paren : ByteArray := prog_3_method_82_code
def yX1_paren : MethodName := ⟨RX1, "paren", "()V"⟩
abbrev cX1_functionOrType : ByteArray := prog_3_method_83_code
def yX1_functionOrType : MethodName := ⟨RX1, "functionOrType", "()V"⟩
abbrev cX1_countedArrayType : ByteArray := prog_3_method_84_code
def yX1_countedArrayType : MethodName := ⟨RX1, "countedArrayType", "()V"⟩
abbrev cX1_elements : ByteArray := prog_3_method_85_code
def yX1_elements : MethodName := ⟨RX1, "elements", "(II)V"⟩
abbrev cX1_value : ByteArray := prog_3_method_86_code
def yX1_value : MethodName := ⟨RX1, "value", "()V"⟩
def RX2 : String := "TreeBuilder$Tokens"
def TX2 : u_T := fun k => match k with
  | 0 => ("TreeBuilder$Tokens", "kinds", "[B", true)
  | _ => ("TreeBuilder$Tokens", "count", "I", false)
def tyX2 : Nat → FieldType := fun k => match k with
  | 0 => .array .byte
  | _ => .int
abbrev wsX20 : List Cond := u_ws RX2 TX2 2
theorem nmX2 : ∀ a, a < 2 → ∀ b, b < 2 → a ≠ b → (TX2 a).2.1 ≠ (TX2 b).2.1 := by decide +kernel
theorem tyX2_ok : ∀ k, k < 2 → parseFieldDescriptor (TX2 k).2.2.1 = some (tyX2 k) := by decide +kernel
abbrev cX2_init : ByteArray := prog_4_method_1_code
def yX2_init : MethodName := ⟨RX2, "<init>", "()V"⟩
abbrev cX2_haveRoomFor : ByteArray := prog_4_method_2_code
def yX2_haveRoomFor : MethodName := ⟨RX2, "haveRoomFor", "(I)Z"⟩
abbrev cX2_append : ByteArray := prog_4_method_3_code
def yX2_append : MethodName := ⟨RX2, "append", "(I)V"⟩
abbrev cX2_kindAt : ByteArray := prog_4_method_4_code
def yX2_kindAt : MethodName := ⟨RX2, "kindAt", "(I)I"⟩
def RX3 : String := "TreeBuilder$Tree"
def TX3 : u_T := fun k => match k with
  | 0 => ("TreeBuilder$Tree", "whats", "[I", false)
  | 1 => ("TreeBuilder$Tree", "tokens", "[I", false)
  | 2 => ("TreeBuilder$Tree", "spans", "[I", false)
  | 3 => ("TreeBuilder$Tree", "counts", "[I", false)
  | 4 => ("TreeBuilder$Tree", "places", "[I", false)
  | 5 => ("TreeBuilder$Tree", "parents", "[I", false)
  | 6 => ("TreeBuilder$Tree", "used", "I", false)
  | _ => ("TreeBuilder$Tree", "numbered", "I", false)
def tyX3 : Nat → FieldType := fun k => match k with
  | 0 => .array .int
  | 1 => .array .int
  | 2 => .array .int
  | 3 => .array .int
  | 4 => .array .int
  | 5 => .array .int
  | 6 => .int
  | _ => .int
abbrev wsX30 : List Cond := u_ws RX3 TX3 8
theorem nmX3 : ∀ a, a < 8 → ∀ b, b < 8 → a ≠ b → (TX3 a).2.1 ≠ (TX3 b).2.1 := by decide +kernel
theorem tyX3_ok : ∀ k, k < 8 → parseFieldDescriptor (TX3 k).2.2.1 = some (tyX3 k) := by decide +kernel
abbrev cX3_init : ByteArray := prog_5_method_1_code
def yX3_init : MethodName := ⟨RX3, "<init>", "()V"⟩
abbrev cX3_beginFor : ByteArray := prog_5_method_2_code
def yX3_beginFor : MethodName := ⟨RX3, "beginFor", "(I)V"⟩
abbrev cX3_makeRows : ByteArray := prog_5_method_3_code
def yX3_makeRows : MethodName := ⟨RX3, "makeRows", "(I)V"⟩
abbrev cX3_put : ByteArray := prog_5_method_4_code
def yX3_put : MethodName := ⟨RX3, "put", "(III)V"⟩
abbrev cX3_spanPutAt : ByteArray := prog_5_method_5_code
def yX3_spanPutAt : MethodName := ⟨RX3, "spanPutAt", "(I)I"⟩
abbrev cX3_number : ByteArray := prog_5_method_6_code
def yX3_number : MethodName := ⟨RX3, "number", "()V"⟩
abbrev cX3_numberChildren : ByteArray := prog_5_method_7_code
def yX3_numberChildren : MethodName := ⟨RX3, "numberChildren", "(I)V"⟩
abbrev cX3_has : ByteArray := prog_5_method_8_code
def yX3_has : MethodName := ⟨RX3, "has", "(I)Z"⟩
abbrev cX3_placeOf : ByteArray := prog_5_method_9_code
def yX3_placeOf : MethodName := ⟨RX3, "placeOf", "(I)I"⟩
abbrev cX3_read : ByteArray := prog_5_method_10_code
def yX3_read : MethodName := ⟨RX3, "read", "([II)I"⟩
abbrev cX3_whatOf : ByteArray := prog_5_method_11_code
def yX3_whatOf : MethodName := ⟨RX3, "whatOf", "(I)I"⟩
abbrev cX3_tokenOf : ByteArray := prog_5_method_12_code
def yX3_tokenOf : MethodName := ⟨RX3, "tokenOf", "(I)I"⟩
abbrev cX3_spanOf : ByteArray := prog_5_method_13_code
def yX3_spanOf : MethodName := ⟨RX3, "spanOf", "(I)I"⟩
abbrev cX3_childrenOf : ByteArray := prog_5_method_14_code
def yX3_childrenOf : MethodName := ⟨RX3, "childrenOf", "(I)I"⟩
abbrev cX3_parentOf : ByteArray := prog_5_method_15_code
def yX3_parentOf : MethodName := ⟨RX3, "parentOf", "(I)I"⟩
def RX4 : String := "TreeBuilder$What"
def TX4 : u_T := fun k => match k with
  | _ => ("", "", "", false)
def tyX4 : Nat → FieldType := fun k => match k with
  | _ => .int
abbrev wsX40 : List Cond := u_ws RX4 TX4 0
theorem nmX4 : ∀ a, a < 0 → ∀ b, b < 0 → a ≠ b → (TX4 a).2.1 ≠ (TX4 b).2.1 := by decide +kernel
theorem tyX4_ok : ∀ k, k < 0 → parseFieldDescriptor (TX4 k).2.2.1 = some (tyX4 k) := by decide +kernel
def RX5 : String := "TreeBuilder"
def TX5 : u_T := fun k => match k with
  | 0 => ("TreeBuilder", "tokens", "LTreeBuilder$Tokens;", true)
  | _ => ("TreeBuilder", "tree", "LTreeBuilder$Tree;", true)
def tyX5 : Nat → FieldType := fun k => match k with
  | 0 => .object "TreeBuilder$Tokens"
  | _ => .object "TreeBuilder$Tree"
abbrev wsX50 : List Cond := u_ws RX5 TX5 2
theorem nmX5 : ∀ a, a < 2 → ∀ b, b < 2 → a ≠ b → (TX5 a).2.1 ≠ (TX5 b).2.1 := by decide +kernel
theorem tyX5_ok : ∀ k, k < 2 → parseFieldDescriptor (TX5 k).2.2.1 = some (tyX5 k) := by decide +kernel
abbrev cX5_init : ByteArray := prog_1_method_1_code
def yX5_init : MethodName := ⟨RX5, "<init>", "()V"⟩
abbrev cX5_add : ByteArray := prog_1_method_2_code
def yX5_add : MethodName := ⟨RX5, "add", "(I)Z"⟩
abbrev cX5_addAll : ByteArray := prog_1_method_3_code
def yX5_addAll : MethodName := ⟨RX5, "addAll", "(J)Z"⟩
abbrev cX5_byteOf : ByteArray := prog_1_method_4_code
def yX5_byteOf : MethodName := ⟨RX5, "byteOf", "(JI)I"⟩
abbrev cX5_build : ByteArray := prog_1_method_5_code
def yX5_build : MethodName := ⟨RX5, "build", "()I"⟩
abbrev cX5_size : ByteArray := prog_1_method_6_code
def yX5_size : MethodName := ⟨RX5, "size", "()I"⟩
abbrev cX5_nodes : ByteArray := prog_1_method_7_code
def yX5_nodes : MethodName := ⟨RX5, "nodes", "()I"⟩
abbrev cX5_node : ByteArray := prog_1_method_8_code
def yX5_node : MethodName := ⟨RX5, "node", "(II)I"⟩
abbrev cX5_child : ByteArray := prog_1_method_9_code
def yX5_child : MethodName := ⟨RX5, "child", "(II)I"⟩
def RX6 : String := "TreeBuilderModel"
def TX6 : u_T := fun k => match k with
  | 0 => ("TreeBuilderModel", "thrown", "I", false)
  | 1 => ("TreeBuilderModel", "count", "I", false)
  | 2 => ("TreeBuilderModel", "kinds", "[B", true)
  | 3 => ("TreeBuilderModel", "made", "I", false)
  | 4 => ("TreeBuilderModel", "nodes", "I", false)
  | 5 => ("TreeBuilderModel", "what", "[I", true)
  | 6 => ("TreeBuilderModel", "token", "[I", true)
  | 7 => ("TreeBuilderModel", "parent", "[I", true)
  | 8 => ("TreeBuilderModel", "first", "[I", true)
  | 9 => ("TreeBuilderModel", "last", "[I", true)
  | 10 => ("TreeBuilderModel", "next", "[I", true)
  | 11 => ("TreeBuilderModel", "number", "[I", true)
  | 12 => ("TreeBuilderModel", "byNumber", "[I", true)
  | 13 => ("TreeBuilderModel", "inside", "[I", true)
  | 14 => ("TreeBuilderModel", "todo", "I", false)
  | 15 => ("TreeBuilderModel", "does", "[I", true)
  | 16 => ("TreeBuilderModel", "node", "[I", true)
  | 17 => ("TreeBuilderModel", "truth", "[I", true)
  | 18 => ("TreeBuilderModel", "at", "I", false)
  | 19 => ("TreeBuilderModel", "depth", "I", false)
  | 20 => ("TreeBuilderModel", "wrong", "I", false)
  | 21 => ("TreeBuilderModel", "rows", "I", false)
  | 22 => ("TreeBuilderModel", "named", "[Z", true)
  | 23 => ("TreeBuilderModel", "plain", "[Z", true)
  | 24 => ("TreeBuilderModel", "pending", "[I", true)
  | _ => ("TreeBuilderModel", "ended", "[Z", true)
def tyX6 : Nat → FieldType := fun k => match k with
  | 0 => .int
  | 1 => .int
  | 2 => .array .byte
  | 3 => .int
  | 4 => .int
  | 5 => .array .int
  | 6 => .array .int
  | 7 => .array .int
  | 8 => .array .int
  | 9 => .array .int
  | 10 => .array .int
  | 11 => .array .int
  | 12 => .array .int
  | 13 => .array .int
  | 14 => .int
  | 15 => .array .int
  | 16 => .array .int
  | 17 => .array .int
  | 18 => .int
  | 19 => .int
  | 20 => .int
  | 21 => .int
  | 22 => .array .boolean
  | 23 => .array .boolean
  | 24 => .array .int
  | _ => .array .boolean
abbrev wsX60 : List Cond := u_ws RX6 TX6 26
theorem nmX6 : ∀ a, a < 26 → ∀ b, b < 26 → a ≠ b → (TX6 a).2.1 ≠ (TX6 b).2.1 := by decide +kernel
theorem tyX6_ok : ∀ k, k < 26 → parseFieldDescriptor (TX6 k).2.2.1 = some (tyX6 k) := by decide +kernel
abbrev cX6_init : ByteArray := prog_8_method_1_code
def yX6_init : MethodName := ⟨RX6, "<init>", "()V"⟩
abbrev cX6_thrown : ByteArray := prog_8_method_2_code
def yX6_thrown : MethodName := ⟨RX6, "thrown", "()I"⟩
abbrev cX6_fail : ByteArray := prog_8_method_3_code
def yX6_fail : MethodName := ⟨RX6, "fail", "()I"⟩
abbrev cX6_isKind : ByteArray := prog_8_method_4_code
def yX6_isKind : MethodName := ⟨RX6, "isKind", "(I)Z"⟩
abbrev cX6_add : ByteArray := prog_8_method_5_code
def yX6_add : MethodName := ⟨RX6, "add", "(I)Z"⟩
abbrev cX6_addAll : ByteArray := prog_8_method_6_code
def yX6_addAll : MethodName := ⟨RX6, "addAll", "(J)Z"⟩
abbrev cX6_size : ByteArray := prog_8_method_7_code
def yX6_size : MethodName := ⟨RX6, "size", "()I"⟩
abbrev cX6_look : ByteArray := prog_8_method_8_code
def yX6_look : MethodName := ⟨RX6, "look", "()I"⟩
abbrev cX6_ahead : ByteArray := prog_8_method_9_code
def yX6_ahead : MethodName := ⟨RX6, "ahead", "()I"⟩
abbrev cX6_error : ByteArray := prog_8_method_10_code
def yX6_error : MethodName := ⟨RX6, "error", "()V"⟩
abbrev cX6_pass : ByteArray := prog_8_method_11_code
def yX6_pass : MethodName := ⟨RX6, "pass", "(I)V"⟩
abbrev cX6_more : ByteArray := prog_8_method_12_code
def yX6_more : MethodName := ⟨RX6, "more", "()V"⟩
abbrev cX6_child : ByteArray := prog_8_method_13_code
def yX6_child : MethodName := ⟨RX6, "child", "(III)I"⟩
abbrev cX6_wrap : ByteArray := prog_8_method_14_code
def yX6_wrap : MethodName := ⟨RX6, "wrap", "(III)I"⟩
abbrev cX6_unwrap : ByteArray := prog_8_method_15_code
def yX6_unwrap : MethodName := ⟨RX6, "unwrap", "(I)V"⟩
abbrev cX6_push : ByteArray := prog_8_method_16_code
def yX6_push : MethodName := ⟨RX6, "push", "(III)V"⟩
abbrev cX6_name : ByteArray := prog_8_method_17_code
def yX6_name : MethodName := ⟨RX6, "name", "(I)I"⟩
abbrev cX6_has : ByteArray := prog_8_method_18_code
def yX6_has : MethodName := ⟨RX6, "has", "(II)Z"⟩
abbrev cX6_beginsType : ByteArray := prog_8_method_19_code
def yX6_beginsType : MethodName := ⟨RX6, "beginsType", "(I)Z"⟩
abbrev cX6_isUnary : ByteArray := prog_8_method_20_code
def yX6_isUnary : MethodName := ⟨RX6, "isUnary", "(I)Z"⟩
abbrev cX6_beginsExpr : ByteArray := prog_8_method_21_code
def yX6_beginsExpr : MethodName := ⟨RX6, "beginsExpr", "(I)Z"⟩
abbrev cX6_strength : ByteArray := prog_8_method_22_code
def yX6_strength : MethodName := ⟨RX6, "strength", "(I)I"⟩
abbrev cX6_expression : ByteArray := prog_8_method_23_code
def yX6_expression : MethodName := ⟨RX6, "expression", "(III)V"⟩
abbrev cX6_binary : ByteArray := prog_8_method_24_code
def yX6_binary : MethodName := ⟨RX6, "binary", "(II)V"⟩
abbrev cX6_unary : ByteArray := prog_8_method_25_code
def yX6_unary : MethodName := ⟨RX6, "unary", "(II)V"⟩
abbrev cX6_operand : ByteArray := prog_8_method_26_code
def yX6_operand : MethodName := ⟨RX6, "operand", "(II)V"⟩
abbrev cX6_literal : ByteArray := prog_8_method_27_code
def yX6_literal : MethodName := ⟨RX6, "literal", "(II)V"⟩
abbrev cX6_elements : ByteArray := prog_8_method_28_code
def yX6_elements : MethodName := ⟨RX6, "elements", "(I)V"⟩
abbrev cX6_elementsMore : ByteArray := prog_8_method_29_code
def yX6_elementsMore : MethodName := ⟨RX6, "elementsMore", "(I)V"⟩
abbrev cX6_value : ByteArray := prog_8_method_30_code
def yX6_value : MethodName := ⟨RX6, "value", "(I)V"⟩
abbrev cX6_postfix : ByteArray := prog_8_method_31_code
def yX6_postfix : MethodName := ⟨RX6, "postfix", "(II)V"⟩
abbrev cX6_dot : ByteArray := prog_8_method_32_code
def yX6_dot : MethodName := ⟨RX6, "dot", "(II)V"⟩
abbrev cX6_index : ByteArray := prog_8_method_33_code
def yX6_index : MethodName := ⟨RX6, "index", "(I)V"⟩
abbrev cX6_slice : ByteArray := prog_8_method_34_code
def yX6_slice : MethodName := ⟨RX6, "slice", "(I)V"⟩
abbrev cX6_sliced : ByteArray := prog_8_method_35_code
def yX6_sliced : MethodName := ⟨RX6, "sliced", "(I)V"⟩
abbrev cX6_sliceMore : ByteArray := prog_8_method_36_code
def yX6_sliceMore : MethodName := ⟨RX6, "sliceMore", "(I)V"⟩
abbrev cX6_args : ByteArray := prog_8_method_37_code
def yX6_args : MethodName := ⟨RX6, "args", "(I)V"⟩
abbrev cX6_argsMore : ByteArray := prog_8_method_38_code
def yX6_argsMore : MethodName := ⟨RX6, "argsMore", "(I)V"⟩
abbrev cX6_type : ByteArray := prog_8_method_39_code
def yX6_type : MethodName := ⟨RX6, "type", "(II)V"⟩
abbrev cX6_array : ByteArray := prog_8_method_40_code
def yX6_array : MethodName := ⟨RX6, "array", "(II)V"⟩
abbrev cX6_fields : ByteArray := prog_8_method_41_code
def yX6_fields : MethodName := ⟨RX6, "fields", "(I)V"⟩
abbrev cX6_methods : ByteArray := prog_8_method_42_code
def yX6_methods : MethodName := ⟨RX6, "methods", "(I)V"⟩
abbrev cX6_fieldsMore : ByteArray := prog_8_method_43_code
def yX6_fieldsMore : MethodName := ⟨RX6, "fieldsMore", "(II)V"⟩
abbrev cX6_signature : ByteArray := prog_8_method_44_code
def yX6_signature : MethodName := ⟨RX6, "signature", "(I)V"⟩
abbrev cX6_result : ByteArray := prog_8_method_45_code
def yX6_result : MethodName := ⟨RX6, "result", "(I)V"⟩
abbrev cX6_params : ByteArray := prog_8_method_46_code
def yX6_params : MethodName := ⟨RX6, "params", "(I)V"⟩
abbrev cX6_param : ByteArray := prog_8_method_47_code
def yX6_param : MethodName := ⟨RX6, "param", "(I)V"⟩
abbrev cX6_paramMore : ByteArray := prog_8_method_48_code
def yX6_paramMore : MethodName := ⟨RX6, "paramMore", "(I)V"⟩
abbrev cX6_names : ByteArray := prog_8_method_49_code
def yX6_names : MethodName := ⟨RX6, "names", "(I)V"⟩
abbrev cX6_namesMore : ByteArray := prog_8_method_50_code
def yX6_namesMore : MethodName := ⟨RX6, "namesMore", "(I)V"⟩
abbrev cX6_exprs : ByteArray := prog_8_method_51_code
def yX6_exprs : MethodName := ⟨RX6, "exprs", "(II)V"⟩
abbrev cX6_exprsMore : ByteArray := prog_8_method_52_code
def yX6_exprsMore : MethodName := ⟨RX6, "exprsMore", "(II)V"⟩
abbrev cX6_declaration : ByteArray := prog_8_method_53_code
def yX6_declaration : MethodName := ⟨RX6, "declaration", "(I)V"⟩
abbrev cX6_specs : ByteArray := prog_8_method_54_code
def yX6_specs : MethodName := ⟨RX6, "specs", "(II)V"⟩
abbrev cX6_specsMore : ByteArray := prog_8_method_55_code
def yX6_specsMore : MethodName := ⟨RX6, "specsMore", "(II)V"⟩
abbrev cX6_spec : ByteArray := prog_8_method_56_code
def yX6_spec : MethodName := ⟨RX6, "spec", "(II)V"⟩
abbrev cX6_valued : ByteArray := prog_8_method_57_code
def yX6_valued : MethodName := ⟨RX6, "valued", "(II)V"⟩
abbrev cX6_constRest : ByteArray := prog_8_method_58_code
def yX6_constRest : MethodName := ⟨RX6, "constRest", "(I)V"⟩
abbrev cX6_varRest : ByteArray := prog_8_method_59_code
def yX6_varRest : MethodName := ⟨RX6, "varRest", "(I)V"⟩
abbrev cX6_function : ByteArray := prog_8_method_60_code
def yX6_function : MethodName := ⟨RX6, "function", "(I)V"⟩
abbrev cX6_tops : ByteArray := prog_8_method_61_code
def yX6_tops : MethodName := ⟨RX6, "tops", "(I)V"⟩
abbrev cX6_beginsStatement : ByteArray := prog_8_method_62_code
def yX6_beginsStatement : MethodName := ⟨RX6, "beginsStatement", "(I)Z"⟩
abbrev cX6_block : ByteArray := prog_8_method_63_code
def yX6_block : MethodName := ⟨RX6, "block", "(I)V"⟩
abbrev cX6_statements : ByteArray := prog_8_method_64_code
def yX6_statements : MethodName := ⟨RX6, "statements", "(I)V"⟩
abbrev cX6_statementsMore : ByteArray := prog_8_method_65_code
def yX6_statementsMore : MethodName := ⟨RX6, "statementsMore", "(I)V"⟩
abbrev cX6_statement : ByteArray := prog_8_method_66_code
def yX6_statement : MethodName := ⟨RX6, "statement", "(I)V"⟩
abbrev cX6_leaving : ByteArray := prog_8_method_67_code
def yX6_leaving : MethodName := ⟨RX6, "leaving", "(II)V"⟩
abbrev cX6_simple : ByteArray := prog_8_method_68_code
def yX6_simple : MethodName := ⟨RX6, "simple", "(II)V"⟩
abbrev cX6_simpleRest : ByteArray := prog_8_method_69_code
def yX6_simpleRest : MethodName := ⟨RX6, "simpleRest", "(II)V"⟩
abbrev cX6_listRest : ByteArray := prog_8_method_70_code
def yX6_listRest : MethodName := ⟨RX6, "listRest", "(II)V"⟩
abbrev cX6_ranges : ByteArray := prog_8_method_71_code
def yX6_ranges : MethodName := ⟨RX6, "ranges", "(II)Z"⟩
abbrev cX6_assign : ByteArray := prog_8_method_72_code
def yX6_assign : MethodName := ⟨RX6, "assign", "(II)V"⟩
abbrev cX6_right : ByteArray := prog_8_method_73_code
def yX6_right : MethodName := ⟨RX6, "right", "(III)V"⟩
abbrev cX6_define : ByteArray := prog_8_method_74_code
def yX6_define : MethodName := ⟨RX6, "define", "(IIZ)V"⟩
abbrev cX6_guarded : ByteArray := prog_8_method_75_code
def yX6_guarded : MethodName := ⟨RX6, "guarded", "(II)V"⟩
abbrev cX6_ifs : ByteArray := prog_8_method_76_code
def yX6_ifs : MethodName := ⟨RX6, "ifs", "(I)V"⟩
abbrev cX6_ifRest : ByteArray := prog_8_method_77_code
def yX6_ifRest : MethodName := ⟨RX6, "ifRest", "(I)V"⟩
abbrev cX6_ifElse : ByteArray := prog_8_method_78_code
def yX6_ifElse : MethodName := ⟨RX6, "ifElse", "(I)V"⟩
abbrev cX6_loop : ByteArray := prog_8_method_79_code
def yX6_loop : MethodName := ⟨RX6, "loop", "(I)V"⟩
abbrev cX6_forRest : ByteArray := prog_8_method_80_code
def yX6_forRest : MethodName := ⟨RX6, "forRest", "(I)V"⟩
abbrev cX6_condition : ByteArray := prog_8_method_81_code
def yX6_condition : MethodName := ⟨RX6, "condition", "(I)V"⟩
abbrev cX6_forPost : ByteArray := prog_8_method_82_code
def yX6_forPost : MethodName := ⟨RX6, "forPost", "(II)V"⟩
abbrev cX6_choice : ByteArray := prog_8_method_83_code
def yX6_choice : MethodName := ⟨RX6, "choice", "(I)V"⟩
abbrev cX6_second : ByteArray := prog_8_method_84_code
def yX6_second : MethodName := ⟨RX6, "second", "(I)V"⟩
abbrev cX6_switchRest : ByteArray := prog_8_method_85_code
def yX6_switchRest : MethodName := ⟨RX6, "switchRest", "(I)V"⟩
abbrev cX6_body : ByteArray := prog_8_method_86_code
def yX6_body : MethodName := ⟨RX6, "body", "(II)V"⟩
abbrev cX6_clauses : ByteArray := prog_8_method_87_code
def yX6_clauses : MethodName := ⟨RX6, "clauses", "(II)V"⟩
abbrev cX6_types : ByteArray := prog_8_method_88_code
def yX6_types : MethodName := ⟨RX6, "types", "(I)V"⟩
abbrev cX6_clause : ByteArray := prog_8_method_89_code
def yX6_clause : MethodName := ⟨RX6, "clause", "(I)V"⟩
abbrev cX6_functionTail : ByteArray := prog_8_method_90_code
def yX6_functionTail : MethodName := ⟨RX6, "functionTail", "(I)V"⟩
abbrev cX6_keyed : ByteArray := prog_8_method_91_code
def yX6_keyed : MethodName := ⟨RX6, "keyed", "(I)V"⟩
abbrev cX6_step : ByteArray := prog_8_method_92_code
def yX6_step : MethodName := ⟨RX6, "step", "(III)V"⟩
abbrev cX6_value_ : ByteArray := prog_8_method_93_code
def yX6_value_ : MethodName := ⟨RX6, "value", "(III)V"⟩
abbrev cX6_typing : ByteArray := prog_8_method_94_code
def yX6_typing : MethodName := ⟨RX6, "typing", "(III)V"⟩
abbrev cX6_declaring : ByteArray := prog_8_method_95_code
def yX6_declaring : MethodName := ⟨RX6, "declaring", "(III)V"⟩
abbrev cX6_stating : ByteArray := prog_8_method_96_code
def yX6_stating : MethodName := ⟨RX6, "stating", "(III)V"⟩
abbrev cX6_build : ByteArray := prog_8_method_97_code
def yX6_build : MethodName := ⟨RX6, "build", "()I"⟩
abbrev cX6_numberAll : ByteArray := prog_8_method_98_code
def yX6_numberAll : MethodName := ⟨RX6, "numberAll", "(I)V"⟩
abbrev cX6_nodes : ByteArray := prog_8_method_99_code
def yX6_nodes : MethodName := ⟨RX6, "nodes", "()I"⟩
abbrev cX6_node : ByteArray := prog_8_method_100_code
def yX6_node : MethodName := ⟨RX6, "node", "(II)I"⟩
abbrev cX6_child_ : ByteArray := prog_8_method_101_code
def yX6_child_ : MethodName := ⟨RX6, "child", "(II)I"⟩
def RJ9 : String := "java/lang/Math"
def RJ0 : String := "java/lang/String"
def RL : String := "TreeBuilderLaw"
abbrev cL_node : ByteArray := method_3_code
def yL_node : MethodName := ⟨RL, "node", "(LTreeBuilder;II[J)I"⟩
abbrev cL_child : ByteArray := method_4_code
def yL_child : MethodName := ⟨RL, "child", "(LTreeBuilder;II[J)I"⟩
abbrev cL_law : ByteArray := code
def yL_law : MethodName := ⟨RL, "law", "([I)Z"⟩
/-- the methods: own class, name, code, locals, answer, table, number of parameters, place of its word -/
def mm_MT0 : List mm_Me := [
  (RX5, yX5_init, cX5_init, 1, none, [], 0, 204),
  (RX2, yX2_init, cX2_init, 1, none, [], 0, 212),
  (RX3, yX3_init, cX3_init, 1, none, [], 0, 227),
  (RX5, yX5_add, cX5_add, 2, some .boolean, [], 1, 266),
  (RX0, yX0_exists, cX0_exists, 1, some .boolean, [], 1, 269),
  (RX2, yX2_haveRoomFor, cX2_haveRoomFor, 2, some .boolean, [], 1, 273),
  (RX2, yX2_append, cX2_append, 2, none, [], 1, 277),
  (RX5, yX5_addAll, cX5_addAll, 6, some .boolean, [], 1, 281),
  (RX5, yX5_byteOf, cX5_byteOf, 3, some .int, [], 2, 284),
  (RX5, yX5_build, cX5_build, 4, some .int, [(32, 36, 39, 55)], 0, 288),
  (RX3, yX3_beginFor, cX3_beginFor, 3, none, [], 1, 293),
  (RX3, yX3_makeRows, cX3_makeRows, 2, none, [], 1, 300),
  (RX1, yX1_init, cX1_init, 3, none, [], 2, 305),
  (RX2, yX2_kindAt, cX2_kindAt, 2, some .int, [], 1, 310),
  (RX1, yX1_file, cX1_file, 3, none, [], 0, 343),
  (RX1, yX1_expect, cX1_expect, 2, some .int, [], 1, 347),
  (RX1, yX1_sees, cX1_sees, 2, some .boolean, [], 1, 351),
  (RX1, yX1_refuse, cX1_refuse, 1, none, [], 0, 355),
  (RX1, yX1_take, cX1_take, 2, some .int, [], 0, 425),
  (RX1, yX1_name, cX1_name, 1, none, [], 0, 429),
  (RX3, yX3_put, cX3_put, 7, none, [], 3, 433),
  (RX3, yX3_spanPutAt, cX3_spanPutAt, 2, some .int, [], 1, 437),
  (RX1, yX1_functionDecl, cX1_functionDecl, 3, none, [], 0, 441),
  (RX1, yX1_receiver, cX1_receiver, 3, none, [], 0, 445),
  (RX1, yX1_enter, cX1_enter, 2, some .int, [], 1, 449),
  (RX1, yX1_openPart, cX1_openPart, 1, none, [], 0, 453),
  (RX1, yX1_type, cX1_type, 1, none, [], 0, 457),
  (RX0, yX0_beginsType, cX0_beginsType, 1, some .boolean, [], 1, 460),
  (RX1, yX1_listType, cX1_listType, 4, none, [], 0, 464),
  (RX1, yX1_expr, cX1_expr, 4, none, [], 1, 468),
  (RX1, yX1_unary, cX1_unary, 5, none, [], 1, 472),
  (RX1, yX1_seesUnarySign, cX1_seesUnarySign, 2, some .boolean, [], 0, 476),
  (RX1, yX1_nextKind, cX1_nextKind, 1, some .int, [], 0, 480),
  (RX0, yX0_isUnarySign, cX0_isUnarySign, 1, some .boolean, [], 1, 483),
  (RX1, yX1_primary, cX1_primary, 4, none, [], 1, 487),
  (RX1, yX1_operand, cX1_operand, 2, none, [], 0, 491),
  (RX1, yX1_putLeaf, cX1_putLeaf, 2, none, [], 1, 495),
  (RX1, yX1_elements, cX1_elements, 9, none, [], 2, 499),
  (RX1, yX1_value, cX1_value, 1, none, [], 0, 503),
  (RX1, yX1_accept, cX1_accept, 3, some .boolean, [], 1, 507)]
def mm_MT1 : List mm_Me := [
  (RX1, yX1_leave, cX1_leave, 2, none, [], 1, 511),
  (RX1, yX1_closePart, cX1_closePart, 1, none, [], 0, 515),
  (RX1, yX1_paren, cX1_paren, 3, none, [], 0, 519),
  (RX1, yX1_functionOrType, cX1_functionOrType, 2, none, [], 0, 523),
  (RX1, yX1_signature, cX1_signature, 3, none, [], 0, 527),
  (RX1, yX1_params, cX1_params, 8, none, [], 0, 531),
  (RX1, yX1_param, cX1_param, 8, some .int, [], 2, 535),
  (RX1, yX1_block, cX1_block, 3, none, [], 0, 539),
  (RX1, yX1_stmts, cX1_stmts, 4, some .int, [], 0, 543),
  (RX1, yX1_stmt, cX1_stmt, 1, some .boolean, [], 0, 547),
  (RX1, yX1_decl, cX1_decl, 4, none, [], 0, 551),
  (RX1, yX1_group, cX1_group, 5, some .int, [], 1, 555),
  (RX1, yX1_spec, cX1_spec, 2, none, [], 1, 559),
  (RX1, yX1_constSpec, cX1_constSpec, 3, none, [], 0, 563),
  (RX1, yX1_names, cX1_names, 3, none, [], 0, 567),
  (RX1, yX1_exprs, cX1_exprs, 2, none, [], 0, 571),
  (RX1, yX1_restOfExprs, cX1_restOfExprs, 4, none, [], 2, 575),
  (RX1, yX1_typeSpec, cX1_typeSpec, 2, none, [], 0, 579),
  (RX1, yX1_varSpec, cX1_varSpec, 3, none, [], 0, 583),
  (RX1, yX1_groupWhat, cX1_groupWhat, 1, some .int, [], 1, 586),
  (RX1, yX1_ifStmt, cX1_ifStmt, 4, none, [], 0, 590),
  (RX1, yX1_opening, cX1_opening, 7, some .int, [], 2, 594),
  (RX1, yX1_simple, cX1_simple, 6, some .int, [], 1, 598),
  (RX1, yX1_putGuard, cX1_putGuard, 2, none, [], 1, 602),
  (RX1, yX1_isNameFrom, cX1_isNameFrom, 2, some .boolean, [], 1, 606),
  (RX1, yX1_assign, cX1_assign, 4, some .int, [], 1, 610),
  (RX1, yX1_define, cX1_define, 5, some .int, [], 2, 614),
  (RX1, yX1_behindExpr, cX1_behindExpr, 3, some .int, [], 1, 618),
  (RX0, yX0_isOpAssign, cX0_isOpAssign, 1, some .boolean, [], 1, 621),
  (RX1, yX1_elseBranch, cX1_elseBranch, 1, none, [], 0, 625),
  (RX1, yX1_switchStmt, cX1_switchStmt, 6, none, [], 0, 629),
  (RX1, yX1_tag, cX1_tag, 2, some .boolean, [], 0, 633),
  (RX1, yX1_clauses, cX1_clauses, 3, some .int, [], 1, 637),
  (RX1, yX1_caseClause, cX1_caseClause, 3, none, [], 1, 641),
  (RX1, yX1_types, cX1_types, 3, none, [], 0, 645),
  (RX1, yX1_wholeSimple, cX1_wholeSimple, 3, none, [], 1, 649),
  (RX1, yX1_clauseBody, cX1_clauseBody, 2, none, [], 0, 653),
  (RX1, yX1_defaultClause, cX1_defaultClause, 3, none, [], 1, 657),
  (RX1, yX1_selectStmt, cX1_selectStmt, 2, none, [], 0, 661),
  (RX1, yX1_forStmt, cX1_forStmt, 4, none, [], 0, 665)]
def mm_MT2 : List mm_Me := [
  (RX1, yX1_forHead, cX1_forHead, 2, some .int, [], 0, 669),
  (RX1, yX1_range, cX1_range, 3, none, [], 1, 673),
  (RX1, yX1_restOfForHead, cX1_restOfForHead, 3, none, [], 0, 677),
  (RX1, yX1_wordStmt, cX1_wordStmt, 1, some .boolean, [], 0, 681),
  (RX1, yX1_startStmt, cX1_startStmt, 3, none, [], 1, 685),
  (RX1, yX1_returnStmt, cX1_returnStmt, 3, none, [], 0, 689),
  (RX0, yX0_beginsExpr, cX0_beginsExpr, 1, some .boolean, [], 1, 692),
  (RX1, yX1_jumpStmt, cX1_jumpStmt, 4, none, [], 1, 698),
  (RX1, yX1_simpleStmt, cX1_simpleStmt, 1, some .boolean, [], 0, 702),
  (RX1, yX1_labeledStmt, cX1_labeledStmt, 3, none, [], 0, 706),
  (RX1, yX1_countedArrayType, cX1_countedArrayType, 2, none, [], 0, 710),
  (RX1, yX1_behindOperand, cX1_behindOperand, 2, some .boolean, [], 1, 714),
  (RX1, yX1_dot, cX1_dot, 4, some .boolean, [], 1, 718),
  (RX1, yX1_index, cX1_index, 5, none, [], 0, 722),
  (RX1, yX1_upperBounds, cX1_upperBounds, 1, some .int, [], 0, 726),
  (RX1, yX1_call, cX1_call, 6, none, [], 0, 730),
  (RX0, yX0_binding, cX0_binding, 1, some .int, [], 1, 733),
  (RX1, yX1_putWaiting, cX1_putWaiting, 4, none, [], 2, 737),
  (RX1, yX1_await, cX1_await, 2, none, [], 1, 741),
  (RX1, yX1_mapType, cX1_mapType, 2, none, [], 0, 745),
  (RX1, yX1_chanType, cX1_chanType, 3, none, [], 0, 749),
  (RX1, yX1_receiveChanType, cX1_receiveChanType, 2, none, [], 0, 753),
  (RX1, yX1_pointerType, cX1_pointerType, 2, none, [], 0, 757),
  (RX1, yX1_structType, cX1_structType, 5, none, [], 0, 761),
  (RX1, yX1_functionType, cX1_functionType, 2, none, [], 0, 765),
  (RX1, yX1_interfaceType, cX1_interfaceType, 5, none, [], 0, 769),
  (RX0, yX0_beginsDecl, cX0_beginsDecl, 1, some .boolean, [], 1, 772),
  (RX3, yX3_number, cX3_number, 2, none, [], 0, 776),
  (RX3, yX3_numberChildren, cX3_numberChildren, 8, none, [], 1, 780),
  (RX3, yX3_spanOf, cX3_spanOf, 2, some .int, [], 1, 784),
  (RX3, yX3_placeOf, cX3_placeOf, 2, some .int, [], 1, 788),
  (RX3, yX3_read, cX3_read, 3, some .int, [], 2, 792),
  (RX3, yX3_childrenOf, cX3_childrenOf, 2, some .int, [], 1, 796),
  (RX5, yX5_size, cX5_size, 1, some .int, [], 0, 800),
  (RX5, yX5_nodes, cX5_nodes, 1, some .int, [], 0, 804),
  (RL, yL_node, cL_node, 5, some .int, [(0, 10, 13, 13)], 4, 807),
  (RX5, yX5_node, cX5_node, 3, some .int, [], 2, 812),
  (RX3, yX3_has, cX3_has, 2, some .boolean, [], 1, 816),
  (RX3, yX3_whatOf, cX3_whatOf, 2, some .int, [], 1, 836),
  (RX3, yX3_tokenOf, cX3_tokenOf, 2, some .int, [], 1, 840)]
def mm_MT3 : List mm_Me := [
  (RX3, yX3_parentOf, cX3_parentOf, 2, some .int, [], 1, 846),
  (RL, yL_child, cL_child, 5, some .int, [(0, 10, 13, 13)], 4, 851),
  (RX5, yX5_child, cX5_child, 5, some .int, [], 2, 855),
  (RX6, yX6_init, cX6_init, 1, none, [], 0, 861),
  (RX6, yX6_thrown, cX6_thrown, 1, some .int, [], 0, 947),
  (RX6, yX6_add, cX6_add, 2, some .boolean, [], 1, 951),
  (RX6, yX6_isKind, cX6_isKind, 1, some .boolean, [], 1, 954),
  (RX6, yX6_addAll, cX6_addAll, 6, some .boolean, [], 1, 958),
  (RX6, yX6_size, cX6_size, 1, some .int, [], 0, 963),
  (RX6, yX6_build, cX6_build, 2, some .int, [], 0, 967),
  (RX6, yX6_child, cX6_child, 4, some .int, [], 3, 971),
  (RX6, yX6_pass, cX6_pass, 2, none, [], 1, 975),
  (RX6, yX6_look, cX6_look, 1, some .int, [], 0, 979),
  (RX6, yX6_error, cX6_error, 1, none, [], 0, 983),
  (RX6, yX6_name, cX6_name, 3, some .int, [], 1, 987),
  (RX6, yX6_push, cX6_push, 4, none, [], 3, 991),
  (RX6, yX6_step, cX6_step, 4, none, [], 3, 995),
  (RX6, yX6_binary, cX6_binary, 6, none, [], 2, 999),
  (RX6, yX6_strength, cX6_strength, 1, some .int, [], 1, 1002),
  (RX6, yX6_wrap, cX6_wrap, 8, some .int, [], 3, 1006),
  (RX6, yX6_expression, cX6_expression, 4, none, [], 3, 1010),
  (RX6, yX6_unary, cX6_unary, 5, none, [], 2, 1014),
  (RX6, yX6_isUnary, cX6_isUnary, 1, some .boolean, [], 1, 1017),
  (RX6, yX6_ahead, cX6_ahead, 1, some .int, [], 0, 1021),
  (RX6, yX6_more, cX6_more, 1, none, [], 0, 1025),
  (RX6, yX6_operand, cX6_operand, 5, none, [], 2, 1029),
  (RX6, yX6_postfix, cX6_postfix, 5, none, [], 2, 1033),
  (RX6, yX6_dot, cX6_dot, 5, none, [], 2, 1037),
  (RX6, yX6_has, cX6_has, 2, some .boolean, [], 2, 1040),
  (RX6, yX6_slice, cX6_slice, 2, none, [], 1, 1044),
  (RX6, yX6_value_, cX6_value_, 4, none, [], 3, 1048),
  (RX6, yX6_literal, cX6_literal, 8, none, [], 2, 1052),
  (RX6, yX6_args, cX6_args, 2, none, [], 1, 1056),
  (RX6, yX6_argsMore, cX6_argsMore, 2, none, [], 1, 1060),
  (RX6, yX6_index, cX6_index, 2, none, [], 1, 1064),
  (RX6, yX6_sliced, cX6_sliced, 2, none, [], 1, 1068),
  (RX6, yX6_sliceMore, cX6_sliceMore, 2, none, [], 1, 1072),
  (RX6, yX6_elements, cX6_elements, 3, none, [], 1, 1076),
  (RX6, yX6_elementsMore, cX6_elementsMore, 2, none, [], 1, 1080),
  (RX6, yX6_keyed, cX6_keyed, 2, none, [], 1, 1084)]
def mm_MT4 : List mm_Me := [
  (RX6, yX6_value, cX6_value, 3, none, [], 1, 1088),
  (RX6, yX6_typing, cX6_typing, 4, none, [], 3, 1092),
  (RX6, yX6_type, cX6_type, 5, none, [], 2, 1096),
  (RX6, yX6_beginsType, cX6_beginsType, 1, some .boolean, [], 1, 1099),
  (RX6, yX6_array, cX6_array, 4, none, [], 2, 1103),
  (RX6, yX6_functionTail, cX6_functionTail, 2, none, [], 1, 1107),
  (RX6, yX6_block, cX6_block, 3, none, [], 1, 1111),
  (RX6, yX6_signature, cX6_signature, 3, none, [], 1, 1115),
  (RX6, yX6_result, cX6_result, 3, none, [], 1, 1119),
  (RX6, yX6_params, cX6_params, 3, none, [], 1, 1123),
  (RX6, yX6_param, cX6_param, 7, none, [], 1, 1127),
  (RX6, yX6_paramMore, cX6_paramMore, 3, none, [], 1, 1131),
  (RX6, yX6_fields, cX6_fields, 3, none, [], 1, 1135),
  (RX6, yX6_fieldsMore, cX6_fieldsMore, 3, none, [], 2, 1139),
  (RX6, yX6_methods, cX6_methods, 3, none, [], 1, 1143),
  (RX6, yX6_declaring, cX6_declaring, 4, none, [], 3, 1147),
  (RX6, yX6_names, cX6_names, 3, none, [], 1, 1151),
  (RX6, yX6_namesMore, cX6_namesMore, 2, none, [], 1, 1155),
  (RX6, yX6_exprsMore, cX6_exprsMore, 3, none, [], 2, 1159),
  (RX6, yX6_spec, cX6_spec, 4, none, [], 2, 1163),
  (RX6, yX6_specs, cX6_specs, 3, none, [], 2, 1167),
  (RX6, yX6_specsMore, cX6_specsMore, 3, none, [], 2, 1171),
  (RX6, yX6_constRest, cX6_constRest, 2, none, [], 1, 1175),
  (RX6, yX6_valued, cX6_valued, 3, none, [], 2, 1179),
  (RX6, yX6_exprs, cX6_exprs, 4, none, [], 2, 1183),
  (RX6, yX6_varRest, cX6_varRest, 2, none, [], 1, 1187),
  (RX6, yX6_statements, cX6_statements, 3, none, [], 1, 1191),
  (RX6, yX6_beginsStatement, cX6_beginsStatement, 1, some .boolean, [], 1, 1194),
  (RX6, yX6_beginsExpr, cX6_beginsExpr, 1, some .boolean, [], 1, 1197),
  (RX6, yX6_statement, cX6_statement, 4, none, [], 1, 1201),
  (RX6, yX6_declaration, cX6_declaration, 4, none, [], 1, 1205),
  (RX6, yX6_ifs, cX6_ifs, 3, none, [], 1, 1209),
  (RX6, yX6_loop, cX6_loop, 5, none, [], 1, 1213),
  (RX6, yX6_condition, cX6_condition, 3, none, [], 1, 1217),
  (RX6, yX6_choice, cX6_choice, 3, none, [], 1, 1221),
  (RX6, yX6_body, cX6_body, 3, none, [], 2, 1225),
  (RX6, yX6_second, cX6_second, 2, none, [], 1, 1229),
  (RX6, yX6_leaving, cX6_leaving, 4, none, [], 2, 1233),
  (RX6, yX6_statementsMore, cX6_statementsMore, 2, none, [], 1, 1237),
  (RX6, yX6_stating, cX6_stating, 4, none, [], 3, 1241)]
def mm_MT5 : List mm_Me := [
  (RX6, yX6_simple, cX6_simple, 3, none, [], 2, 1245),
  (RX6, yX6_simpleRest, cX6_simpleRest, 9, none, [], 2, 1249),
  (RX6, yX6_assign, cX6_assign, 4, none, [], 2, 1253),
  (RX6, yX6_ranges, cX6_ranges, 4, some .boolean, [], 2, 1257),
  (RX6, yX6_right, cX6_right, 5, none, [], 3, 1261),
  (RX6, yX6_define, cX6_define, 6, none, [], 3, 1265),
  (RX6, yX6_listRest, cX6_listRest, 6, none, [], 2, 1269),
  (RX6, yX6_ifRest, cX6_ifRest, 2, none, [], 1, 1273),
  (RX6, yX6_unwrap, cX6_unwrap, 6, none, [], 1, 1277),
  (RX6, yX6_ifElse, cX6_ifElse, 2, none, [], 1, 1281),
  (RX6, yX6_forRest, cX6_forRest, 2, none, [], 1, 1285),
  (RX6, yX6_forPost, cX6_forPost, 4, none, [], 2, 1289),
  (RX6, yX6_switchRest, cX6_switchRest, 3, none, [], 1, 1293),
  (RX6, yX6_clauses, cX6_clauses, 6, none, [], 2, 1297),
  (RX6, yX6_clause, cX6_clause, 3, none, [], 1, 1301),
  (RX6, yX6_types, cX6_types, 2, none, [], 1, 1305),
  (RX6, yX6_tops, cX6_tops, 3, none, [], 1, 1309),
  (RX6, yX6_function, cX6_function, 5, none, [], 1, 1313),
  (RX6, yX6_guarded, cX6_guarded, 6, none, [], 2, 1317),
  (RX6, yX6_numberAll, cX6_numberAll, 3, none, [], 1, 1321),
  (RX6, yX6_nodes, cX6_nodes, 1, some .int, [], 0, 1325),
  (RX6, yX6_node, cX6_node, 6, some .int, [], 2, 1329),
  (RX6, yX6_fail, cX6_fail, 1, some .int, [], 0, 1333),
  (RX6, yX6_child_, cX6_child_, 5, some .int, [], 2, 1337)]
def mm_MT : List mm_Me := mm_MT0 ++ (mm_MT1 ++ (mm_MT2 ++ (mm_MT3 ++ (mm_MT4 ++ (mm_MT5)))))
/-- fields: own class, entry, by a nest mate, class, field, place of the word -/
def mm_FT : List (String × Nat × Bool × Nat × Nat × Nat) := [(RX2, 9, false, 1, 0, 214), (RX2, 13, false, 1, 1, 215), (RX5, 40, true, 1, 1, 216), (RX3, 11, false, 2, 0, 229), (RX3, 15, false, 2, 1, 230), (RX3, 18, false, 2, 2, 231), (RX3, 21, false, 2, 3, 232), (RX3, 24, false, 2, 4, 233), (RX3, 27, false, 2, 5, 234), (RX3, 30, false, 2, 6, 235), (RX3, 34, false, 2, 7, 236), (RX5, 63, true, 2, 7, 237), (RX5, 10, false, 3, 0, 256), (RX5, 19, false, 3, 1, 257), (RX1, 11, false, 0, 0, 311), (RX1, 17, false, 0, 1, 312), (RX1, 21, false, 0, 2, 313), (RX1, 289, false, 0, 3, 314), (RX1, 43, false, 0, 4, 315), (RX5, 57, true, 0, 4, 316), (RX1, 33, false, 0, 5, 317), (RX1, 57, false, 0, 6, 318), (RX1, 119, false, 0, 7, 319), (RX1, 25, false, 0, 8, 320), (RX6, 64, false, 4, 0, 864), (RX6, 72, false, 4, 1, 865), (RX6, 7, false, 4, 2, 866), (RX6, 93, false, 4, 3, 867), (RX6, 366, false, 4, 4, 868), (RX6, 14, false, 4, 5, 869), (RX6, 18, false, 4, 6, 870), (RX6, 21, false, 4, 7, 871), (RX6, 24, false, 4, 8, 872), (RX6, 27, false, 4, 9, 873), (RX6, 30, false, 4, 10, 874), (RX6, 33, false, 4, 11, 875), (RX6, 36, false, 4, 12, 876), (RX6, 39, false, 4, 13, 877), (RX6, 96, false, 4, 14, 878), (RX6, 42, false, 4, 15, 879), (RX6, 45, false, 4, 16, 880), (RX6, 48, false, 4, 17, 881), (RX6, 77, false, 4, 18, 882), (RX6, 90, false, 4, 19, 883), (RX6, 80, false, 4, 20, 884), (RX6, 156, false, 4, 21, 885), (RX6, 51, false, 4, 22, 886), (RX6, 55, false, 4, 23, 887), (RX6, 58, false, 4, 24, 888), (RX6, 61, false, 4, 25, 889)]
/-- calls: own class, entry, kind, method, place of the word -/
def mm_CT0 : List (String × Nat × Nat × Nat × Nat) := [(RL, 18, 4, 0, 202), (RX5, 1, 10, 0, 205), (RX5, 9, 5, 1, 210), (RX2, 1, 10, 0, 213), (RX5, 18, 5, 2, 225), (RX3, 3, 10, 0, 228), (RL, 22, 0, 3, 263), (RX5, 23, 3, 4, 267), (RX5, 29, 1, 5, 270), (RX5, 32, 1, 6, 274), (RL, 29, 0, 7, 278), (RX5, 36, 2, 8, 282), (RL, 34, 8, 9, 285), (RX5, 44, 1, 10, 290), (RX3, 37, 11, 0, 294), (RX3, 43, 0, 11, 297), (RX5, 49, 5, 12, 303), (RX1, 5, 10, 0, 306), (RX1, 29, 1, 13, 307), (RX5, 52, 1, 14, 340), (RX1, 63, 0, 15, 344), (RX1, 46, 0, 16, 348), (RX1, 54, 0, 17, 352), (RX1, 50, 0, 18, 422), (RX1, 79, 0, 19, 426), (RX1, 69, 1, 20, 430), (RX3, 47, 0, 21, 434), (RX1, 82, 0, 22, 438), (RX1, 91, 0, 23, 442), (RX1, 100, 0, 24, 446), (RX1, 60, 0, 25, 450), (RX1, 103, 0, 26, 454), (RX1, 138, 3, 27, 458), (RX1, 157, 0, 28, 461), (RX1, 181, 0, 29, 465), (RX1, 292, 0, 30, 469), (RX1, 304, 0, 31, 473), (RX1, 147, 0, 32, 477), (RX1, 307, 3, 33, 481), (RX1, 274, 0, 34, 484), (RX1, 310, 0, 35, 488), (RX1, 154, 0, 36, 492), (RX1, 329, 0, 37, 496), (RX1, 341, 0, 38, 500), (RX1, 123, 0, 39, 504), (RX1, 106, 0, 40, 508), (RX1, 66, 0, 41, 512), (RX1, 332, 0, 42, 516), (RX1, 335, 0, 43, 520), (RX1, 94, 0, 44, 524), (RX1, 144, 0, 45, 528), (RX1, 150, 0, 46, 532), (RX1, 97, 0, 47, 536), (RX1, 185, 0, 48, 540), (RX1, 188, 0, 49, 544), (RX1, 88, 0, 50, 548), (RX1, 110, 0, 51, 552), (RX1, 113, 0, 52, 556), (RX1, 126, 0, 53, 560), (RX1, 135, 0, 54, 564)]
def mm_CT1 : List (String × Nat × Nat × Nat × Nat) := [(RX1, 141, 0, 55, 568), (RX1, 246, 0, 56, 572), (RX1, 129, 0, 57, 576), (RX1, 132, 0, 58, 580), (RX1, 116, 2, 59, 584), (RX1, 192, 0, 60, 587), (RX1, 253, 0, 61, 591), (RX1, 228, 0, 62, 595), (RX1, 231, 0, 63, 599), (RX1, 234, 0, 64, 603), (RX1, 237, 0, 65, 607), (RX1, 240, 0, 66, 611), (RX1, 243, 0, 67, 615), (RX1, 250, 3, 68, 619), (RX1, 256, 0, 69, 622), (RX1, 195, 0, 70, 626), (RX1, 268, 0, 71, 630), (RX1, 271, 0, 72, 634), (RX1, 277, 0, 73, 638), (RX1, 283, 0, 74, 642), (RX1, 225, 0, 75, 646), (RX1, 286, 0, 76, 650), (RX1, 280, 0, 77, 654), (RX1, 198, 0, 78, 658), (RX1, 201, 0, 79, 662), (RX1, 259, 0, 80, 666), (RX1, 262, 0, 81, 670), (RX1, 265, 0, 82, 674), (RX1, 204, 0, 83, 678), (RX1, 210, 0, 84, 682), (RX1, 213, 0, 85, 686), (RX1, 219, 3, 86, 690), (RX0, 9, 2, 27, 693), (RX0, 13, 2, 33, 694), (RX1, 216, 0, 87, 695), (RX1, 207, 0, 88, 699), (RX1, 222, 0, 89, 703), (RX1, 338, 0, 90, 707), (RX1, 313, 0, 91, 711), (RX1, 317, 0, 92, 715), (RX1, 320, 0, 93, 719), (RX1, 326, 0, 94, 723), (RX1, 323, 0, 95, 727), (RX1, 295, 3, 96, 731), (RX1, 298, 0, 97, 734), (RX1, 301, 0, 98, 738), (RX1, 160, 0, 99, 742), (RX1, 163, 0, 100, 746), (RX1, 166, 0, 101, 750), (RX1, 169, 0, 102, 754), (RX1, 172, 0, 103, 758), (RX1, 175, 0, 104, 762), (RX1, 178, 0, 105, 766), (RX1, 85, 3, 106, 770), (RX5, 60, 1, 107, 773), (RX3, 51, 0, 108, 777), (RX3, 54, 0, 109, 781), (RX3, 57, 0, 110, 785), (RX3, 63, 0, 111, 789), (RX3, 60, 0, 112, 793)]
def mm_CT2 : List (String × Nat × Nat × Nat × Nat) := [(RL, 39, 0, 113, 797), (RL, 43, 0, 114, 801), (RL, 47, 9, 115, 805), (RL, 7, 0, 116, 809), (RX5, 66, 1, 117, 813), (RX5, 76, 1, 118, 833), (RX5, 80, 1, 119, 837), (RX5, 83, 1, 109, 841), (RX5, 86, 1, 112, 842), (RX5, 89, 1, 120, 843), (RX3, 67, 0, 117, 847), (RL, 56, 9, 121, 849), (RL, 15, 0, 122, 852), (RL, 21, 4, 123, 859), (RX6, 1, 10, 0, 862), (RL, 53, 0, 124, 944), (RL, 26, 0, 125, 948), (RX6, 68, 2, 126, 952), (RL, 33, 0, 127, 955), (RL, 42, 0, 128, 960), (RL, 38, 0, 129, 964), (RX6, 99, 0, 130, 968), (RX6, 141, 0, 131, 972), (RX6, 83, 0, 132, 976), (RX6, 87, 0, 133, 980), (RX6, 130, 0, 134, 984), (RX6, 106, 0, 135, 988), (RX6, 369, 0, 136, 992), (RX6, 220, 0, 137, 996), (RX6, 110, 2, 138, 1000), (RX6, 114, 0, 139, 1003), (RX6, 117, 0, 140, 1007), (RX6, 223, 0, 141, 1011), (RX6, 103, 2, 142, 1015), (RX6, 120, 0, 143, 1018), (RX6, 123, 0, 144, 1022), (RX6, 126, 0, 145, 1026), (RX6, 226, 0, 146, 1030), (RX6, 144, 0, 147, 1034), (RX6, 133, 2, 148, 1038), (RX6, 147, 0, 149, 1041), (RX6, 229, 0, 150, 1045), (RX6, 241, 0, 151, 1049), (RX6, 244, 0, 152, 1053), (RX6, 247, 0, 153, 1057), (RX6, 250, 0, 154, 1061), (RX6, 253, 0, 155, 1065), (RX6, 256, 0, 156, 1069), (RX6, 137, 0, 157, 1073), (RX6, 259, 0, 158, 1077), (RX6, 262, 0, 159, 1081), (RX6, 265, 0, 160, 1085), (RX6, 232, 0, 161, 1089), (RX6, 267, 0, 162, 1093), (RX6, 150, 2, 163, 1097), (RX6, 153, 0, 164, 1100), (RX6, 270, 0, 165, 1104), (RX6, 180, 0, 166, 1108), (RX6, 273, 0, 167, 1112), (RX6, 276, 0, 168, 1116)]
def mm_CT3 : List (String × Nat × Nat × Nat × Nat) := [(RX6, 279, 0, 169, 1120), (RX6, 282, 0, 170, 1124), (RX6, 285, 0, 171, 1128), (RX6, 288, 0, 172, 1132), (RX6, 291, 0, 173, 1136), (RX6, 294, 0, 174, 1140), (RX6, 235, 0, 175, 1144), (RX6, 297, 0, 176, 1148), (RX6, 300, 0, 177, 1152), (RX6, 303, 0, 178, 1156), (RX6, 306, 0, 179, 1160), (RX6, 309, 0, 180, 1164), (RX6, 312, 0, 181, 1168), (RX6, 315, 0, 182, 1172), (RX6, 162, 0, 183, 1176), (RX6, 159, 0, 184, 1180), (RX6, 318, 0, 185, 1184), (RX6, 321, 0, 186, 1188), (RX6, 174, 2, 187, 1192), (RX6, 171, 2, 188, 1195), (RX6, 177, 0, 189, 1198), (RX6, 165, 0, 190, 1202), (RX6, 183, 0, 191, 1206), (RX6, 186, 0, 192, 1210), (RX6, 214, 0, 193, 1214), (RX6, 189, 0, 194, 1218), (RX6, 192, 0, 195, 1222), (RX6, 217, 0, 196, 1226), (RX6, 195, 0, 197, 1230), (RX6, 324, 0, 198, 1234), (RX6, 238, 0, 199, 1238), (RX6, 327, 0, 200, 1242), (RX6, 330, 0, 201, 1246), (RX6, 198, 0, 202, 1250), (RX6, 205, 0, 203, 1254), (RX6, 208, 0, 204, 1258), (RX6, 201, 0, 205, 1262), (RX6, 333, 0, 206, 1266), (RX6, 336, 0, 207, 1270), (RX6, 211, 0, 208, 1274), (RX6, 339, 0, 209, 1278), (RX6, 342, 0, 210, 1282), (RX6, 345, 0, 211, 1286), (RX6, 348, 0, 212, 1290), (RX6, 351, 0, 213, 1294), (RX6, 354, 0, 214, 1298), (RX6, 357, 0, 215, 1302), (RX6, 360, 0, 216, 1306), (RX6, 168, 0, 217, 1310), (RX6, 363, 0, 218, 1314), (RX6, 372, 0, 219, 1318), (RL, 46, 0, 220, 1322), (RL, 52, 0, 221, 1326), (RX6, 375, 0, 222, 1330), (RL, 58, 0, 223, 1334)]
def mm_CT : List (String × Nat × Nat × Nat × Nat) := mm_CT0 ++ (mm_CT1 ++ (mm_CT2 ++ (mm_CT3)))
/-- objects made: own class, entry, class, place -/
def mm_NT : List (String × Nat × Nat × Nat) := [(RL, 8, 3, 200), (RX5, 7, 1, 208), (RX5, 16, 2, 223), (RX5, 47, 0, 301), (RL, 19, 4, 857)]
/-- classes of exceptions: own class, entry, name, place -/
def mm_XT : List (String × Nat × String × Nat) := [(RX5, 55, "java/lang/IllegalStateException", 289), (RX1, 36, "java/lang/IllegalStateException", 356), (RL, 13, "java/util/NoSuchElementException", 808), (RX5, 69, "java/util/NoSuchElementException", 817)]
def mm_IT : List (String × Nat × Int32 × Nat) := [(RX6, 13, 65536, 863)]
def mm_JT : List (String × Nat × Int64 × Nat) := [(RX6, 75, 255, 959), (RL, 27, 4294967295, 1338)]
abbrev mm_cl : List vw_C := [(RX1, TX1, 9), (RX2, TX2, 2), (RX3, TX3, 8), (RX5, TX5, 2), (RX6, TX6, 26)]
end
section
/-! A small machine over lists: the same instructions, with cells by their places, values that are Values (a cell: .ref of its place; the script: .retAddr 0). -/
abbrev mm_E : Type := (Nat × vp_A) ⊕ (Nat × List Value)
abbrev mm_H : Type := List mm_E
abbrev mm_L : Type := List (Nat × Value)
/-- the end of a method: returned or threw; the cells; cells and slots made -/
abbrev mm_R : Type := (Option Value ⊕ String) × mm_H × Nat × Nat
def mm_law : mm_Me := (RL, x, code, 7, ret, [], 1, 0)
def mm_all : List mm_Me := mm_MT ++ [mm_law]
def mm_F (own : String) (ix : Nat) : Option (String × Nat × Bool × Nat × Nat × Nat) := mm_FT.find? (fun e => e.1 == own && e.2.1 == ix)
def mm_C (own : String) (ix : Nat) : Option (String × Nat × Nat × Nat × Nat) := mm_CT.find? (fun e => e.1 == own && e.2.1 == ix)
def mm_N (own : String) (ix : Nat) : Option (String × Nat × Nat × Nat) := mm_NT.find? (fun e => e.1 == own && e.2.1 == ix)
def mm_X (own : String) (ix : Nat) : Option (String × Nat × String × Nat) := mm_XT.find? (fun e => e.1 == own && e.2.1 == ix)
def mm_I (own : String) (ix : Nat) : Option (String × Nat × Int32 × Nat) := mm_IT.find? (fun e => e.1 == own && e.2.1 == ix)
def mm_J (own : String) (ix : Nat) : Option (String × Nat × Int64 × Nat) := mm_JT.find? (fun e => e.1 == own && e.2.1 == ix)
def mm_lk (ls : mm_L) (i : Nat) : Option Value := (ls.find? (fun q => q.1 == i)).map (·.2)
def mm_s1 (ls : mm_L) (i : Nat) (v : Value) : mm_L := (i, v) :: ls.filter (fun q => !(q.1 == i) && !(q.1 + 1 == i && q.2.category == 2))
def mm_un (ls : mm_L) (i : Nat) : mm_L := ls.filter (fun q => !(q.1 == i) && !(q.1 + 1 == i && q.2.category == 2))
def mm_isA (v : Value) : Bool := match v with
  | .ref _ => true
  | .retAddr _ => true
  | _ => false
/-- types of arrays: 0 int, 1 byte, 2 boolean, 3 long -/
def mm_tag (t : ArrayType) : Option Nat := match t with
  | .int => some 0
  | .byte => some 1
  | .boolean => some 2
  | .long => some 3
  | _ => none
def mm_ty (t : Nat) : FieldType := match t with
  | 0 => .int
  | 1 => .byte
  | 2 => .boolean
  | _ => .long
def mm_zero (t n : Nat) : vp_A := if t = 3 then (n, .inr (.inl (fun _ => 0))) else (n, .inl (fun _ => 0))
def mm_tyT (ci : Nat) : Nat → FieldType := match ci with
  | 0 => tyX1
  | 1 => tyX2
  | 2 => tyX3
  | 3 => tyX5
  | _ => tyX6
def mm_fresh (ci N : Nat) : List Value := (List.range N).map (fun k => defaultValue (mm_tyT ci k))
/-- what an instruction does: on in this method; an end; a throw; a call (method, arguments, what stays on the stack, whether it may throw) -/
abbrev mm_A : Type := (Nat × mm_L × List Value × mm_H × Nat × Nat) ⊕ ((Option Value) ⊕ (String ⊕ (Nat × List Value × List Value × Bool)))
def mm_jump (pc : Nat) (off : Int) : Option Nat := if 0 ≤ (pc : Int) + off then some ((pc : Int) + off).toNat else none
def mm_cond (cd : ClassFile.Cond) (x y : Int32) : Bool := match cd with
  | .eq => decide (x = y)
  | .ne => decide (¬ x = y)
  | .lt => decide (x < y)
  | .ge => decide (y ≤ x)
  | .gt => decide (y < x)
  | .le => decide (x ≤ y)
def mm_go (pc : Nat) (ls : mm_L) (st : List Value) (h : mm_H) (c z : Nat) : Option mm_A := some (.inl (pc, ls, st, h, c, z))
def mm_br (b : Bool) (off : Int) (pc : Nat) (ls : mm_L) (st : List Value) (h : mm_H) (c z : Nat) : Option mm_A :=
  match mm_jump pc off with
  | none => none
  | some t => if b = true then mm_go t ls st h c z else mm_go (pc + 3) ls st h c z
def mm_load (i len pc : Nat) (k : Nat) (ls : mm_L) (st : List Value) (h : mm_H) (c z : Nat) : Option mm_A :=
  match i, mm_lk ls k with
  | 0, some (.int v) => mm_go (pc + len) ls (.int v :: st) h c z
  | 1, some (.long v) => mm_go (pc + len) ls (.long v :: st) h c z
  | 2, some (.ref a) => mm_go (pc + len) ls (.ref a :: st) h c z
  | 2, some (.retAddr a) => mm_go (pc + len) ls (.retAddr a :: st) h c z
  | _, _ => none
def mm_store (i len pc nL : Nat) (k : Nat) (ls : mm_L) (st : List Value) (h : mm_H) (c z : Nat) : Option mm_A :=
  if k < nL then
    match i, st with
    | 0, .int v :: r => mm_go (pc + len) (mm_s1 ls k (.int v)) r h c z
    | 2, .ref a :: r => mm_go (pc + len) (mm_s1 ls k (.ref a)) r h c z
    | 2, .retAddr a :: r => mm_go (pc + len) (mm_s1 ls k (.retAddr a)) r h c z
    | _, _ => none
  else none
/-- two ints on top -/
def mm_i2 (f : Int32 → Int32 → Int32) (pc : Nat) (ls : mm_L) (st : List Value) (h : mm_H) (c z : Nat) : Option mm_A := match st with
  | .int y :: .int w :: r => mm_go (pc + 1) ls (.int (f w y) :: r) h c z
  | _ => none
def mm_l2 (f : Int64 → Int64 → Int64) (pc : Nat) (ls : mm_L) (st : List Value) (h : mm_H) (c z : Nat) : Option mm_A := match st with
  | .long y :: .long w :: r => mm_go (pc + 1) ls (.long (f w y) :: r) h c z
  | _ => none
def mm_ls (f : Int64 → Int32 → Int64) (pc : Nat) (ls : mm_L) (st : List Value) (h : mm_H) (c z : Nat) : Option mm_A := match st with
  | .int y :: .long w :: r => mm_go (pc + 1) ls (.long (f w y) :: r) h c z
  | _ => none
def mm_getf (own : String) (ix pc : Nat) (ls : mm_L) (st : List Value) (h : mm_H) (c z : Nat) : Option mm_A := match st, mm_F own ix with
  | .ref a :: r, some (_, _, _, ci, k, _) => (match h[a]? with
    | some (.inr (cj, fs)) => if cj = ci then (match fs[k]? with
      | some v => mm_go (pc + 3) ls (v :: r) h c z
      | none => none) else none
    | _ => none)
  | _, _ => none
def mm_final (ci k : Nat) : Bool := match mm_cl[ci]? with
  | some (_, T, _) => (T k).2.2.2
  | none => false
/-- a value that a field of that type keeps as it is -/
def mm_fits (ci k : Nat) (v : Value) : Bool := match v with
  | .retAddr _ => false
  | w => decide (narrow (mm_tyT ci k) w = w) && fits (mm_tyT ci k) w
def mm_putf (own mname : String) (ix pc : Nat) (ls : mm_L) (st : List Value) (h : mm_H) (c z : Nat) : Option mm_A := match st, mm_F own ix with
  | v :: .ref a :: r, some (_, _, ns, ci, k, _) => (match h[a]? with
    | some (.inr (cj, fs)) => if cj = ci ∧ k < fs.length ∧ mm_fits ci k v = true ∧ (mm_final ci k = false ∨ (mm_final ci k = true ∧ ns = false ∧ mname = "<init>" ∧ (mm_cl[ci]?).map (fun q => q.1) = some own))
      then mm_go (pc + 3) ls r (h.set a (.inr (ci, fs.set k v))) c z else none
    | _ => none)
  | _, _ => none
def mm_ald (t0 : Nat → Bool) (wide : Bool) (xs : Nat → Int32) (L pc : Nat) (ls : mm_L) (st : List Value) (h : mm_H) (c z : Nat) : Option mm_A := match st with
  | .int i :: .ref a :: r => (match h[a]? with
    | some (.inl (t, n, .inl f)) => if t0 t = true ∧ wide = false ∧ ¬ (i < 0 ∨ n ≤ i.toNatClampNeg) then mm_go (pc + 1) ls (.int (f i.toNatClampNeg) :: r) h c z else none
    | some (.inl (t, n, .inr (.inl f))) => if t0 t = true ∧ wide = true ∧ ¬ (i < 0 ∨ n ≤ i.toNatClampNeg) then mm_go (pc + 1) ls (.long (f i.toNatClampNeg) :: r) h c z else none
    | _ => none)
  | .int i :: .retAddr _ :: r => if t0 0 = true ∧ wide = false ∧ ¬ (i < 0 ∨ L ≤ i.toNatClampNeg) then mm_go (pc + 1) ls (.int (xs i.toNatClampNeg) :: r) h c z else none
  | _ => none
def mm_ast (t0 : Nat → Bool) (pc : Nat) (ls : mm_L) (st : List Value) (h : mm_H) (c z : Nat) : Option mm_A := match st with
  | .int v :: .int i :: .ref a :: r => (match h[a]? with
    | some (.inl (t, n, .inl f)) => if t0 t = true ∧ t < 3 ∧ ¬ (i < 0 ∨ n ≤ i.toNatClampNeg) then mm_go (pc + 1) ls r (h.set a (.inl (t, n, .inl (upd f i.toNatClampNeg (vp_nar (mm_ty t) v))))) c z else none
    | _ => none)
  | .long v :: .int i :: .ref a :: r => (match h[a]? with
    | some (.inl (t, n, .inr (.inl f))) => if t0 t = true ∧ t = 3 ∧ ¬ (i < 0 ∨ n ≤ i.toNatClampNeg) then mm_go (pc + 1) ls r (h.set a (.inl (t, n, .inr (.inl (vp_updL f i.toNatClampNeg v))))) c z else none
    | _ => none)
  | _ => none
def mm_alen (L pc : Nat) (ls : mm_L) (st : List Value) (h : mm_H) (c z : Nat) : Option mm_A := match st with
  | .ref a :: r => (match h[a]? with
    | some (.inl (t, n, _)) => if t < 4 then mm_go (pc + 1) ls (.int (Int32.ofNat n) :: r) h c z else none
    | _ => none)
  | .retAddr _ :: r => mm_go (pc + 1) ls (.int (Int32.ofNat L) :: r) h c z
  | _ => none
def mm_newa (t : ArrayType) (pc : Nat) (ls : mm_L) (st : List Value) (h : mm_H) (c z : Nat) : Option mm_A := match st, mm_tag t with
  | .int n :: r, some g => if n < 0 ∨ 1000000 < n.toNatClampNeg then none else mm_go (pc + 2) ls (.ref h.length :: r) (h ++ [.inl (g, mm_zero g n.toNatClampNeg)]) (c + 1) (z + n.toNatClampNeg)
  | _, _ => none
/-- 'new': an object of ours; or the first of the five instructions of 'throw new E(text)' -/
def mm_new (me : mm_Me) (ix pc : Nat) (ls : mm_L) (st : List Value) (h : mm_H) (c z : Nat) : Option mm_A := match mm_N me.1 ix with
  | some (_, _, ci, _) => (match mm_cl[ci]? with
    | some (_, _, N) => mm_go (pc + 3) ls (.ref h.length :: st) (h ++ [.inr (ci, mm_fresh ci N)]) (c + 1) (z + N)
    | none => none)
  | none => (match mm_X me.1 ix, decode me.2.2.1 (pc + 3), decode me.2.2.1 (pc + 4), decode me.2.2.1 (pc + 6), decode me.2.2.1 (pc + 9) with
    | some (_, _, E, _), .ok (.dup, 1), .ok (.ldc si, 2), .ok (.invokespecial ic, 3), .ok (.athrow, 1) =>
      if me.2.2.2.2.2.1 = [] ∧ (st.map fun v => v.category).sum ≤ 8 ∧ ((me.1, ix, E, si, ic) ∈ [(RX1, 36, "java/lang/IllegalStateException", 38, 40), (RX5, 69, "java/util/NoSuchElementException", 71, 73), (RX5, 69, "java/util/NoSuchElementException", 92, 73), (RX5, 69, "java/util/NoSuchElementException", 94, 73)]) then some (.inr (.inr (.inl E))) else none
    | _, _, _, _, _ => none)
/-- the arguments off the stack: n of them, the last on top -/
def mm_pop (n : Nat) (st : List Value) : Option (List Value × List Value) := if n ≤ st.length then some ((st.take n).reverse, st.drop n) else none
/-- a call: op 0 virtual, 1 static, 2 special -/
def mm_call (me : mm_Me) (op ix pc : Nat) (ls : mm_L) (st : List Value) (h : mm_H) (c z : Nat) : Option mm_A := match mm_C me.1 ix with
  | some (_, _, kind, mj, _) =>
    if kind = 10 ∧ op = 2 then (match st with
      | .ref _ :: r => if (r.map fun v => v.category).sum ≤ 8 then mm_go (pc + 3) ls r h c z else none
      | _ => none)
    else if kind = 11 ∧ op = 1 then (match st with
      | .int y :: .int w :: r => if (r.map fun v => v.category).sum ≤ 8 then mm_go (pc + 3) ls (.int (if w < y then y else w) :: r) h c z else none
      | _ => none)
    else (match mm_all[mj]? with
      | none => none
      | some mf => (match mm_pop mf.2.2.2.2.2.2.1 st with
        | none => none
        | some (as, r) =>
          if op = 1 then (if (kind = 2 ∨ kind = 3 ∨ kind = 9) ∧ (r.map fun v => v.category).sum ≤ 8 ∧ (lg_sl as).length ≤ mf.2.2.2.1 then some (.inr (.inr (.inr (mj, as, r, false)))) else none)
          else (match r with
            | .ref a :: r' => (match h[a]? with
              | some (.inr (cj, _)) => if (r'.map fun v => v.category).sum ≤ 8 ∧ (mm_cl[cj]?).map (fun q => q.1) = some mf.1 ∧ ((op = 0 ∧ (kind = 0 ∨ kind = 1 ∨ kind = 8)) ∨ (op = 2 ∧ (kind = 4 ∨ kind = 5))) ∧ (lg_sl (.ref a :: as)).length ≤ mf.2.2.2.1 then some (.inr (.inr (.inr (mj, .ref a :: as, r', decide (kind < 2))))) else none
              | _ => none)
            | _ => none)))
  | none => none
def mm_retv (rt : Option FieldType) (st : List Value) : Option mm_A := match rt, st with
  | some ty, [.int v] => if (ty = .int ∨ ty = .boolean) ∧ narrow ty (.int v) = .int v then some (.inr (.inl (some (.int v)))) else none
  | _, _ => none
def mm_ret0 (rt : Option FieldType) (st : List Value) : Option mm_A := match rt, st with
  | none, [] => some (.inr (.inl none))
  | _, _ => none
def mm_table (dflt lo hi : Int) (offs : Array Int) (v : Int32) : Int := if v.toInt < lo ∨ hi < v.toInt then dflt else (offs[(v.toInt - lo).toNat]?).getD dflt
/-- what the instruction i, of length len, at pc does -/
def mm_act (me : mm_Me) (xs : Nat → Int32) (L : Nat) (i : Instr) (len pc : Nat) (ls : mm_L) (st : List Value) (h : mm_H) (c z : Nat) : Option mm_A := match i with
  | .aload_n k => if len = 1 then mm_load 2 1 pc k ls st h c z else none
  | .iload_n k => if len = 1 then mm_load 0 1 pc k ls st h c z else none
  | .lload_n k => if len = 1 then mm_load 1 1 pc k ls st h c z else none
  | .aload k => if len = 2 then mm_load 2 2 pc k ls st h c z else none
  | .iload k => if len = 2 then mm_load 0 2 pc k ls st h c z else none
  | .astore_n k => if len = 1 then mm_store 2 1 pc me.2.2.2.1 k ls st h c z else none
  | .istore_n k => if len = 1 then mm_store 0 1 pc me.2.2.2.1 k ls st h c z else none
  | .astore k => if len = 2 then mm_store 2 2 pc me.2.2.2.1 k ls st h c z else none
  | .istore k => if len = 2 then mm_store 0 2 pc me.2.2.2.1 k ls st h c z else none
  | .iinc k n => if len = 3 ∧ k < me.2.2.2.1 then (match mm_lk ls k with
    | some (.int v) => mm_go (pc + 3) (mm_s1 ls k (.int (v + Int32.ofInt n))) st h c z
    | _ => none) else none
  | .iconst n => if len = 1 then mm_go (pc + 1) ls (.int (Int32.ofInt n) :: st) h c z else none
  | .bipush n => if len = 2 then mm_go (pc + 2) ls (.int (Int8.ofInt n).toInt32 :: st) h c z else none
  | .sipush n => if len = 3 then mm_go (pc + 3) ls (.int (Int16.ofInt n).toInt32 :: st) h c z else none
  | .ldc ix => if len = 2 then (match mm_I me.1 ix with
    | some (_, _, v, _) => mm_go (pc + 2) ls (.int v :: st) h c z
    | none => none) else none
  | .ldc2_w ix => if len = 3 then (match mm_J me.1 ix with
    | some (_, _, v, _) => mm_go (pc + 3) ls (.long v :: st) h c z
    | none => none) else none
  | .iadd => if len = 1 then mm_i2 (fun w y => w + y) pc ls st h c z else none
  | .isub => if len = 1 then mm_i2 (fun w y => w - y) pc ls st h c z else none
  | .imul => if len = 1 then mm_i2 (fun w y => w * y) pc ls st h c z else none
  | .iand => if len = 1 then mm_i2 (fun w y => w &&& y) pc ls st h c z else none
  | .ior => if len = 1 then mm_i2 (fun w y => w ||| y) pc ls st h c z else none
  | .ishl => if len = 1 then mm_i2 (fun w y => w <<< (y &&& 31)) pc ls st h c z else none
  | .ishr => if len = 1 then mm_i2 (fun w y => w >>> (y &&& 31)) pc ls st h c z else none
  | .land => if len = 1 then mm_l2 (fun w y => w &&& y) pc ls st h c z else none
  | .lor => if len = 1 then mm_l2 (fun w y => w ||| y) pc ls st h c z else none
  | .lshl => if len = 1 then mm_ls (fun w y => w <<< (y.toInt64 &&& 63)) pc ls st h c z else none
  | .lshr => if len = 1 then mm_ls (fun w y => w >>> (y.toInt64 &&& 63)) pc ls st h c z else none
  | .lushr => if len = 1 then mm_ls (fun w y => (w.toUInt64 >>> (y.toInt64.toUInt64 &&& Int64.toUInt64 63)).toInt64) pc ls st h c z else none
  | .lcmp => if len = 1 then (match st with
    | .long y :: .long w :: r => mm_go (pc + 1) ls (.int (lg_cmp w y) :: r) h c z
    | _ => none) else none
  | .i2l => if len = 1 then (match st with
    | .int w :: r => mm_go (pc + 1) ls (.long w.toInt64 :: r) h c z
    | _ => none) else none
  | .i2b => if len = 1 then (match st with
    | .int w :: r => mm_go (pc + 1) ls (.int w.toInt8.toInt32 :: r) h c z
    | _ => none) else none
  | .l2i => if len = 1 then (match st with
    | .long w :: r => mm_go (pc + 1) ls (.int w.toInt32 :: r) h c z
    | _ => none) else none
  | .dup => if len = 1 then (match st with
    | v :: r => if v.category = 1 then mm_go (pc + 1) ls (v :: v :: r) h c z else none
    | _ => none) else none
  | .dup2 => if len = 1 then (match st with
    | v :: w :: r => if v.category = 1 ∧ w.category = 1 then mm_go (pc + 1) ls (v :: w :: v :: w :: r) h c z else none
    | _ => none) else none
  | .pop => if len = 1 then (match st with
    | v :: r => if v.category = 1 then mm_go (pc + 1) ls r h c z else none
    | _ => none) else none
  | .goto off => if len = 3 then (match mm_jump pc off with
    | some t => mm_go t ls st h c z
    | none => none) else none
  | .ifCond cd off => if len = 3 then (match st with
    | .int w :: r => mm_br (mm_cond cd w 0) off pc ls r h c z
    | _ => none) else none
  | .if_icmp cd off => if len = 3 then (match st with
    | .int y :: .int w :: r => mm_br (mm_cond cd w y) off pc ls r h c z
    | _ => none) else none
  | .tableswitch dflt lo hi offs => (match st with
    | .int w :: r => (match mm_jump pc (mm_table dflt lo hi offs w) with
      | some t => if (w.toInt < lo ∨ hi < w.toInt) ∨ (offs[(w.toInt - lo).toNat]?).isSome = true then mm_go t ls r h c z else none
      | none => none)
    | _ => none)
  | .lookupswitch dflt ps => (match st with
    | .int w :: r => if (ps.toList.zip (ps.toList.drop 1)).all (fun (a, next) => a.1 < next.1) = true then (match mm_jump pc (Op.lookupswitch.offset ps.toList dflt w.toInt) with
      | some t => mm_go t ls r h c z
      | none => none) else none
    | _ => none)
  | .getfield ix => if len = 3 then mm_getf me.1 ix pc ls st h c z else none
  | .putfield ix => if len = 3 then mm_putf me.1 me.2.1.name ix pc ls st h c z else none
  | .iaload => if len = 1 then mm_ald (fun t => t == 0) false xs L pc ls st h c z else none
  | .baload => if len = 1 then mm_ald (fun t => t == 1 || t == 2) false xs L pc ls st h c z else none
  | .laload => if len = 1 then mm_ald (fun t => t == 3) true xs L pc ls st h c z else none
  | .iastore => if len = 1 then mm_ast (fun t => t == 0) pc ls st h c z else none
  | .bastore => if len = 1 then mm_ast (fun t => t == 1 || t == 2) pc ls st h c z else none
  | .lastore => if len = 1 then mm_ast (fun t => t == 3) pc ls st h c z else none
  | .arraylength => if len = 1 then mm_alen L pc ls st h c z else none
  | .newarray t => if len = 2 then mm_newa t pc ls st h c z else none
  | .new ix => if len = 3 then mm_new me ix pc ls st h c z else none
  | .invokevirtual ix => if len = 3 then mm_call me 0 ix pc ls st h c z else none
  | .invokestatic ix => if len = 3 then mm_call me 1 ix pc ls st h c z else none
  | .invokespecial ix => if len = 3 then mm_call me 2 ix pc ls st h c z else none
  | .return_ => if len = 1 then mm_ret0 me.2.2.2.2.1 st else none
  | .ireturn => if len = 1 then mm_retv me.2.2.2.2.1 st else none
  | _ => none
/-- the row of a method's table that takes an E thrown at pc: where it goes on (behind the instruction that keeps the exception), the place that it takes -/
def mm_hnd (me : mm_Me) (pc : Nat) (E : String) : Option (Nat × Nat) := match me.2.2.2.2.2.1 with
  | [(fr, to, tg, ci)] => if fr ≤ pc ∧ pc < to then (match mm_X me.1 ci with
      | some (_, _, E', _) => if E' = E then (match decode me.2.2.1 tg with
        | .ok (.astore_n k, 1) => if k.val < me.2.2.2.1 then some (tg + 1, k.val) else none
        | .ok (.astore k, 2) => if k < me.2.2.2.1 then some (tg + 2, k) else none
        | _ => none) else none
      | none => none) else none
  | _ => none
def mm_ev (xs : Nat → Int32) (L : Nat) : Nat → Nat → Nat → Nat → mm_L → List Value → mm_H → Nat → Nat → Option mm_R
  | 0, _, _, _, _, _, _, _, _ => none
  | n + 1, d, mi, pc, ls, st, h, c, z => match mm_all[mi]? with
    | none => none
    | some me => match decode me.2.2.1 pc with
      | .error _ => none
      | .ok (i, len) => match mm_act me xs L i len pc ls st h c z with
        | none => none
        | some (.inl (pc', ls', st', h', c', z')) => mm_ev xs L n d mi pc' ls' st' h' c' z'
        | some (.inr (.inl v)) => some (.inl v, h, c, z)
        | some (.inr (.inr (.inl E))) => if d < 8 then none else some (.inr E, h, c + 1, z + 6)
        | some (.inr (.inr (.inr (mj, as, r, thr)))) => if d < 2 then none else match mm_ev xs L n (d - 1) mj 0 (lv_args 0 as) [] h 0 0 with
          | none => none
          | some (.inl v, h', c', z') => mm_ev xs L n d mi (pc + 3) ls (v.toList ++ r) h' (c + c') (z + z')
          | some (.inr E, h', c', z') => if thr = false then none else match me.2.2.2.2.2.1 with
            | [] => some (.inr E, h', c + c', z + z')
            | _ => match mm_hnd me pc E with
              | none => none
              | some (pc', k) => mm_ev xs L n d mi pc' (mm_un ls k) [] h' (c + c') (z + z')
end
section
def mm_codeW (me : mm_Me) : Cond := if me.2.2.2.2.2.1 = [] then .code me.2.1 me.2.2.1 me.2.2.2.1 me.2.2.2.2.1 else .codeWith me.2.1 me.2.2.1 me.2.2.2.1 me.2.2.2.2.1 me.2.2.2.2.2.1
set_option maxRecDepth 100000 in
theorem mm_k0 : lw_tbl[204]? = some (.code yX5_init cX5_init 1 (none)) := rfl
set_option maxRecDepth 100000 in
theorem mm_k1 : lw_tbl[212]? = some (.code yX2_init cX2_init 1 (none)) := rfl
set_option maxRecDepth 100000 in
theorem mm_k2 : lw_tbl[227]? = some (.code yX3_init cX3_init 1 (none)) := rfl
set_option maxRecDepth 100000 in
theorem mm_k3 : lw_tbl[266]? = some (.code yX5_add cX5_add 2 (some .boolean)) := rfl
set_option maxRecDepth 100000 in
theorem mm_k4 : lw_tbl[269]? = some (.code yX0_exists cX0_exists 1 (some .boolean)) := rfl
set_option maxRecDepth 100000 in
theorem mm_k5 : lw_tbl[273]? = some (.code yX2_haveRoomFor cX2_haveRoomFor 2 (some .boolean)) := rfl
set_option maxRecDepth 100000 in
theorem mm_k6 : lw_tbl[277]? = some (.code yX2_append cX2_append 2 (none)) := rfl
set_option maxRecDepth 100000 in
theorem mm_k7 : lw_tbl[281]? = some (.code yX5_addAll cX5_addAll 6 (some .boolean)) := rfl
set_option maxRecDepth 100000 in
theorem mm_k8 : lw_tbl[284]? = some (.code yX5_byteOf cX5_byteOf 3 (some .int)) := rfl
set_option maxRecDepth 100000 in
theorem mm_k9 : lw_tbl[288]? = some (.codeWith yX5_build cX5_build 4 (some .int) [(32, 36, 39, 55)]) := rfl
set_option maxRecDepth 100000 in
theorem mm_k10 : lw_tbl[293]? = some (.code yX3_beginFor cX3_beginFor 3 (none)) := rfl
set_option maxRecDepth 100000 in
theorem mm_k11 : lw_tbl[300]? = some (.code yX3_makeRows cX3_makeRows 2 (none)) := rfl
set_option maxRecDepth 100000 in
theorem mm_k12 : lw_tbl[305]? = some (.code yX1_init cX1_init 3 (none)) := rfl
set_option maxRecDepth 100000 in
theorem mm_k13 : lw_tbl[310]? = some (.code yX2_kindAt cX2_kindAt 2 (some .int)) := rfl
set_option maxRecDepth 100000 in
theorem mm_k14 : lw_tbl[343]? = some (.code yX1_file cX1_file 3 (none)) := rfl
set_option maxRecDepth 100000 in
theorem mm_k15 : lw_tbl[347]? = some (.code yX1_expect cX1_expect 2 (some .int)) := rfl
set_option maxRecDepth 100000 in
theorem mm_k16 : lw_tbl[351]? = some (.code yX1_sees cX1_sees 2 (some .boolean)) := rfl
set_option maxRecDepth 100000 in
theorem mm_k17 : lw_tbl[355]? = some (.code yX1_refuse cX1_refuse 1 (none)) := rfl
set_option maxRecDepth 100000 in
theorem mm_k18 : lw_tbl[425]? = some (.code yX1_take cX1_take 2 (some .int)) := rfl
set_option maxRecDepth 100000 in
theorem mm_k19 : lw_tbl[429]? = some (.code yX1_name cX1_name 1 (none)) := rfl
set_option maxRecDepth 100000 in
theorem mm_k20 : lw_tbl[433]? = some (.code yX3_put cX3_put 7 (none)) := rfl
set_option maxRecDepth 100000 in
theorem mm_k21 : lw_tbl[437]? = some (.code yX3_spanPutAt cX3_spanPutAt 2 (some .int)) := rfl
set_option maxRecDepth 100000 in
theorem mm_k22 : lw_tbl[441]? = some (.code yX1_functionDecl cX1_functionDecl 3 (none)) := rfl
set_option maxRecDepth 100000 in
theorem mm_k23 : lw_tbl[445]? = some (.code yX1_receiver cX1_receiver 3 (none)) := rfl
set_option maxRecDepth 100000 in
theorem mm_k24 : lw_tbl[449]? = some (.code yX1_enter cX1_enter 2 (some .int)) := rfl
set_option maxRecDepth 100000 in
theorem mm_k25 : lw_tbl[453]? = some (.code yX1_openPart cX1_openPart 1 (none)) := rfl
set_option maxRecDepth 100000 in
theorem mm_k26 : lw_tbl[457]? = some (.code yX1_type cX1_type 1 (none)) := rfl
set_option maxRecDepth 100000 in
theorem mm_k27 : lw_tbl[460]? = some (.code yX0_beginsType cX0_beginsType 1 (some .boolean)) := rfl
set_option maxRecDepth 100000 in
theorem mm_k28 : lw_tbl[464]? = some (.code yX1_listType cX1_listType 4 (none)) := rfl
set_option maxRecDepth 100000 in
theorem mm_k29 : lw_tbl[468]? = some (.code yX1_expr cX1_expr 4 (none)) := rfl
set_option maxRecDepth 100000 in
theorem mm_k30 : lw_tbl[472]? = some (.code yX1_unary cX1_unary 5 (none)) := rfl
set_option maxRecDepth 100000 in
theorem mm_k31 : lw_tbl[476]? = some (.code yX1_seesUnarySign cX1_seesUnarySign 2 (some .boolean)) := rfl
set_option maxRecDepth 100000 in
theorem mm_k32 : lw_tbl[480]? = some (.code yX1_nextKind cX1_nextKind 1 (some .int)) := rfl
set_option maxRecDepth 100000 in
theorem mm_k33 : lw_tbl[483]? = some (.code yX0_isUnarySign cX0_isUnarySign 1 (some .boolean)) := rfl
set_option maxRecDepth 100000 in
theorem mm_k34 : lw_tbl[487]? = some (.code yX1_primary cX1_primary 4 (none)) := rfl
set_option maxRecDepth 100000 in
theorem mm_k35 : lw_tbl[491]? = some (.code yX1_operand cX1_operand 2 (none)) := rfl
set_option maxRecDepth 100000 in
theorem mm_k36 : lw_tbl[495]? = some (.code yX1_putLeaf cX1_putLeaf 2 (none)) := rfl
set_option maxRecDepth 100000 in
theorem mm_k37 : lw_tbl[499]? = some (.code yX1_elements cX1_elements 9 (none)) := rfl
set_option maxRecDepth 100000 in
theorem mm_k38 : lw_tbl[503]? = some (.code yX1_value cX1_value 1 (none)) := rfl
set_option maxRecDepth 100000 in
theorem mm_k39 : lw_tbl[507]? = some (.code yX1_accept cX1_accept 3 (some .boolean)) := rfl
set_option maxRecDepth 100000 in
theorem mm_k40 : lw_tbl[511]? = some (.code yX1_leave cX1_leave 2 (none)) := rfl
set_option maxRecDepth 100000 in
theorem mm_k41 : lw_tbl[515]? = some (.code yX1_closePart cX1_closePart 1 (none)) := rfl
set_option maxRecDepth 100000 in
theorem mm_k42 : lw_tbl[519]? = some (.code yX1_paren cX1_paren 3 (none)) := rfl
set_option maxRecDepth 100000 in
theorem mm_k43 : lw_tbl[523]? = some (.code yX1_functionOrType cX1_functionOrType 2 (none)) := rfl
set_option maxRecDepth 100000 in
theorem mm_k44 : lw_tbl[527]? = some (.code yX1_signature cX1_signature 3 (none)) := rfl
set_option maxRecDepth 100000 in
theorem mm_k45 : lw_tbl[531]? = some (.code yX1_params cX1_params 8 (none)) := rfl
set_option maxRecDepth 100000 in
theorem mm_k46 : lw_tbl[535]? = some (.code yX1_param cX1_param 8 (some .int)) := rfl
set_option maxRecDepth 100000 in
theorem mm_k47 : lw_tbl[539]? = some (.code yX1_block cX1_block 3 (none)) := rfl
set_option maxRecDepth 100000 in
theorem mm_k48 : lw_tbl[543]? = some (.code yX1_stmts cX1_stmts 4 (some .int)) := rfl
set_option maxRecDepth 100000 in
theorem mm_k49 : lw_tbl[547]? = some (.code yX1_stmt cX1_stmt 1 (some .boolean)) := rfl
set_option maxRecDepth 100000 in
theorem mm_k50 : lw_tbl[551]? = some (.code yX1_decl cX1_decl 4 (none)) := rfl
set_option maxRecDepth 100000 in
theorem mm_k51 : lw_tbl[555]? = some (.code yX1_group cX1_group 5 (some .int)) := rfl
set_option maxRecDepth 100000 in
theorem mm_k52 : lw_tbl[559]? = some (.code yX1_spec cX1_spec 2 (none)) := rfl
set_option maxRecDepth 100000 in
theorem mm_k53 : lw_tbl[563]? = some (.code yX1_constSpec cX1_constSpec 3 (none)) := rfl
set_option maxRecDepth 100000 in
theorem mm_k54 : lw_tbl[567]? = some (.code yX1_names cX1_names 3 (none)) := rfl
set_option maxRecDepth 100000 in
theorem mm_k55 : lw_tbl[571]? = some (.code yX1_exprs cX1_exprs 2 (none)) := rfl
set_option maxRecDepth 100000 in
theorem mm_k56 : lw_tbl[575]? = some (.code yX1_restOfExprs cX1_restOfExprs 4 (none)) := rfl
set_option maxRecDepth 100000 in
theorem mm_k57 : lw_tbl[579]? = some (.code yX1_typeSpec cX1_typeSpec 2 (none)) := rfl
set_option maxRecDepth 100000 in
theorem mm_k58 : lw_tbl[583]? = some (.code yX1_varSpec cX1_varSpec 3 (none)) := rfl
set_option maxRecDepth 100000 in
theorem mm_k59 : lw_tbl[586]? = some (.code yX1_groupWhat cX1_groupWhat 1 (some .int)) := rfl
set_option maxRecDepth 100000 in
theorem mm_k60 : lw_tbl[590]? = some (.code yX1_ifStmt cX1_ifStmt 4 (none)) := rfl
set_option maxRecDepth 100000 in
theorem mm_k61 : lw_tbl[594]? = some (.code yX1_opening cX1_opening 7 (some .int)) := rfl
set_option maxRecDepth 100000 in
theorem mm_k62 : lw_tbl[598]? = some (.code yX1_simple cX1_simple 6 (some .int)) := rfl
set_option maxRecDepth 100000 in
theorem mm_k63 : lw_tbl[602]? = some (.code yX1_putGuard cX1_putGuard 2 (none)) := rfl
set_option maxRecDepth 100000 in
theorem mm_k64 : lw_tbl[606]? = some (.code yX1_isNameFrom cX1_isNameFrom 2 (some .boolean)) := rfl
set_option maxRecDepth 100000 in
theorem mm_k65 : lw_tbl[610]? = some (.code yX1_assign cX1_assign 4 (some .int)) := rfl
set_option maxRecDepth 100000 in
theorem mm_k66 : lw_tbl[614]? = some (.code yX1_define cX1_define 5 (some .int)) := rfl
set_option maxRecDepth 100000 in
theorem mm_k67 : lw_tbl[618]? = some (.code yX1_behindExpr cX1_behindExpr 3 (some .int)) := rfl
set_option maxRecDepth 100000 in
theorem mm_k68 : lw_tbl[621]? = some (.code yX0_isOpAssign cX0_isOpAssign 1 (some .boolean)) := rfl
set_option maxRecDepth 100000 in
theorem mm_k69 : lw_tbl[625]? = some (.code yX1_elseBranch cX1_elseBranch 1 (none)) := rfl
set_option maxRecDepth 100000 in
theorem mm_k70 : lw_tbl[629]? = some (.code yX1_switchStmt cX1_switchStmt 6 (none)) := rfl
set_option maxRecDepth 100000 in
theorem mm_k71 : lw_tbl[633]? = some (.code yX1_tag cX1_tag 2 (some .boolean)) := rfl
set_option maxRecDepth 100000 in
theorem mm_k72 : lw_tbl[637]? = some (.code yX1_clauses cX1_clauses 3 (some .int)) := rfl
set_option maxRecDepth 100000 in
theorem mm_k73 : lw_tbl[641]? = some (.code yX1_caseClause cX1_caseClause 3 (none)) := rfl
set_option maxRecDepth 100000 in
theorem mm_k74 : lw_tbl[645]? = some (.code yX1_types cX1_types 3 (none)) := rfl
set_option maxRecDepth 100000 in
theorem mm_k75 : lw_tbl[649]? = some (.code yX1_wholeSimple cX1_wholeSimple 3 (none)) := rfl
set_option maxRecDepth 100000 in
theorem mm_k76 : lw_tbl[653]? = some (.code yX1_clauseBody cX1_clauseBody 2 (none)) := rfl
set_option maxRecDepth 100000 in
theorem mm_k77 : lw_tbl[657]? = some (.code yX1_defaultClause cX1_defaultClause 3 (none)) := rfl
set_option maxRecDepth 100000 in
theorem mm_k78 : lw_tbl[661]? = some (.code yX1_selectStmt cX1_selectStmt 2 (none)) := rfl
set_option maxRecDepth 100000 in
theorem mm_k79 : lw_tbl[665]? = some (.code yX1_forStmt cX1_forStmt 4 (none)) := rfl
set_option maxRecDepth 100000 in
theorem mm_k80 : lw_tbl[669]? = some (.code yX1_forHead cX1_forHead 2 (some .int)) := rfl
set_option maxRecDepth 100000 in
theorem mm_k81 : lw_tbl[673]? = some (.code yX1_range cX1_range 3 (none)) := rfl
set_option maxRecDepth 100000 in
theorem mm_k82 : lw_tbl[677]? = some (.code yX1_restOfForHead cX1_restOfForHead 3 (none)) := rfl
set_option maxRecDepth 100000 in
theorem mm_k83 : lw_tbl[681]? = some (.code yX1_wordStmt cX1_wordStmt 1 (some .boolean)) := rfl
set_option maxRecDepth 100000 in
theorem mm_k84 : lw_tbl[685]? = some (.code yX1_startStmt cX1_startStmt 3 (none)) := rfl
set_option maxRecDepth 100000 in
theorem mm_k85 : lw_tbl[689]? = some (.code yX1_returnStmt cX1_returnStmt 3 (none)) := rfl
set_option maxRecDepth 100000 in
theorem mm_k86 : lw_tbl[692]? = some (.code yX0_beginsExpr cX0_beginsExpr 1 (some .boolean)) := rfl
set_option maxRecDepth 100000 in
theorem mm_k87 : lw_tbl[698]? = some (.code yX1_jumpStmt cX1_jumpStmt 4 (none)) := rfl
set_option maxRecDepth 100000 in
theorem mm_k88 : lw_tbl[702]? = some (.code yX1_simpleStmt cX1_simpleStmt 1 (some .boolean)) := rfl
set_option maxRecDepth 100000 in
theorem mm_k89 : lw_tbl[706]? = some (.code yX1_labeledStmt cX1_labeledStmt 3 (none)) := rfl
set_option maxRecDepth 100000 in
theorem mm_k90 : lw_tbl[710]? = some (.code yX1_countedArrayType cX1_countedArrayType 2 (none)) := rfl
set_option maxRecDepth 100000 in
theorem mm_k91 : lw_tbl[714]? = some (.code yX1_behindOperand cX1_behindOperand 2 (some .boolean)) := rfl
set_option maxRecDepth 100000 in
theorem mm_k92 : lw_tbl[718]? = some (.code yX1_dot cX1_dot 4 (some .boolean)) := rfl
set_option maxRecDepth 100000 in
theorem mm_k93 : lw_tbl[722]? = some (.code yX1_index cX1_index 5 (none)) := rfl
set_option maxRecDepth 100000 in
theorem mm_k94 : lw_tbl[726]? = some (.code yX1_upperBounds cX1_upperBounds 1 (some .int)) := rfl
set_option maxRecDepth 100000 in
theorem mm_k95 : lw_tbl[730]? = some (.code yX1_call cX1_call 6 (none)) := rfl
set_option maxRecDepth 100000 in
theorem mm_k96 : lw_tbl[733]? = some (.code yX0_binding cX0_binding 1 (some .int)) := rfl
set_option maxRecDepth 100000 in
theorem mm_k97 : lw_tbl[737]? = some (.code yX1_putWaiting cX1_putWaiting 4 (none)) := rfl
set_option maxRecDepth 100000 in
theorem mm_k98 : lw_tbl[741]? = some (.code yX1_await cX1_await 2 (none)) := rfl
set_option maxRecDepth 100000 in
theorem mm_k99 : lw_tbl[745]? = some (.code yX1_mapType cX1_mapType 2 (none)) := rfl
set_option maxRecDepth 100000 in
theorem mm_k100 : lw_tbl[749]? = some (.code yX1_chanType cX1_chanType 3 (none)) := rfl
set_option maxRecDepth 100000 in
theorem mm_k101 : lw_tbl[753]? = some (.code yX1_receiveChanType cX1_receiveChanType 2 (none)) := rfl
set_option maxRecDepth 100000 in
theorem mm_k102 : lw_tbl[757]? = some (.code yX1_pointerType cX1_pointerType 2 (none)) := rfl
set_option maxRecDepth 100000 in
theorem mm_k103 : lw_tbl[761]? = some (.code yX1_structType cX1_structType 5 (none)) := rfl
set_option maxRecDepth 100000 in
theorem mm_k104 : lw_tbl[765]? = some (.code yX1_functionType cX1_functionType 2 (none)) := rfl
set_option maxRecDepth 100000 in
theorem mm_k105 : lw_tbl[769]? = some (.code yX1_interfaceType cX1_interfaceType 5 (none)) := rfl
set_option maxRecDepth 100000 in
theorem mm_k106 : lw_tbl[772]? = some (.code yX0_beginsDecl cX0_beginsDecl 1 (some .boolean)) := rfl
set_option maxRecDepth 100000 in
theorem mm_k107 : lw_tbl[776]? = some (.code yX3_number cX3_number 2 (none)) := rfl
set_option maxRecDepth 100000 in
theorem mm_k108 : lw_tbl[780]? = some (.code yX3_numberChildren cX3_numberChildren 8 (none)) := rfl
set_option maxRecDepth 100000 in
theorem mm_k109 : lw_tbl[784]? = some (.code yX3_spanOf cX3_spanOf 2 (some .int)) := rfl
set_option maxRecDepth 100000 in
theorem mm_k110 : lw_tbl[788]? = some (.code yX3_placeOf cX3_placeOf 2 (some .int)) := rfl
set_option maxRecDepth 100000 in
theorem mm_k111 : lw_tbl[792]? = some (.code yX3_read cX3_read 3 (some .int)) := rfl
set_option maxRecDepth 100000 in
theorem mm_k112 : lw_tbl[796]? = some (.code yX3_childrenOf cX3_childrenOf 2 (some .int)) := rfl
set_option maxRecDepth 100000 in
theorem mm_k113 : lw_tbl[800]? = some (.code yX5_size cX5_size 1 (some .int)) := rfl
set_option maxRecDepth 100000 in
theorem mm_k114 : lw_tbl[804]? = some (.code yX5_nodes cX5_nodes 1 (some .int)) := rfl
set_option maxRecDepth 100000 in
theorem mm_k115 : lw_tbl[807]? = some (.codeWith yL_node cL_node 5 (some .int) [(0, 10, 13, 13)]) := rfl
set_option maxRecDepth 100000 in
theorem mm_k116 : lw_tbl[812]? = some (.code yX5_node cX5_node 3 (some .int)) := rfl
set_option maxRecDepth 100000 in
theorem mm_k117 : lw_tbl[816]? = some (.code yX3_has cX3_has 2 (some .boolean)) := rfl
set_option maxRecDepth 100000 in
theorem mm_k118 : lw_tbl[836]? = some (.code yX3_whatOf cX3_whatOf 2 (some .int)) := rfl
set_option maxRecDepth 100000 in
theorem mm_k119 : lw_tbl[840]? = some (.code yX3_tokenOf cX3_tokenOf 2 (some .int)) := rfl
set_option maxRecDepth 100000 in
theorem mm_k120 : lw_tbl[846]? = some (.code yX3_parentOf cX3_parentOf 2 (some .int)) := rfl
set_option maxRecDepth 100000 in
theorem mm_k121 : lw_tbl[851]? = some (.codeWith yL_child cL_child 5 (some .int) [(0, 10, 13, 13)]) := rfl
set_option maxRecDepth 100000 in
theorem mm_k122 : lw_tbl[855]? = some (.code yX5_child cX5_child 5 (some .int)) := rfl
set_option maxRecDepth 100000 in
theorem mm_k123 : lw_tbl[861]? = some (.code yX6_init cX6_init 1 (none)) := rfl
set_option maxRecDepth 100000 in
theorem mm_k124 : lw_tbl[947]? = some (.code yX6_thrown cX6_thrown 1 (some .int)) := rfl
set_option maxRecDepth 100000 in
theorem mm_k125 : lw_tbl[951]? = some (.code yX6_add cX6_add 2 (some .boolean)) := rfl
set_option maxRecDepth 100000 in
theorem mm_k126 : lw_tbl[954]? = some (.code yX6_isKind cX6_isKind 1 (some .boolean)) := rfl
set_option maxRecDepth 100000 in
theorem mm_k127 : lw_tbl[958]? = some (.code yX6_addAll cX6_addAll 6 (some .boolean)) := rfl
set_option maxRecDepth 100000 in
theorem mm_k128 : lw_tbl[963]? = some (.code yX6_size cX6_size 1 (some .int)) := rfl
set_option maxRecDepth 100000 in
theorem mm_k129 : lw_tbl[967]? = some (.code yX6_build cX6_build 2 (some .int)) := rfl
set_option maxRecDepth 100000 in
theorem mm_k130 : lw_tbl[971]? = some (.code yX6_child cX6_child 4 (some .int)) := rfl
set_option maxRecDepth 100000 in
theorem mm_k131 : lw_tbl[975]? = some (.code yX6_pass cX6_pass 2 (none)) := rfl
set_option maxRecDepth 100000 in
theorem mm_k132 : lw_tbl[979]? = some (.code yX6_look cX6_look 1 (some .int)) := rfl
set_option maxRecDepth 100000 in
theorem mm_k133 : lw_tbl[983]? = some (.code yX6_error cX6_error 1 (none)) := rfl
set_option maxRecDepth 100000 in
theorem mm_k134 : lw_tbl[987]? = some (.code yX6_name cX6_name 3 (some .int)) := rfl
set_option maxRecDepth 100000 in
theorem mm_k135 : lw_tbl[991]? = some (.code yX6_push cX6_push 4 (none)) := rfl
set_option maxRecDepth 100000 in
theorem mm_k136 : lw_tbl[995]? = some (.code yX6_step cX6_step 4 (none)) := rfl
set_option maxRecDepth 100000 in
theorem mm_k137 : lw_tbl[999]? = some (.code yX6_binary cX6_binary 6 (none)) := rfl
set_option maxRecDepth 100000 in
theorem mm_k138 : lw_tbl[1002]? = some (.code yX6_strength cX6_strength 1 (some .int)) := rfl
set_option maxRecDepth 100000 in
theorem mm_k139 : lw_tbl[1006]? = some (.code yX6_wrap cX6_wrap 8 (some .int)) := rfl
set_option maxRecDepth 100000 in
theorem mm_k140 : lw_tbl[1010]? = some (.code yX6_expression cX6_expression 4 (none)) := rfl
set_option maxRecDepth 100000 in
theorem mm_k141 : lw_tbl[1014]? = some (.code yX6_unary cX6_unary 5 (none)) := rfl
set_option maxRecDepth 100000 in
theorem mm_k142 : lw_tbl[1017]? = some (.code yX6_isUnary cX6_isUnary 1 (some .boolean)) := rfl
set_option maxRecDepth 100000 in
theorem mm_k143 : lw_tbl[1021]? = some (.code yX6_ahead cX6_ahead 1 (some .int)) := rfl
set_option maxRecDepth 100000 in
theorem mm_k144 : lw_tbl[1025]? = some (.code yX6_more cX6_more 1 (none)) := rfl
set_option maxRecDepth 100000 in
theorem mm_k145 : lw_tbl[1029]? = some (.code yX6_operand cX6_operand 5 (none)) := rfl
set_option maxRecDepth 100000 in
theorem mm_k146 : lw_tbl[1033]? = some (.code yX6_postfix cX6_postfix 5 (none)) := rfl
set_option maxRecDepth 100000 in
theorem mm_k147 : lw_tbl[1037]? = some (.code yX6_dot cX6_dot 5 (none)) := rfl
set_option maxRecDepth 100000 in
theorem mm_k148 : lw_tbl[1040]? = some (.code yX6_has cX6_has 2 (some .boolean)) := rfl
set_option maxRecDepth 100000 in
theorem mm_k149 : lw_tbl[1044]? = some (.code yX6_slice cX6_slice 2 (none)) := rfl
set_option maxRecDepth 100000 in
theorem mm_k150 : lw_tbl[1048]? = some (.code yX6_value_ cX6_value_ 4 (none)) := rfl
set_option maxRecDepth 100000 in
theorem mm_k151 : lw_tbl[1052]? = some (.code yX6_literal cX6_literal 8 (none)) := rfl
set_option maxRecDepth 100000 in
theorem mm_k152 : lw_tbl[1056]? = some (.code yX6_args cX6_args 2 (none)) := rfl
set_option maxRecDepth 100000 in
theorem mm_k153 : lw_tbl[1060]? = some (.code yX6_argsMore cX6_argsMore 2 (none)) := rfl
set_option maxRecDepth 100000 in
theorem mm_k154 : lw_tbl[1064]? = some (.code yX6_index cX6_index 2 (none)) := rfl
set_option maxRecDepth 100000 in
theorem mm_k155 : lw_tbl[1068]? = some (.code yX6_sliced cX6_sliced 2 (none)) := rfl
set_option maxRecDepth 100000 in
theorem mm_k156 : lw_tbl[1072]? = some (.code yX6_sliceMore cX6_sliceMore 2 (none)) := rfl
set_option maxRecDepth 100000 in
theorem mm_k157 : lw_tbl[1076]? = some (.code yX6_elements cX6_elements 3 (none)) := rfl
set_option maxRecDepth 100000 in
theorem mm_k158 : lw_tbl[1080]? = some (.code yX6_elementsMore cX6_elementsMore 2 (none)) := rfl
set_option maxRecDepth 100000 in
theorem mm_k159 : lw_tbl[1084]? = some (.code yX6_keyed cX6_keyed 2 (none)) := rfl
set_option maxRecDepth 100000 in
theorem mm_k160 : lw_tbl[1088]? = some (.code yX6_value cX6_value 3 (none)) := rfl
set_option maxRecDepth 100000 in
theorem mm_k161 : lw_tbl[1092]? = some (.code yX6_typing cX6_typing 4 (none)) := rfl
set_option maxRecDepth 100000 in
theorem mm_k162 : lw_tbl[1096]? = some (.code yX6_type cX6_type 5 (none)) := rfl
set_option maxRecDepth 100000 in
theorem mm_k163 : lw_tbl[1099]? = some (.code yX6_beginsType cX6_beginsType 1 (some .boolean)) := rfl
set_option maxRecDepth 100000 in
theorem mm_k164 : lw_tbl[1103]? = some (.code yX6_array cX6_array 4 (none)) := rfl
set_option maxRecDepth 100000 in
theorem mm_k165 : lw_tbl[1107]? = some (.code yX6_functionTail cX6_functionTail 2 (none)) := rfl
set_option maxRecDepth 100000 in
theorem mm_k166 : lw_tbl[1111]? = some (.code yX6_block cX6_block 3 (none)) := rfl
set_option maxRecDepth 100000 in
theorem mm_k167 : lw_tbl[1115]? = some (.code yX6_signature cX6_signature 3 (none)) := rfl
set_option maxRecDepth 100000 in
theorem mm_k168 : lw_tbl[1119]? = some (.code yX6_result cX6_result 3 (none)) := rfl
set_option maxRecDepth 100000 in
theorem mm_k169 : lw_tbl[1123]? = some (.code yX6_params cX6_params 3 (none)) := rfl
set_option maxRecDepth 100000 in
theorem mm_k170 : lw_tbl[1127]? = some (.code yX6_param cX6_param 7 (none)) := rfl
set_option maxRecDepth 100000 in
theorem mm_k171 : lw_tbl[1131]? = some (.code yX6_paramMore cX6_paramMore 3 (none)) := rfl
set_option maxRecDepth 100000 in
theorem mm_k172 : lw_tbl[1135]? = some (.code yX6_fields cX6_fields 3 (none)) := rfl
set_option maxRecDepth 100000 in
theorem mm_k173 : lw_tbl[1139]? = some (.code yX6_fieldsMore cX6_fieldsMore 3 (none)) := rfl
set_option maxRecDepth 100000 in
theorem mm_k174 : lw_tbl[1143]? = some (.code yX6_methods cX6_methods 3 (none)) := rfl
set_option maxRecDepth 100000 in
theorem mm_k175 : lw_tbl[1147]? = some (.code yX6_declaring cX6_declaring 4 (none)) := rfl
set_option maxRecDepth 100000 in
theorem mm_k176 : lw_tbl[1151]? = some (.code yX6_names cX6_names 3 (none)) := rfl
set_option maxRecDepth 100000 in
theorem mm_k177 : lw_tbl[1155]? = some (.code yX6_namesMore cX6_namesMore 2 (none)) := rfl
set_option maxRecDepth 100000 in
theorem mm_k178 : lw_tbl[1159]? = some (.code yX6_exprsMore cX6_exprsMore 3 (none)) := rfl
set_option maxRecDepth 100000 in
theorem mm_k179 : lw_tbl[1163]? = some (.code yX6_spec cX6_spec 4 (none)) := rfl
set_option maxRecDepth 100000 in
theorem mm_k180 : lw_tbl[1167]? = some (.code yX6_specs cX6_specs 3 (none)) := rfl
set_option maxRecDepth 100000 in
theorem mm_k181 : lw_tbl[1171]? = some (.code yX6_specsMore cX6_specsMore 3 (none)) := rfl
set_option maxRecDepth 100000 in
theorem mm_k182 : lw_tbl[1175]? = some (.code yX6_constRest cX6_constRest 2 (none)) := rfl
set_option maxRecDepth 100000 in
theorem mm_k183 : lw_tbl[1179]? = some (.code yX6_valued cX6_valued 3 (none)) := rfl
set_option maxRecDepth 100000 in
theorem mm_k184 : lw_tbl[1183]? = some (.code yX6_exprs cX6_exprs 4 (none)) := rfl
set_option maxRecDepth 100000 in
theorem mm_k185 : lw_tbl[1187]? = some (.code yX6_varRest cX6_varRest 2 (none)) := rfl
set_option maxRecDepth 100000 in
theorem mm_k186 : lw_tbl[1191]? = some (.code yX6_statements cX6_statements 3 (none)) := rfl
set_option maxRecDepth 100000 in
theorem mm_k187 : lw_tbl[1194]? = some (.code yX6_beginsStatement cX6_beginsStatement 1 (some .boolean)) := rfl
set_option maxRecDepth 100000 in
theorem mm_k188 : lw_tbl[1197]? = some (.code yX6_beginsExpr cX6_beginsExpr 1 (some .boolean)) := rfl
set_option maxRecDepth 100000 in
theorem mm_k189 : lw_tbl[1201]? = some (.code yX6_statement cX6_statement 4 (none)) := rfl
set_option maxRecDepth 100000 in
theorem mm_k190 : lw_tbl[1205]? = some (.code yX6_declaration cX6_declaration 4 (none)) := rfl
set_option maxRecDepth 100000 in
theorem mm_k191 : lw_tbl[1209]? = some (.code yX6_ifs cX6_ifs 3 (none)) := rfl
set_option maxRecDepth 100000 in
theorem mm_k192 : lw_tbl[1213]? = some (.code yX6_loop cX6_loop 5 (none)) := rfl
set_option maxRecDepth 100000 in
theorem mm_k193 : lw_tbl[1217]? = some (.code yX6_condition cX6_condition 3 (none)) := rfl
set_option maxRecDepth 100000 in
theorem mm_k194 : lw_tbl[1221]? = some (.code yX6_choice cX6_choice 3 (none)) := rfl
set_option maxRecDepth 100000 in
theorem mm_k195 : lw_tbl[1225]? = some (.code yX6_body cX6_body 3 (none)) := rfl
set_option maxRecDepth 100000 in
theorem mm_k196 : lw_tbl[1229]? = some (.code yX6_second cX6_second 2 (none)) := rfl
set_option maxRecDepth 100000 in
theorem mm_k197 : lw_tbl[1233]? = some (.code yX6_leaving cX6_leaving 4 (none)) := rfl
set_option maxRecDepth 100000 in
theorem mm_k198 : lw_tbl[1237]? = some (.code yX6_statementsMore cX6_statementsMore 2 (none)) := rfl
set_option maxRecDepth 100000 in
theorem mm_k199 : lw_tbl[1241]? = some (.code yX6_stating cX6_stating 4 (none)) := rfl
set_option maxRecDepth 100000 in
theorem mm_k200 : lw_tbl[1245]? = some (.code yX6_simple cX6_simple 3 (none)) := rfl
set_option maxRecDepth 100000 in
theorem mm_k201 : lw_tbl[1249]? = some (.code yX6_simpleRest cX6_simpleRest 9 (none)) := rfl
set_option maxRecDepth 100000 in
theorem mm_k202 : lw_tbl[1253]? = some (.code yX6_assign cX6_assign 4 (none)) := rfl
set_option maxRecDepth 100000 in
theorem mm_k203 : lw_tbl[1257]? = some (.code yX6_ranges cX6_ranges 4 (some .boolean)) := rfl
set_option maxRecDepth 100000 in
theorem mm_k204 : lw_tbl[1261]? = some (.code yX6_right cX6_right 5 (none)) := rfl
set_option maxRecDepth 100000 in
theorem mm_k205 : lw_tbl[1265]? = some (.code yX6_define cX6_define 6 (none)) := rfl
set_option maxRecDepth 100000 in
theorem mm_k206 : lw_tbl[1269]? = some (.code yX6_listRest cX6_listRest 6 (none)) := rfl
set_option maxRecDepth 100000 in
theorem mm_k207 : lw_tbl[1273]? = some (.code yX6_ifRest cX6_ifRest 2 (none)) := rfl
set_option maxRecDepth 100000 in
theorem mm_k208 : lw_tbl[1277]? = some (.code yX6_unwrap cX6_unwrap 6 (none)) := rfl
set_option maxRecDepth 100000 in
theorem mm_k209 : lw_tbl[1281]? = some (.code yX6_ifElse cX6_ifElse 2 (none)) := rfl
set_option maxRecDepth 100000 in
theorem mm_k210 : lw_tbl[1285]? = some (.code yX6_forRest cX6_forRest 2 (none)) := rfl
set_option maxRecDepth 100000 in
theorem mm_k211 : lw_tbl[1289]? = some (.code yX6_forPost cX6_forPost 4 (none)) := rfl
set_option maxRecDepth 100000 in
theorem mm_k212 : lw_tbl[1293]? = some (.code yX6_switchRest cX6_switchRest 3 (none)) := rfl
set_option maxRecDepth 100000 in
theorem mm_k213 : lw_tbl[1297]? = some (.code yX6_clauses cX6_clauses 6 (none)) := rfl
set_option maxRecDepth 100000 in
theorem mm_k214 : lw_tbl[1301]? = some (.code yX6_clause cX6_clause 3 (none)) := rfl
set_option maxRecDepth 100000 in
theorem mm_k215 : lw_tbl[1305]? = some (.code yX6_types cX6_types 2 (none)) := rfl
set_option maxRecDepth 100000 in
theorem mm_k216 : lw_tbl[1309]? = some (.code yX6_tops cX6_tops 3 (none)) := rfl
set_option maxRecDepth 100000 in
theorem mm_k217 : lw_tbl[1313]? = some (.code yX6_function cX6_function 5 (none)) := rfl
set_option maxRecDepth 100000 in
theorem mm_k218 : lw_tbl[1317]? = some (.code yX6_guarded cX6_guarded 6 (none)) := rfl
set_option maxRecDepth 100000 in
theorem mm_k219 : lw_tbl[1321]? = some (.code yX6_numberAll cX6_numberAll 3 (none)) := rfl
set_option maxRecDepth 100000 in
theorem mm_k220 : lw_tbl[1325]? = some (.code yX6_nodes cX6_nodes 1 (some .int)) := rfl
set_option maxRecDepth 100000 in
theorem mm_k221 : lw_tbl[1329]? = some (.code yX6_node cX6_node 6 (some .int)) := rfl
set_option maxRecDepth 100000 in
theorem mm_k222 : lw_tbl[1333]? = some (.code yX6_fail cX6_fail 1 (some .int)) := rfl
set_option maxRecDepth 100000 in
theorem mm_k223 : lw_tbl[1337]? = some (.code yX6_child_ cX6_child_ 5 (some .int)) := rfl
theorem mm_kk0 : ∀ me ∈ mm_MT0, mm_codeW me ∈ lw_tbl := List.forall_mem_cons.mpr ⟨List.mem_of_getElem? mm_k0, List.forall_mem_cons.mpr ⟨List.mem_of_getElem? mm_k1, List.forall_mem_cons.mpr ⟨List.mem_of_getElem? mm_k2, List.forall_mem_cons.mpr ⟨List.mem_of_getElem? mm_k3, List.forall_mem_cons.mpr ⟨List.mem_of_getElem? mm_k4, List.forall_mem_cons.mpr ⟨List.mem_of_getElem? mm_k5, List.forall_mem_cons.mpr ⟨List.mem_of_getElem? mm_k6, List.forall_mem_cons.mpr ⟨List.mem_of_getElem? mm_k7, List.forall_mem_cons.mpr ⟨List.mem_of_getElem? mm_k8, List.forall_mem_cons.mpr ⟨List.mem_of_getElem? mm_k9, List.forall_mem_cons.mpr ⟨List.mem_of_getElem? mm_k10, List.forall_mem_cons.mpr ⟨List.mem_of_getElem? mm_k11, List.forall_mem_cons.mpr ⟨List.mem_of_getElem? mm_k12, List.forall_mem_cons.mpr ⟨List.mem_of_getElem? mm_k13, List.forall_mem_cons.mpr ⟨List.mem_of_getElem? mm_k14, List.forall_mem_cons.mpr ⟨List.mem_of_getElem? mm_k15, List.forall_mem_cons.mpr ⟨List.mem_of_getElem? mm_k16, List.forall_mem_cons.mpr ⟨List.mem_of_getElem? mm_k17, List.forall_mem_cons.mpr ⟨List.mem_of_getElem? mm_k18, List.forall_mem_cons.mpr ⟨List.mem_of_getElem? mm_k19, List.forall_mem_cons.mpr ⟨List.mem_of_getElem? mm_k20, List.forall_mem_cons.mpr ⟨List.mem_of_getElem? mm_k21, List.forall_mem_cons.mpr ⟨List.mem_of_getElem? mm_k22, List.forall_mem_cons.mpr ⟨List.mem_of_getElem? mm_k23, List.forall_mem_cons.mpr ⟨List.mem_of_getElem? mm_k24, List.forall_mem_cons.mpr ⟨List.mem_of_getElem? mm_k25, List.forall_mem_cons.mpr ⟨List.mem_of_getElem? mm_k26, List.forall_mem_cons.mpr ⟨List.mem_of_getElem? mm_k27, List.forall_mem_cons.mpr ⟨List.mem_of_getElem? mm_k28, List.forall_mem_cons.mpr ⟨List.mem_of_getElem? mm_k29, List.forall_mem_cons.mpr ⟨List.mem_of_getElem? mm_k30, List.forall_mem_cons.mpr ⟨List.mem_of_getElem? mm_k31, List.forall_mem_cons.mpr ⟨List.mem_of_getElem? mm_k32, List.forall_mem_cons.mpr ⟨List.mem_of_getElem? mm_k33, List.forall_mem_cons.mpr ⟨List.mem_of_getElem? mm_k34, List.forall_mem_cons.mpr ⟨List.mem_of_getElem? mm_k35, List.forall_mem_cons.mpr ⟨List.mem_of_getElem? mm_k36, List.forall_mem_cons.mpr ⟨List.mem_of_getElem? mm_k37, List.forall_mem_cons.mpr ⟨List.mem_of_getElem? mm_k38, List.forall_mem_cons.mpr ⟨List.mem_of_getElem? mm_k39, fun _ h => absurd h List.not_mem_nil⟩⟩⟩⟩⟩⟩⟩⟩⟩⟩⟩⟩⟩⟩⟩⟩⟩⟩⟩⟩⟩⟩⟩⟩⟩⟩⟩⟩⟩⟩⟩⟩⟩⟩⟩⟩⟩⟩⟩⟩
theorem mm_kk1 : ∀ me ∈ mm_MT1, mm_codeW me ∈ lw_tbl := List.forall_mem_cons.mpr ⟨List.mem_of_getElem? mm_k40, List.forall_mem_cons.mpr ⟨List.mem_of_getElem? mm_k41, List.forall_mem_cons.mpr ⟨List.mem_of_getElem? mm_k42, List.forall_mem_cons.mpr ⟨List.mem_of_getElem? mm_k43, List.forall_mem_cons.mpr ⟨List.mem_of_getElem? mm_k44, List.forall_mem_cons.mpr ⟨List.mem_of_getElem? mm_k45, List.forall_mem_cons.mpr ⟨List.mem_of_getElem? mm_k46, List.forall_mem_cons.mpr ⟨List.mem_of_getElem? mm_k47, List.forall_mem_cons.mpr ⟨List.mem_of_getElem? mm_k48, List.forall_mem_cons.mpr ⟨List.mem_of_getElem? mm_k49, List.forall_mem_cons.mpr ⟨List.mem_of_getElem? mm_k50, List.forall_mem_cons.mpr ⟨List.mem_of_getElem? mm_k51, List.forall_mem_cons.mpr ⟨List.mem_of_getElem? mm_k52, List.forall_mem_cons.mpr ⟨List.mem_of_getElem? mm_k53, List.forall_mem_cons.mpr ⟨List.mem_of_getElem? mm_k54, List.forall_mem_cons.mpr ⟨List.mem_of_getElem? mm_k55, List.forall_mem_cons.mpr ⟨List.mem_of_getElem? mm_k56, List.forall_mem_cons.mpr ⟨List.mem_of_getElem? mm_k57, List.forall_mem_cons.mpr ⟨List.mem_of_getElem? mm_k58, List.forall_mem_cons.mpr ⟨List.mem_of_getElem? mm_k59, List.forall_mem_cons.mpr ⟨List.mem_of_getElem? mm_k60, List.forall_mem_cons.mpr ⟨List.mem_of_getElem? mm_k61, List.forall_mem_cons.mpr ⟨List.mem_of_getElem? mm_k62, List.forall_mem_cons.mpr ⟨List.mem_of_getElem? mm_k63, List.forall_mem_cons.mpr ⟨List.mem_of_getElem? mm_k64, List.forall_mem_cons.mpr ⟨List.mem_of_getElem? mm_k65, List.forall_mem_cons.mpr ⟨List.mem_of_getElem? mm_k66, List.forall_mem_cons.mpr ⟨List.mem_of_getElem? mm_k67, List.forall_mem_cons.mpr ⟨List.mem_of_getElem? mm_k68, List.forall_mem_cons.mpr ⟨List.mem_of_getElem? mm_k69, List.forall_mem_cons.mpr ⟨List.mem_of_getElem? mm_k70, List.forall_mem_cons.mpr ⟨List.mem_of_getElem? mm_k71, List.forall_mem_cons.mpr ⟨List.mem_of_getElem? mm_k72, List.forall_mem_cons.mpr ⟨List.mem_of_getElem? mm_k73, List.forall_mem_cons.mpr ⟨List.mem_of_getElem? mm_k74, List.forall_mem_cons.mpr ⟨List.mem_of_getElem? mm_k75, List.forall_mem_cons.mpr ⟨List.mem_of_getElem? mm_k76, List.forall_mem_cons.mpr ⟨List.mem_of_getElem? mm_k77, List.forall_mem_cons.mpr ⟨List.mem_of_getElem? mm_k78, List.forall_mem_cons.mpr ⟨List.mem_of_getElem? mm_k79, fun _ h => absurd h List.not_mem_nil⟩⟩⟩⟩⟩⟩⟩⟩⟩⟩⟩⟩⟩⟩⟩⟩⟩⟩⟩⟩⟩⟩⟩⟩⟩⟩⟩⟩⟩⟩⟩⟩⟩⟩⟩⟩⟩⟩⟩⟩
theorem mm_kk2 : ∀ me ∈ mm_MT2, mm_codeW me ∈ lw_tbl := List.forall_mem_cons.mpr ⟨List.mem_of_getElem? mm_k80, List.forall_mem_cons.mpr ⟨List.mem_of_getElem? mm_k81, List.forall_mem_cons.mpr ⟨List.mem_of_getElem? mm_k82, List.forall_mem_cons.mpr ⟨List.mem_of_getElem? mm_k83, List.forall_mem_cons.mpr ⟨List.mem_of_getElem? mm_k84, List.forall_mem_cons.mpr ⟨List.mem_of_getElem? mm_k85, List.forall_mem_cons.mpr ⟨List.mem_of_getElem? mm_k86, List.forall_mem_cons.mpr ⟨List.mem_of_getElem? mm_k87, List.forall_mem_cons.mpr ⟨List.mem_of_getElem? mm_k88, List.forall_mem_cons.mpr ⟨List.mem_of_getElem? mm_k89, List.forall_mem_cons.mpr ⟨List.mem_of_getElem? mm_k90, List.forall_mem_cons.mpr ⟨List.mem_of_getElem? mm_k91, List.forall_mem_cons.mpr ⟨List.mem_of_getElem? mm_k92, List.forall_mem_cons.mpr ⟨List.mem_of_getElem? mm_k93, List.forall_mem_cons.mpr ⟨List.mem_of_getElem? mm_k94, List.forall_mem_cons.mpr ⟨List.mem_of_getElem? mm_k95, List.forall_mem_cons.mpr ⟨List.mem_of_getElem? mm_k96, List.forall_mem_cons.mpr ⟨List.mem_of_getElem? mm_k97, List.forall_mem_cons.mpr ⟨List.mem_of_getElem? mm_k98, List.forall_mem_cons.mpr ⟨List.mem_of_getElem? mm_k99, List.forall_mem_cons.mpr ⟨List.mem_of_getElem? mm_k100, List.forall_mem_cons.mpr ⟨List.mem_of_getElem? mm_k101, List.forall_mem_cons.mpr ⟨List.mem_of_getElem? mm_k102, List.forall_mem_cons.mpr ⟨List.mem_of_getElem? mm_k103, List.forall_mem_cons.mpr ⟨List.mem_of_getElem? mm_k104, List.forall_mem_cons.mpr ⟨List.mem_of_getElem? mm_k105, List.forall_mem_cons.mpr ⟨List.mem_of_getElem? mm_k106, List.forall_mem_cons.mpr ⟨List.mem_of_getElem? mm_k107, List.forall_mem_cons.mpr ⟨List.mem_of_getElem? mm_k108, List.forall_mem_cons.mpr ⟨List.mem_of_getElem? mm_k109, List.forall_mem_cons.mpr ⟨List.mem_of_getElem? mm_k110, List.forall_mem_cons.mpr ⟨List.mem_of_getElem? mm_k111, List.forall_mem_cons.mpr ⟨List.mem_of_getElem? mm_k112, List.forall_mem_cons.mpr ⟨List.mem_of_getElem? mm_k113, List.forall_mem_cons.mpr ⟨List.mem_of_getElem? mm_k114, List.forall_mem_cons.mpr ⟨List.mem_of_getElem? mm_k115, List.forall_mem_cons.mpr ⟨List.mem_of_getElem? mm_k116, List.forall_mem_cons.mpr ⟨List.mem_of_getElem? mm_k117, List.forall_mem_cons.mpr ⟨List.mem_of_getElem? mm_k118, List.forall_mem_cons.mpr ⟨List.mem_of_getElem? mm_k119, fun _ h => absurd h List.not_mem_nil⟩⟩⟩⟩⟩⟩⟩⟩⟩⟩⟩⟩⟩⟩⟩⟩⟩⟩⟩⟩⟩⟩⟩⟩⟩⟩⟩⟩⟩⟩⟩⟩⟩⟩⟩⟩⟩⟩⟩⟩
theorem mm_kk3 : ∀ me ∈ mm_MT3, mm_codeW me ∈ lw_tbl := List.forall_mem_cons.mpr ⟨List.mem_of_getElem? mm_k120, List.forall_mem_cons.mpr ⟨List.mem_of_getElem? mm_k121, List.forall_mem_cons.mpr ⟨List.mem_of_getElem? mm_k122, List.forall_mem_cons.mpr ⟨List.mem_of_getElem? mm_k123, List.forall_mem_cons.mpr ⟨List.mem_of_getElem? mm_k124, List.forall_mem_cons.mpr ⟨List.mem_of_getElem? mm_k125, List.forall_mem_cons.mpr ⟨List.mem_of_getElem? mm_k126, List.forall_mem_cons.mpr ⟨List.mem_of_getElem? mm_k127, List.forall_mem_cons.mpr ⟨List.mem_of_getElem? mm_k128, List.forall_mem_cons.mpr ⟨List.mem_of_getElem? mm_k129, List.forall_mem_cons.mpr ⟨List.mem_of_getElem? mm_k130, List.forall_mem_cons.mpr ⟨List.mem_of_getElem? mm_k131, List.forall_mem_cons.mpr ⟨List.mem_of_getElem? mm_k132, List.forall_mem_cons.mpr ⟨List.mem_of_getElem? mm_k133, List.forall_mem_cons.mpr ⟨List.mem_of_getElem? mm_k134, List.forall_mem_cons.mpr ⟨List.mem_of_getElem? mm_k135, List.forall_mem_cons.mpr ⟨List.mem_of_getElem? mm_k136, List.forall_mem_cons.mpr ⟨List.mem_of_getElem? mm_k137, List.forall_mem_cons.mpr ⟨List.mem_of_getElem? mm_k138, List.forall_mem_cons.mpr ⟨List.mem_of_getElem? mm_k139, List.forall_mem_cons.mpr ⟨List.mem_of_getElem? mm_k140, List.forall_mem_cons.mpr ⟨List.mem_of_getElem? mm_k141, List.forall_mem_cons.mpr ⟨List.mem_of_getElem? mm_k142, List.forall_mem_cons.mpr ⟨List.mem_of_getElem? mm_k143, List.forall_mem_cons.mpr ⟨List.mem_of_getElem? mm_k144, List.forall_mem_cons.mpr ⟨List.mem_of_getElem? mm_k145, List.forall_mem_cons.mpr ⟨List.mem_of_getElem? mm_k146, List.forall_mem_cons.mpr ⟨List.mem_of_getElem? mm_k147, List.forall_mem_cons.mpr ⟨List.mem_of_getElem? mm_k148, List.forall_mem_cons.mpr ⟨List.mem_of_getElem? mm_k149, List.forall_mem_cons.mpr ⟨List.mem_of_getElem? mm_k150, List.forall_mem_cons.mpr ⟨List.mem_of_getElem? mm_k151, List.forall_mem_cons.mpr ⟨List.mem_of_getElem? mm_k152, List.forall_mem_cons.mpr ⟨List.mem_of_getElem? mm_k153, List.forall_mem_cons.mpr ⟨List.mem_of_getElem? mm_k154, List.forall_mem_cons.mpr ⟨List.mem_of_getElem? mm_k155, List.forall_mem_cons.mpr ⟨List.mem_of_getElem? mm_k156, List.forall_mem_cons.mpr ⟨List.mem_of_getElem? mm_k157, List.forall_mem_cons.mpr ⟨List.mem_of_getElem? mm_k158, List.forall_mem_cons.mpr ⟨List.mem_of_getElem? mm_k159, fun _ h => absurd h List.not_mem_nil⟩⟩⟩⟩⟩⟩⟩⟩⟩⟩⟩⟩⟩⟩⟩⟩⟩⟩⟩⟩⟩⟩⟩⟩⟩⟩⟩⟩⟩⟩⟩⟩⟩⟩⟩⟩⟩⟩⟩⟩
theorem mm_kk4 : ∀ me ∈ mm_MT4, mm_codeW me ∈ lw_tbl := List.forall_mem_cons.mpr ⟨List.mem_of_getElem? mm_k160, List.forall_mem_cons.mpr ⟨List.mem_of_getElem? mm_k161, List.forall_mem_cons.mpr ⟨List.mem_of_getElem? mm_k162, List.forall_mem_cons.mpr ⟨List.mem_of_getElem? mm_k163, List.forall_mem_cons.mpr ⟨List.mem_of_getElem? mm_k164, List.forall_mem_cons.mpr ⟨List.mem_of_getElem? mm_k165, List.forall_mem_cons.mpr ⟨List.mem_of_getElem? mm_k166, List.forall_mem_cons.mpr ⟨List.mem_of_getElem? mm_k167, List.forall_mem_cons.mpr ⟨List.mem_of_getElem? mm_k168, List.forall_mem_cons.mpr ⟨List.mem_of_getElem? mm_k169, List.forall_mem_cons.mpr ⟨List.mem_of_getElem? mm_k170, List.forall_mem_cons.mpr ⟨List.mem_of_getElem? mm_k171, List.forall_mem_cons.mpr ⟨List.mem_of_getElem? mm_k172, List.forall_mem_cons.mpr ⟨List.mem_of_getElem? mm_k173, List.forall_mem_cons.mpr ⟨List.mem_of_getElem? mm_k174, List.forall_mem_cons.mpr ⟨List.mem_of_getElem? mm_k175, List.forall_mem_cons.mpr ⟨List.mem_of_getElem? mm_k176, List.forall_mem_cons.mpr ⟨List.mem_of_getElem? mm_k177, List.forall_mem_cons.mpr ⟨List.mem_of_getElem? mm_k178, List.forall_mem_cons.mpr ⟨List.mem_of_getElem? mm_k179, List.forall_mem_cons.mpr ⟨List.mem_of_getElem? mm_k180, List.forall_mem_cons.mpr ⟨List.mem_of_getElem? mm_k181, List.forall_mem_cons.mpr ⟨List.mem_of_getElem? mm_k182, List.forall_mem_cons.mpr ⟨List.mem_of_getElem? mm_k183, List.forall_mem_cons.mpr ⟨List.mem_of_getElem? mm_k184, List.forall_mem_cons.mpr ⟨List.mem_of_getElem? mm_k185, List.forall_mem_cons.mpr ⟨List.mem_of_getElem? mm_k186, List.forall_mem_cons.mpr ⟨List.mem_of_getElem? mm_k187, List.forall_mem_cons.mpr ⟨List.mem_of_getElem? mm_k188, List.forall_mem_cons.mpr ⟨List.mem_of_getElem? mm_k189, List.forall_mem_cons.mpr ⟨List.mem_of_getElem? mm_k190, List.forall_mem_cons.mpr ⟨List.mem_of_getElem? mm_k191, List.forall_mem_cons.mpr ⟨List.mem_of_getElem? mm_k192, List.forall_mem_cons.mpr ⟨List.mem_of_getElem? mm_k193, List.forall_mem_cons.mpr ⟨List.mem_of_getElem? mm_k194, List.forall_mem_cons.mpr ⟨List.mem_of_getElem? mm_k195, List.forall_mem_cons.mpr ⟨List.mem_of_getElem? mm_k196, List.forall_mem_cons.mpr ⟨List.mem_of_getElem? mm_k197, List.forall_mem_cons.mpr ⟨List.mem_of_getElem? mm_k198, List.forall_mem_cons.mpr ⟨List.mem_of_getElem? mm_k199, fun _ h => absurd h List.not_mem_nil⟩⟩⟩⟩⟩⟩⟩⟩⟩⟩⟩⟩⟩⟩⟩⟩⟩⟩⟩⟩⟩⟩⟩⟩⟩⟩⟩⟩⟩⟩⟩⟩⟩⟩⟩⟩⟩⟩⟩⟩
theorem mm_kk5 : ∀ me ∈ mm_MT5, mm_codeW me ∈ lw_tbl := List.forall_mem_cons.mpr ⟨List.mem_of_getElem? mm_k200, List.forall_mem_cons.mpr ⟨List.mem_of_getElem? mm_k201, List.forall_mem_cons.mpr ⟨List.mem_of_getElem? mm_k202, List.forall_mem_cons.mpr ⟨List.mem_of_getElem? mm_k203, List.forall_mem_cons.mpr ⟨List.mem_of_getElem? mm_k204, List.forall_mem_cons.mpr ⟨List.mem_of_getElem? mm_k205, List.forall_mem_cons.mpr ⟨List.mem_of_getElem? mm_k206, List.forall_mem_cons.mpr ⟨List.mem_of_getElem? mm_k207, List.forall_mem_cons.mpr ⟨List.mem_of_getElem? mm_k208, List.forall_mem_cons.mpr ⟨List.mem_of_getElem? mm_k209, List.forall_mem_cons.mpr ⟨List.mem_of_getElem? mm_k210, List.forall_mem_cons.mpr ⟨List.mem_of_getElem? mm_k211, List.forall_mem_cons.mpr ⟨List.mem_of_getElem? mm_k212, List.forall_mem_cons.mpr ⟨List.mem_of_getElem? mm_k213, List.forall_mem_cons.mpr ⟨List.mem_of_getElem? mm_k214, List.forall_mem_cons.mpr ⟨List.mem_of_getElem? mm_k215, List.forall_mem_cons.mpr ⟨List.mem_of_getElem? mm_k216, List.forall_mem_cons.mpr ⟨List.mem_of_getElem? mm_k217, List.forall_mem_cons.mpr ⟨List.mem_of_getElem? mm_k218, List.forall_mem_cons.mpr ⟨List.mem_of_getElem? mm_k219, List.forall_mem_cons.mpr ⟨List.mem_of_getElem? mm_k220, List.forall_mem_cons.mpr ⟨List.mem_of_getElem? mm_k221, List.forall_mem_cons.mpr ⟨List.mem_of_getElem? mm_k222, List.forall_mem_cons.mpr ⟨List.mem_of_getElem? mm_k223, fun _ h => absurd h List.not_mem_nil⟩⟩⟩⟩⟩⟩⟩⟩⟩⟩⟩⟩⟩⟩⟩⟩⟩⟩⟩⟩⟩⟩⟩⟩
theorem mm_codes : ∀ me ∈ mm_MT, mm_codeW me ∈ lw_tbl := List.forall_mem_append.mpr ⟨mm_kk0, List.forall_mem_append.mpr ⟨mm_kk1, List.forall_mem_append.mpr ⟨mm_kk2, List.forall_mem_append.mpr ⟨mm_kk3, List.forall_mem_append.mpr ⟨mm_kk4, mm_kk5⟩⟩⟩⟩⟩
end
section
/-! The tables' words, by their places in lw_tbl -/
def mm_gw : List Cond := lw_tbl.filter goodWord
def mm_odd (w : Cond) : Bool := match w with
  | .methodLinkNest _ _ _ _ => true
  | .fieldLinkNest _ _ _ _ _ _ => true
  | .declares _ => true
  | .castable _ _ => true
  | _ => false
def mm_nest : List Cond := lw_tbl.filter mm_odd
def mm_at (i : Nat) (w : Cond) : Bool := decide (lw_tbl[i]? = some w)
theorem mm_at_in {i : Nat} {w : Cond} (h : mm_at i w = true) : w ∈ lw_tbl := List.mem_of_getElem? (of_decide_eq_true h)
theorem mm_at_gw {i : Nat} {w : Cond} (h : mm_at i w = true) (g : goodWord w = true) : w ∈ mm_gw := List.mem_filter.mpr ⟨mm_at_in h, g⟩
theorem mm_at_nest {i : Nat} {w : Cond} (h : mm_at i w = true) (g : mm_odd w = true) : w ∈ mm_nest := List.mem_filter.mpr ⟨mm_at_in h, g⟩
theorem mm_gw_in {w : Cond} (h : w ∈ mm_gw) : w ∈ lw_tbl := (List.mem_filter.mp h).1
theorem mm_gw_good {w : Cond} (h : w ∈ mm_gw) : goodWord w = true := (List.mem_filter.mp h).2
/-- of each method: static, the place of that word (or instanceMethod), of selects, of initialized -/
def mm_MP0 : List (Bool × Nat × Nat × Nat) := [(false, 203, 0, 188), (false, 211, 0, 189), (false, 226, 0, 190), (false, 264, 265, 188), (true, 268, 0, 192), (false, 272, 0, 189), (false, 276, 1, 189), (false, 279, 280, 188), (true, 283, 0, 188), (false, 286, 287, 188), (false, 292, 2, 190), (false, 299, 3, 190), (false, 304, 0, 194), (false, 309, 4, 189), (false, 342, 5, 194), (false, 346, 6, 194), (false, 350, 7, 194), (false, 354, 8, 194), (false, 424, 10, 194), (false, 428, 11, 194), (false, 432, 12, 190), (false, 436, 13, 190), (false, 440, 14, 194), (false, 444, 15, 194), (false, 448, 16, 194), (false, 452, 17, 194), (false, 456, 18, 194), (true, 459, 0, 192), (false, 463, 19, 194), (false, 467, 20, 194), (false, 471, 21, 194), (false, 475, 22, 194), (false, 479, 23, 194), (true, 482, 0, 192), (false, 486, 24, 194), (false, 490, 25, 194), (false, 494, 26, 194), (false, 498, 27, 194), (false, 502, 28, 194), (false, 506, 29, 194), (false, 510, 30, 194), (false, 514, 31, 194), (false, 518, 32, 194), (false, 522, 33, 194), (false, 526, 34, 194), (false, 530, 35, 194), (false, 534, 36, 194), (false, 538, 37, 194), (false, 542, 38, 194), (false, 546, 39, 194), (false, 550, 40, 194), (false, 554, 41, 194), (false, 558, 42, 194), (false, 562, 43, 194), (false, 566, 44, 194), (false, 570, 45, 194), (false, 574, 46, 194), (false, 578, 47, 194), (false, 582, 48, 194), (true, 585, 0, 194)]
def mm_MP1 : List (Bool × Nat × Nat × Nat) := [(false, 589, 49, 194), (false, 593, 50, 194), (false, 597, 51, 194), (false, 601, 52, 194), (false, 605, 53, 194), (false, 609, 54, 194), (false, 613, 55, 194), (false, 617, 56, 194), (true, 620, 0, 192), (false, 624, 57, 194), (false, 628, 58, 194), (false, 632, 59, 194), (false, 636, 60, 194), (false, 640, 61, 194), (false, 644, 62, 194), (false, 648, 63, 194), (false, 652, 64, 194), (false, 656, 65, 194), (false, 660, 66, 194), (false, 664, 67, 194), (false, 668, 68, 194), (false, 672, 69, 194), (false, 676, 70, 194), (false, 680, 71, 194), (false, 684, 72, 194), (false, 688, 73, 194), (true, 691, 0, 192), (false, 697, 74, 194), (false, 701, 75, 194), (false, 705, 76, 194), (false, 709, 77, 194), (false, 713, 78, 194), (false, 717, 79, 194), (false, 721, 80, 194), (false, 725, 81, 194), (false, 729, 82, 194), (true, 732, 0, 192), (false, 736, 83, 194), (false, 740, 84, 194), (false, 744, 85, 194), (false, 748, 86, 194), (false, 752, 87, 194), (false, 756, 88, 194), (false, 760, 89, 194), (false, 764, 90, 194), (false, 768, 91, 194), (true, 771, 0, 192), (false, 775, 92, 190), (false, 779, 93, 190), (false, 783, 94, 190), (false, 787, 95, 190), (false, 791, 96, 190), (false, 795, 97, 190), (false, 798, 799, 188), (false, 802, 803, 188), (true, 806, 0, 187), (false, 810, 811, 188), (false, 815, 98, 190), (false, 835, 99, 190), (false, 839, 100, 190)]
def mm_MP2 : List (Bool × Nat × Nat × Nat) := [(false, 845, 101, 190), (true, 850, 0, 187), (false, 853, 854, 188), (false, 860, 0, 191), (false, 945, 946, 191), (false, 949, 950, 191), (true, 953, 0, 191), (false, 956, 957, 191), (false, 961, 962, 191), (false, 965, 966, 191), (false, 970, 102, 191), (false, 974, 103, 191), (false, 978, 104, 191), (false, 982, 105, 191), (false, 986, 106, 191), (false, 990, 107, 191), (false, 994, 108, 191), (false, 998, 109, 191), (true, 1001, 0, 191), (false, 1005, 110, 191), (false, 1009, 111, 191), (false, 1013, 112, 191), (true, 1016, 0, 191), (false, 1020, 113, 191), (false, 1024, 114, 191), (false, 1028, 115, 191), (false, 1032, 116, 191), (false, 1036, 117, 191), (true, 1039, 0, 191), (false, 1043, 118, 191), (false, 1047, 119, 191), (false, 1051, 120, 191), (false, 1055, 121, 191), (false, 1059, 122, 191), (false, 1063, 123, 191), (false, 1067, 124, 191), (false, 1071, 125, 191), (false, 1075, 126, 191), (false, 1079, 127, 191), (false, 1083, 128, 191), (false, 1087, 129, 191), (false, 1091, 130, 191), (false, 1095, 131, 191), (true, 1098, 0, 191), (false, 1102, 132, 191), (false, 1106, 133, 191), (false, 1110, 134, 191), (false, 1114, 135, 191), (false, 1118, 136, 191), (false, 1122, 137, 191), (false, 1126, 138, 191), (false, 1130, 139, 191), (false, 1134, 140, 191), (false, 1138, 141, 191), (false, 1142, 142, 191), (false, 1146, 143, 191), (false, 1150, 144, 191), (false, 1154, 145, 191), (false, 1158, 146, 191), (false, 1162, 147, 191)]
def mm_MP3 : List (Bool × Nat × Nat × Nat) := [(false, 1166, 148, 191), (false, 1170, 149, 191), (false, 1174, 150, 191), (false, 1178, 151, 191), (false, 1182, 152, 191), (false, 1186, 153, 191), (false, 1190, 154, 191), (true, 1193, 0, 191), (true, 1196, 0, 191), (false, 1200, 155, 191), (false, 1204, 156, 191), (false, 1208, 157, 191), (false, 1212, 158, 191), (false, 1216, 159, 191), (false, 1220, 160, 191), (false, 1224, 161, 191), (false, 1228, 162, 191), (false, 1232, 163, 191), (false, 1236, 164, 191), (false, 1240, 165, 191), (false, 1244, 166, 191), (false, 1248, 167, 191), (false, 1252, 168, 191), (false, 1256, 169, 191), (false, 1260, 170, 191), (false, 1264, 171, 191), (false, 1268, 172, 191), (false, 1272, 173, 191), (false, 1276, 174, 191), (false, 1280, 175, 191), (false, 1284, 176, 191), (false, 1288, 177, 191), (false, 1292, 178, 191), (false, 1296, 179, 191), (false, 1300, 180, 191), (false, 1304, 181, 191), (false, 1308, 182, 191), (false, 1312, 183, 191), (false, 1316, 184, 191), (false, 1320, 185, 191), (false, 1323, 1324, 191), (false, 1327, 1328, 191), (false, 1332, 186, 191), (false, 1335, 1336, 191)]
def mm_MP : List (Bool × Nat × Nat × Nat) := mm_MP0 ++ (mm_MP1 ++ (mm_MP2 ++ (mm_MP3)))
def mm_chkM (q : mm_Me × (Bool × Nat × Nat × Nat)) : Bool :=
  (if q.2.1 then mm_at q.2.2.1 (.static q.1.2.1) else mm_at q.2.2.1 (.instanceMethod q.1.2.1)) &&
  (q.2.1 || decide (q.1.2.1.name = "<init>") || mm_at q.2.2.2.1 (.selects q.1.1 q.1.2.1 q.1.2.1)) && mm_at q.2.2.2.2 (.initialized q.1.1) &&
  decide (q.1.2.1.cls = q.1.1) && plainName q.1.1 && decide (q.1.1 ≠ "java/lang/invoke/MethodHandle") && decide (q.1.1 ≠ "java/lang/invoke/VarHandle") &&
  decide ((parseMethodDescriptor q.1.2.1.desc).map (fun d => d.parameters.length) = some q.1.2.2.2.2.2.2.1) && decide (q.1.2.2.2.1 ≤ 14)
theorem mm_chkM_len : mm_MT.length = mm_MP.length := by decide +kernel
set_option maxRecDepth 100000 in
theorem mm_chkM_all : (mm_MT.zip mm_MP).all mm_chkM = true := by decide +kernel
def mm_chkF (e : String × Nat × Bool × Nat × Nat × Nat) : Bool := match mm_cl[e.2.2.2.1]? with
  | some (C, T, N) => decide (e.2.2.2.2.1 < N) && decide ((T e.2.2.2.2.1).1 = C) && (if e.2.2.1 then mm_at e.2.2.2.2.2 (.fieldLinkNest e.1 e.2.1 C (T e.2.2.2.2.1).2.1 (T e.2.2.2.2.1).2.2.1 "TreeBuilder") else mm_at e.2.2.2.2.2 (.fieldLink e.1 e.2.1 C (T e.2.2.2.2.1).2.1 (T e.2.2.2.2.1).2.2.1))
  | none => false
theorem mm_chkF_all : mm_FT.all mm_chkF = true := by decide +kernel
/-- of a call: what stands at its place, by its kind; whether the method is static, a constructor, has a table -/
def mm_chkC (e : String × Nat × Nat × Nat × Nat) : Bool :=
  if e.2.2.1 = 10 then mm_at e.2.2.2.2 (.methodLink e.1 e.2.1 Lib.objectInit)
  else if e.2.2.1 = 11 then mm_at e.2.2.2.2 (.methodLink e.1 e.2.1 Lib.Math.max.name)
  else match mm_MT[e.2.2.2.1]?, mm_MP[e.2.2.2.1]? with
    | some mf, some q => (if e.2.2.1 = 1 ∨ e.2.2.1 = 3 ∨ e.2.2.1 = 5 then mm_at e.2.2.2.2 (.methodLinkNest e.1 e.2.1 mf.2.1 "TreeBuilder") else mm_at e.2.2.2.2 (.methodLink e.1 e.2.1 mf.2.1)) &&
      (if e.2.2.1 = 2 ∨ e.2.2.1 = 3 ∨ e.2.2.1 = 9 then q.1 else !q.1) && (if e.2.2.1 = 4 ∨ e.2.2.1 = 5 then decide (mf.2.1.name = "<init>") && decide (mf.2.2.2.2.1 = none) else decide (mf.2.1.name ≠ "<init>")) &&
      (if e.2.2.1 = 8 ∨ e.2.2.1 = 9 then !decide (mf.2.2.2.2.2.1 = []) else decide (mf.2.2.2.2.2.1 = [])) && decide (e.2.2.1 < 10)
    | _, _ => false
set_option maxRecDepth 100000 in
theorem mm_chkC_all : mm_CT.all mm_chkC = true := by decide +kernel
theorem mm_objI : mm_at 206 (.instanceMethod Lib.objectInit) = true := by decide +kernel
theorem mm_objC : mm_at 207 (.code Lib.objectInit ⟨#[0xb1]⟩ 1 none) = true := by decide +kernel
theorem mm_maxS : mm_at 295 (.static Lib.Math.max.name) = true := by decide +kernel
theorem mm_maxC : mm_at 296 (.code Lib.Math.max.name Lib.Math.max.code 2 (some .int)) = true := by decide +kernel
theorem mm_maxI : mm_at 193 (.initialized "java/lang/Math") = true := by decide +kernel
def mm_chkN (e : String × Nat × Nat × Nat) : Bool := match mm_cl[e.2.2.1]? with
  | some (C, _, _) => mm_at e.2.2.2 (.classLink e.1 e.2.1 C)
  | none => false
theorem mm_chkN_all : mm_NT.all mm_chkN = true := by decide +kernel
def mm_chkX (e : String × Nat × String × Nat) : Bool := mm_at e.2.2.2 (.classLink e.1 e.2.1 e.2.2.1) && decide (e.2.1 ≠ 0)
theorem mm_chkX_all : mm_XT.all mm_chkX = true := by decide +kernel
theorem mm_chkI_all : mm_IT.all (fun e => mm_at e.2.2.2 (.constant e.1 e.2.1 e.2.2.1)) = true := by decide +kernel
theorem mm_chkJ_all : mm_JT.all (fun e => mm_at e.2.2.2 (.constantLong e.1 e.2.1 e.2.2.1)) = true := by decide +kernel
theorem mm_lay0 : ((List.range 9).zip [321, 323, 325, 327, 329, 331, 333, 335, 337]).all (fun q => mm_at q.2 (u_lay RX1 TX1 q.1)) = true := by decide +kernel
theorem mm_ins0 : mm_at 302 (.instantiable RX1 9) = true := by decide +kernel
theorem mm_ini0 : mm_at 194 (.initialized RX1) = true := by decide +kernel
theorem mm_lay1 : ((List.range 2).zip [217, 219]).all (fun q => mm_at q.2 (u_lay RX2 TX2 q.1)) = true := by decide +kernel
theorem mm_ins1 : mm_at 209 (.instantiable RX2 2) = true := by decide +kernel
theorem mm_ini1 : mm_at 189 (.initialized RX2) = true := by decide +kernel
theorem mm_lay2 : ((List.range 8).zip [238, 240, 242, 244, 246, 248, 250, 252]).all (fun q => mm_at q.2 (u_lay RX3 TX3 q.1)) = true := by decide +kernel
theorem mm_ins2 : mm_at 224 (.instantiable RX3 8) = true := by decide +kernel
theorem mm_ini2 : mm_at 190 (.initialized RX3) = true := by decide +kernel
theorem mm_lay3 : ((List.range 2).zip [258, 260]).all (fun q => mm_at q.2 (u_lay RX5 TX5 q.1)) = true := by decide +kernel
theorem mm_ins3 : mm_at 201 (.instantiable RX5 2) = true := by decide +kernel
theorem mm_ini3 : mm_at 188 (.initialized RX5) = true := by decide +kernel
theorem mm_lay4 : ((List.range 26).zip [890, 892, 894, 896, 898, 900, 902, 904, 906, 908, 910, 912, 914, 916, 918, 920, 922, 924, 926, 928, 930, 932, 934, 936, 938, 940]).all (fun q => mm_at q.2 (u_lay RX6 TX6 q.1)) = true := by decide +kernel
theorem mm_ins4 : mm_at 858 (.instantiable RX6 26) = true := by decide +kernel
theorem mm_ini4 : mm_at 191 (.initialized RX6) = true := by decide +kernel
theorem mm_arr_int : mm_at 255 (.arrayClass .int) = true := by decide +kernel
theorem mm_arr_byte : mm_at 222 (.arrayClass .byte) = true := by decide +kernel
theorem mm_arr_boolean : mm_at 943 (.arrayClass .boolean) = true := by decide +kernel
theorem mm_arr_long : mm_at 1339 (.arrayClass .long) = true := by decide +kernel
theorem mm_cast_ISE : mm_at 358 (.castable "java/lang/IllegalStateException" "java/lang/IllegalStateException") = true := by decide +kernel
theorem mm_inix_ISE : mm_at 198 (.initialized "java/lang/IllegalStateException") = true := by decide +kernel
theorem mm_cast_NSE : mm_at 819 (.castable "java/util/NoSuchElementException" "java/util/NoSuchElementException") = true := by decide +kernel
theorem mm_inix_NSE : mm_at 199 (.initialized "java/util/NoSuchElementException") = true := by decide +kernel
end
section
/-! The small machine's values and cells, as the machine has them: at addresses ad. -/
def mm_v (b : Nat) (ad : Nat → Nat) (v : Value) : Value := match v with
  | .ref k => .ref (ad k)
  | .retAddr _ => .ref b
  | w => w
theorem mm_v_cat (b : Nat) (ad : Nat → Nat) (v : Value) : (mm_v b ad v).category = v.category := by cases v <;> rfl
theorem mm_v_sum (b : Nat) (ad : Nat → Nat) (st : List Value) : ((st.map (mm_v b ad)).map fun v => v.category).sum = (st.map fun v => v.category).sum := by
  induction st with
  | nil => rfl
  | cons a r ih => simp only [List.map_cons, List.sum_cons, ih, mm_v_cat]
def mm_ml (b : Nat) (ad : Nat → Nat) (ls : mm_L) : mm_L := ls.map (fun q => (q.1, mm_v b ad q.2))
def mm_re (cy : Nat → ClassId) (b : Nat) (ad : Nat → Nat) (e : mm_E) : va_E := match e with
  | .inl a => .inl (cy a.1, a.2)
  | .inr o => .inr (o.1, o.2.map (mm_v b ad))
def mm_W (cy : Nat → ClassId) (b : Nat) (ad : Nat → Nat) (h : mm_H) : va_W := h.mapIdx (fun k e => (ad k, mm_re cy b ad e))
def mm_wv (n : Nat) (v : Value) : Prop := ∀ k, v = .ref k → k < n
def mm_wl (n : Nat) (st : List Value) : Prop := ∀ v ∈ st, mm_wv n v
def mm_wq (n : Nat) (ls : mm_L) : Prop := ∀ q ∈ ls, mm_wv n q.2
def mm_wh (h : mm_H) : Prop := ∀ o : Nat × List Value, (Sum.inr o : mm_E) ∈ h → mm_wl h.length o.2
def mm_ag (n : Nat) (ad ad' : Nat → Nat) : Prop := ∀ k, k < n → ad' k = ad k
theorem mm_ag.rf {n : Nat} {ad : Nat → Nat} : mm_ag n ad ad := fun _ _ => rfl
theorem mm_wl_cons {n : Nat} {v : Value} {r : List Value} : mm_wl n (v :: r) ↔ mm_wv n v ∧ mm_wl n r := by
  unfold mm_wl
  simp [List.forall_mem_cons]
theorem mm_wv_int {n : Nat} {x : Int32} : mm_wv n (.int x) := fun _ h => by cases h
theorem mm_wv_long {n : Nat} {x : Int64} : mm_wv n (.long x) := fun _ h => by cases h
theorem mm_wv_ret {n a : Nat} : mm_wv n (.retAddr a) := fun _ h => by cases h
theorem mm_wv_null {n : Nat} : mm_wv n .null := fun _ h => by cases h
theorem mm_wv.mono {n n' : Nat} {v : Value} (h : mm_wv n v) (hn : n ≤ n') : mm_wv n' v := fun k e => Nat.lt_of_lt_of_le (h k e) hn
theorem mm_wl.mono {n n' : Nat} {st : List Value} (h : mm_wl n st) (hn : n ≤ n') : mm_wl n' st := fun v hv => (h v hv).mono hn
theorem mm_wq.mono {n n' : Nat} {ls : mm_L} (h : mm_wq n ls) (hn : n ≤ n') : mm_wq n' ls := fun v hv => (h v hv).mono hn
theorem mm_v_ag {n b : Nat} {ad ad' : Nat → Nat} (hag : mm_ag n ad ad') {v : Value} (h : mm_wv n v) : mm_v b ad' v = mm_v b ad v := by
  cases v with
  | ref k => simp only [mm_v]; rw [hag k (h k rfl)]
  | _ => rfl
theorem mm_map_ag {n b : Nat} {ad ad' : Nat → Nat} (hag : mm_ag n ad ad') {st : List Value} (h : mm_wl n st) : st.map (mm_v b ad') = st.map (mm_v b ad) :=
  List.map_congr_left fun v hv => mm_v_ag hag (h v hv)
theorem mm_ml_ag {n b : Nat} {ad ad' : Nat → Nat} (hag : mm_ag n ad ad') {ls : mm_L} (h : mm_wq n ls) : mm_ml b ad' ls = mm_ml b ad ls :=
  List.map_congr_left fun q hq => by rw [mm_v_ag hag (h q hq)]
theorem mm_re_ag {n b : Nat} {cy : Nat → ClassId} {ad ad' : Nat → Nat} (hag : mm_ag n ad ad') {e : mm_E} (h : ∀ o, e = .inr o → mm_wl n o.2) : mm_re cy b ad' e = mm_re cy b ad e := by
  cases e with
  | inl a => rfl
  | inr o => simp only [mm_re]; rw [mm_map_ag hag (h o rfl)]
theorem mm_lk_in {ls : mm_L} {i : Nat} {v : Value} (h : mm_lk ls i = some v) : (i, v) ∈ ls := by
  unfold mm_lk at h
  cases hf : ls.find? (fun q => q.1 == i) with
  | none => rw [hf] at h; cases h
  | some q =>
    rw [hf] at h
    have h1 := List.find?_some hf
    have h2 := List.mem_of_find?_eq_some hf
    have h3 : q.2 = v := Option.some.inj h
    have h4 : q.1 = i := by simpa using h1
    rw [← h3, ← h4]
    exact h2
theorem mm_lk_has {lsr : Array Slot} {nL b : Nat} {ad : Nat → Nat} {ls : mm_L} {i : Nat} {v : Value} (h : lv_has lsr nL (mm_ml b ad ls)) (hk : mm_lk ls i = some v) : lsr[i]? = some (.val (mm_v b ad v)) :=
  h.2.2 (i, mm_v b ad v) (List.mem_map.mpr ⟨(i, v), mm_lk_in hk, rfl⟩)
theorem mm_lk_w {n : Nat} {ls : mm_L} {i : Nat} {v : Value} (h : mm_wq n ls) (hk : mm_lk ls i = some v) : mm_wv n v := h (i, v) (mm_lk_in hk)
theorem mm_s1_map {b : Nat} {ad : Nat → Nat} {ls : mm_L} {i : Nat} {v : Value} : (i, mm_v b ad v) :: (mm_ml b ad ls).filter (fun q => !(q.1 == i) && !(q.1 + 1 == i && q.2.category == 2)) = mm_ml b ad (mm_s1 ls i v) := by
  unfold mm_s1 mm_ml
  rw [List.map_cons, List.filter_map]
  congr 2
  refine List.filter_congr fun q _ => ?_
  simp only [Function.comp, mm_v_cat]
theorem mm_s1_w {n : Nat} {ls : mm_L} {i : Nat} {v : Value} (h : mm_wq n ls) (hv : mm_wv n v) : mm_wq n (mm_s1 ls i v) := by
  intro q hq
  rcases List.mem_cons.mp hq with e | e
  · rw [e]; exact hv
  · exact h q (List.mem_filter.mp e).1
theorem mm_un_w {n : Nat} {ls : mm_L} {i : Nat} (h : mm_wq n ls) : mm_wq n (mm_un ls i) := fun q hq => h q (List.mem_filter.mp hq).1
theorem mm_un_map {b : Nat} {ad : Nat → Nat} {ls : mm_L} {i : Nat} : (mm_ml b ad ls).filter (fun q => !(q.1 == i) && !(q.1 + 1 == i && q.2.category == 2)) = mm_ml b ad (mm_un ls i) := by
  unfold mm_un mm_ml
  rw [List.filter_map]
  congr 1
  refine List.filter_congr fun q _ => ?_
  simp only [Function.comp, mm_v_cat]
theorem mm_W_get {cy : Nat → ClassId} {b : Nat} {ad : Nat → Nat} {h : mm_H} {k : Nat} {e : mm_E} (hk : h[k]? = some e) : (mm_W cy b ad h)[k]? = some (ad k, mm_re cy b ad e) := by
  unfold mm_W
  rw [List.getElem?_mapIdx, hk]
  rfl
theorem mm_W_set {cy : Nat → ClassId} {b : Nat} {ad : Nat → Nat} {h : mm_H} {k : Nat} {e : mm_E} : (mm_W cy b ad h).set k (ad k, mm_re cy b ad e) = mm_W cy b ad (h.set k e) := by
  apply List.ext_getElem?
  intro j
  unfold mm_W
  rw [List.getElem?_set, List.getElem?_mapIdx, List.getElem?_mapIdx, List.getElem?_set, List.length_mapIdx]
  by_cases hjk : k = j
  · subst hjk
    rw [if_pos rfl, if_pos rfl]
    by_cases hl : k < h.length
    · rw [if_pos hl, if_pos hl]; rfl
    · rw [if_neg hl, if_neg hl]; rfl
  · rw [if_neg hjk, if_neg hjk]
def mm_ext (n q : Nat) (ad : Nat → Nat) : Nat → Nat := fun k => if k = n then q else ad k
theorem mm_ext_ag {n q : Nat} {ad : Nat → Nat} : mm_ag n ad (mm_ext n q ad) := fun k hk => if_neg (Nat.ne_of_lt hk)
theorem mm_W_ag {cy : Nat → ClassId} {b : Nat} {ad ad' : Nat → Nat} {h : mm_H} (hag : mm_ag h.length ad ad') (hw : mm_wh h) : mm_W cy b ad' h = mm_W cy b ad h := by
  apply List.ext_getElem?
  intro j
  unfold mm_W
  rw [List.getElem?_mapIdx, List.getElem?_mapIdx]
  cases hj : h[j]? with
  | none => rfl
  | some e =>
    have hl : j < h.length := (List.getElem?_eq_some_iff.mp hj).1
    show some (ad' j, mm_re cy b ad' e) = some (ad j, mm_re cy b ad e)
    rw [hag j hl, mm_re_ag hag (fun o ho => hw o (by rw [← ho]; exact List.mem_of_getElem? hj))]
theorem mm_W_push {cy : Nat → ClassId} {b q : Nat} {ad : Nat → Nat} {h : mm_H} {e : mm_E} (hw : mm_wh h) (he : ∀ o, e = .inr o → mm_wl h.length o.2) : mm_W cy b ad h ++ [(q, mm_re cy b ad e)] = mm_W cy b (mm_ext h.length q ad) (h ++ [e]) := by
  have h1 : mm_W cy b (mm_ext h.length q ad) (h ++ [e]) = mm_W cy b (mm_ext h.length q ad) h ++ [(mm_ext h.length q ad h.length, mm_re cy b (mm_ext h.length q ad) e)] := by
    unfold mm_W
    rw [List.mapIdx_append]
    simp
  rw [h1, mm_W_ag mm_ext_ag hw, mm_re_ag mm_ext_ag he]
  simp [mm_ext]
theorem mm_wh_set {h : mm_H} {k : Nat} {e : mm_E} (hw : mm_wh h) (he : ∀ o, e = .inr o → mm_wl h.length o.2) : mm_wh (h.set k e) := by
  intro o ho
  rw [List.length_set]
  rcases List.mem_or_eq_of_mem_set ho with h1 | h1
  · exact hw o h1
  · exact he o h1.symm
theorem mm_wh_push {h : mm_H} {e : mm_E} (hw : mm_wh h) (he : ∀ o, e = .inr o → mm_wl h.length o.2) : mm_wh (h ++ [e]) := by
  intro o ho
  have hn : h.length ≤ (h ++ [e]).length := by simp
  rcases List.mem_append.mp ho with h1 | h1
  · exact (hw o h1).mono hn
  · exact (he o (List.mem_singleton.mp h1).symm).mono hn
theorem mm_wl_set {n k : Nat} {fs : List Value} {v : Value} (h : mm_wl n fs) (hv : mm_wv n v) : mm_wl n (fs.set k v) := by
  intro w hw
  rcases List.mem_or_eq_of_mem_set hw with h1 | h1
  · exact h w h1
  · rw [h1]; exact hv
theorem mm_fresh_w {n ci N : Nat} : mm_wl n (mm_fresh ci N) := by
  intro v hv k hk
  obtain ⟨j, -, hj⟩ := List.mem_map.mp hv
  rw [hk] at hj
  cases hty : mm_tyT ci j <;> rw [hty] at hj <;> cases hj
theorem mm_fresh_map {b ci N : Nat} {ad : Nat → Nat} : (mm_fresh ci N).map (mm_v b ad) = mm_fresh ci N := by
  unfold mm_fresh
  rw [List.map_map]
  refine List.map_congr_left fun j _ => ?_
  simp only [Function.comp]
  cases mm_tyT ci j <;> rfl
/-- the state of the walk -/
def mm_Rp (D : va_G) (cy : Nat → ClassId) (A : Nat → Prop) (b : Nat) (H0 : Heap) (nL : Nat) (ad : Nat → Nat) (h : mm_H) (ls : mm_L) (st : List Value) (H : Heap) (locs : List Loc) (lsr : Array Slot) : Prop :=
  va_P D mm_cl (mm_W cy b ad h) H ∧ va_D A (mm_W cy b ad h) ∧ va_S A H0 H locs ∧ lv_has lsr nL (mm_ml b ad ls) ∧ mm_wh h ∧ mm_wq h.length ls ∧ mm_wl h.length st
abbrev mm_tys (cy : Nat → ClassId) : List (ClassId × FieldType) := [(cy 0, .int), (cy 1, .byte), (cy 2, .boolean), (cy 3, .long)]
def mm_str : List (String × Nat × String) := [(RX1, 38, "no program has this token here"), (RX5, 71, "there is no such node"), (RX5, 92, "there is no such what"), (RX5, 94, "there is no such child")]
/-- what the tables and the old heap say, at a state U with heap H -/
def mm_G (D : va_G) (cy : Nat → ClassId) (A : Nat → Prop) (b L : Nat) (xs : Nat → Int32) (U : State) (H : Heap) : Prop :=
  va_K D mm_cl (mm_tys cy) U ∧ (∀ w ∈ mm_nest, va_Nw w U) ∧ (∀ q ∈ mm_str, ∃ a, vk_R q.1 q.2.1 q.2.2 a U) ∧ vx_Zq Bundle.tN "UNASSIGNED_STACK" Bundle.steD A U H ∧ vx_Zq Bundle.tN "SUPPRESSED_SENTINEL" Bundle.listD A U H ∧ va_X b L xs U H ∧ ¬ A b ∧ b < H.size
theorem mm_cast_moved {u U : State} (hvm : u.vm.Alike U.vm) {X Y : String} (h : va_Nw (.castable X Y) u) : va_Nw (.castable X Y) U := by
  obtain ⟨c3, c4, h3, h4, ha⟩ := Cond.castable_spec h
  show (Cond.castable X Y).before #[] U = true
  have g3 : U.vm.findClass X = some c3 := by rw [hvm.findClass]; exact h3
  have g4 : U.vm.findClass Y = some c4 := by rw [hvm.findClass]; exact h4
  have g5 : U.vm.assignable c3 c4 = true := by rw [hvm.assignable]; exact ha
  simp [Cond.before, Cond.holds, Cond.value, g3, g4, g5]
theorem mm_nest_warm {s U : State} (hW : s.WarmedH U.vm) {w : Cond} (hw : w ∈ mm_nest) (h : va_Nw w s) : va_Nw w U := by
  have ho : mm_odd w = true := (List.mem_filter.mp hw).2
  cases w with
  | methodLinkNest a i x h' => exact va_Nw.warmM hW h
  | fieldLinkNest a i b' n d h' => exact va_Nw.warmF hW h
  | declares x => exact va_Nw.warmD hW h
  | castable X Y => exact mm_cast_moved hW.alike h
  | _ => cases ho
theorem mm_nest_same {u U : State} (hv : u.vm = U.vm) {w : Cond} (hw : w ∈ mm_nest) (h : va_Nw w u) : va_Nw w U := by
  have ho : mm_odd w = true := (List.mem_filter.mp hw).2
  cases w with
  | methodLinkNest a i x h' => exact va_Nw.same rfl hv h
  | fieldLinkNest a i b' n d h' => exact va_Nw.same rfl hv h
  | declares x => exact va_Nw.same rfl hv h
  | castable X Y => exact va_Nw.same rfl hv h
  | _ => cases ho
/-- at a later state of the walk -/
theorem mm_G.at {D : va_G} {cy : Nat → ClassId} {A : Nat → Prop} {b L : Nat} {xs : Nat → Int32} {s U : State} {H0 H : Heap} (h : mm_G D cy A b L xs s H0) (hW : s.WarmedH U.vm) (hz : H0.size ≤ H.size) (hk : ∀ q : Nat, q < H0.size → ¬ A q → H[q]? = H0[q]?) : mm_G D cy A b L xs U H := by
  obtain ⟨h1, h2, h3, h4, h5, h6, h7, h8⟩ := h
  refine ⟨va_K.moved hW.alike h1, fun w hw => mm_nest_warm hW hw (h2 w hw), fun q hq => ?_, (h4.moved hW.alike).kept hk, (h5.moved hW.alike).kept hk, (h6.moved hW.alike).kept (hk b h8 h7), h7, Nat.lt_of_lt_of_le h8 hz⟩
  obtain ⟨a, ha⟩ := h3 q hq
  exact ⟨a, vk_R.warm hW ha⟩
theorem mm_G.call {D : va_G} {cy : Nat → ClassId} {A : Nat → Prop} {b L : Nat} {xs : Nat → Int32} {U : State} {g : JFrame} {mk : MethodId} {a : Array Value} (h : mm_G D cy A b L xs U U.heap) : mm_G D cy A b L xs (U.calling g mk a) (U.calling g mk a).heap := by
  obtain ⟨h1, h2, h3, h4, h5, h6, h7, h8⟩ := h
  have hr : U.vm.Alike (U.calling g mk a).vm := Vm.Alike.refl U.vm
  refine ⟨va_K.moved (u := U) hr h1, fun w hw => mm_nest_same (u := U) (U := U.calling g mk a) rfl hw (h2 w hw), fun q hq => ?_, vx_Zq.moved (u := U) hr h4, vx_Zq.moved (u := U) hr h5, va_X.moved (u := U) hr h6, h7, h8⟩
  obtain ⟨a', ha⟩ := h3 q hq
  exact ⟨a', vk_R.same (u := U) rfl ha⟩
end
section
/-! One instruction of the small machine is one of the machine's. -/
section MMS
variable {p : Program} {l : Launch} {e : Env} {R : Room} {s : State} {m : MethodId} {args : Array Value} {below : List Frame} {meth : Method} {c : Code} {H : Heap} {locs : List Loc} {cells slots : Nat} {Q : State → Prop}
variable {D : va_G} {cy : Nat → ClassId} {A : Nat → Prop} {b L : Nat} {xs : Nat → Int32} {me : mm_Me} {ad : Nat → Nat} {h h' : mm_H} {ls ls' : mm_L} {st st' : List Value} {lsr : Array Slot} {pc pc' len c' z' : Nat}
/-- what stands fast in a method's walk -/
def mm_Cx (D : va_G) (cy : Nat → ClassId) (A : Nat → Prop) (b L : Nat) (xs : Nat → Int32) (p : Program) (l : Launch) (s : State) (m : MethodId) (args : Array Value) (meth : Method) (c : Code) (me : mm_Me) : Prop :=
  p.tables.exec = Jvm.exec ∧ c.code = me.2.2.1 ∧ c.maxLocals = me.2.2.2.1 ∧ s.vm.findClass me.1 = some m.cls ∧ (∀ w ∈ mm_gw, w.before args s = true) ∧ meth.sig.returnType = me.2.2.2.2.1 ∧ meth.locks = false ∧ (me.2.1.name = "<init>" → meth.name = "<init>") ∧
  (me.2.2.2.2.2.1 ≠ [] → c.exceptionTable.toList = tableOf me.2.2.2.2.2.1) ∧ (∀ q, s.heap.size ≤ q → A q) ∧ mm_G D cy A b L xs s s.heap ∧ l.stackTraces = false
theorem mm_go_eq {pc pc' : Nat} {ls ls' : mm_L} {st st' : List Value} {h h' : mm_H} {c c' z z' : Nat} (ha : mm_go pc ls st h c z = some (.inl (pc', ls', st', h', c', z'))) : pc = pc' ∧ ls = ls' ∧ st = st' ∧ h = h' ∧ c = c' ∧ z = z' := by
  unfold mm_go at ha
  simp only [Option.some.injEq, Sum.inl.injEq, Prod.mk.injEq] at ha
  exact ha
/-- the walk behind the instruction -/
def mm_K (p : Program) (l : Launch) (e : Env) (R : Room) (s : State) (m : MethodId) (args : Array Value) (below : List Frame) (meth : Method) (c : Code) (Q : State → Prop) (D : va_G) (cy : Nat → ClassId) (A : Nat → Prop) (b nL : Nat) (n : Nat) (ad : Nat → Nat) (pc' : Nat) (ls' : mm_L) (st' : List Value) (h' : mm_H) (c' z' : Nat) : Prop :=
  ∀ (ad' : Nat → Nat) (H' : Heap) (locs' : List Loc) (lsr' : Array Slot), mm_ag n ad ad' → mm_Rp D cy A b s.heap nL ad' h' ls' st' H' locs' lsr' → W p l e R s m args below meth c H' locs' c' z' Q (F0 m pc' lsr' (st'.map (mm_v b ad')))
theorem mm_load_ok {i k : Nat} (hi : i = 0 ∨ i = 1 ∨ i = 2) (Rp : mm_Rp D cy A b s.heap me.2.2.2.1 ad h ls st H locs lsr) (ha : mm_load i len pc k ls st h cells slots = some (.inl (pc', ls', st', h', c', z')))
    (rI : i = 0 → ∀ (v : Int32), lsr[k]? = some (.val (.int v)) → W p l e R s m args below meth c H locs cells slots Q (F0 m (pc + len) lsr (.int v :: st.map (mm_v b ad))) → W p l e R s m args below meth c H locs cells slots Q (F0 m pc lsr (st.map (mm_v b ad))))
    (rL : i = 1 → ∀ (v : Int64), lsr[k]? = some (.val (.long v)) → W p l e R s m args below meth c H locs cells slots Q (F0 m (pc + len) lsr (.long v :: st.map (mm_v b ad))) → W p l e R s m args below meth c H locs cells slots Q (F0 m pc lsr (st.map (mm_v b ad))))
    (rA : i = 2 → ∀ (v : Nat), lsr[k]? = some (.val (.ref v)) → W p l e R s m args below meth c H locs cells slots Q (F0 m (pc + len) lsr (.ref v :: st.map (mm_v b ad))) → W p l e R s m args below meth c H locs cells slots Q (F0 m pc lsr (st.map (mm_v b ad))))
    (K : mm_K p l e R s m args below meth c Q D cy A b me.2.2.2.1 h.length ad pc' ls' st' h' c' z') : W p l e R s m args below meth c H locs cells slots Q (F0 m pc lsr (st.map (mm_v b ad))) := by
  unfold mm_load at ha
  obtain ⟨hP, hD, hS, hl, hw, hq, ht⟩ := Rp
  split at ha
  · rename_i v hk
    obtain ⟨rfl, rfl, rfl, rfl, rfl, rfl⟩ := mm_go_eq ha
    exact rI rfl v (mm_lk_has hl hk) (K ad H locs lsr mm_ag.rf ⟨hP, hD, hS, hl, hw, hq, mm_wl_cons.mpr ⟨mm_wv_int, ht⟩⟩)
  · rename_i v hk
    obtain ⟨rfl, rfl, rfl, rfl, rfl, rfl⟩ := mm_go_eq ha
    exact rL rfl v (mm_lk_has hl hk) (K ad H locs lsr mm_ag.rf ⟨hP, hD, hS, hl, hw, hq, mm_wl_cons.mpr ⟨mm_wv_long, ht⟩⟩)
  · rename_i v hk
    obtain ⟨rfl, rfl, rfl, rfl, rfl, rfl⟩ := mm_go_eq ha
    exact rA rfl (ad v) (mm_lk_has hl hk) (K ad H locs lsr mm_ag.rf ⟨hP, hD, hS, hl, hw, hq, mm_wl_cons.mpr ⟨mm_lk_w hq hk, ht⟩⟩)
  · rename_i v hk
    obtain ⟨rfl, rfl, rfl, rfl, rfl, rfl⟩ := mm_go_eq ha
    exact rA rfl b (mm_lk_has hl hk) (K ad H locs lsr mm_ag.rf ⟨hP, hD, hS, hl, hw, hq, mm_wl_cons.mpr ⟨mm_wv_ret, ht⟩⟩)
  · cases ha
theorem mm_store_ok {i k : Nat} (Rp : mm_Rp D cy A b s.heap me.2.2.2.1 ad h ls st H locs lsr) (ha : mm_store i len pc me.2.2.2.1 k ls st h cells slots = some (.inl (pc', ls', st', h', c', z')))
    (rI : i = 0 → ∀ (v : Int32) (r : List Value) (lv' : mm_L), k < me.2.2.2.1 → (k, Value.int v) :: (mm_ml b ad ls).filter (fun q => !(q.1 == k) && !(q.1 + 1 == k && q.2.category == 2)) = lv' → (∀ ls' : Array Slot, lv_has ls' me.2.2.2.1 lv' → W p l e R s m args below meth c H locs cells slots Q (F0 m (pc + len) ls' r)) → W p l e R s m args below meth c H locs cells slots Q (F0 m pc lsr (.int v :: r)))
    (rA : i = 2 → ∀ (v : Nat) (r : List Value) (lv' : mm_L), k < me.2.2.2.1 → (k, Value.ref v) :: (mm_ml b ad ls).filter (fun q => !(q.1 == k) && !(q.1 + 1 == k && q.2.category == 2)) = lv' → (∀ ls' : Array Slot, lv_has ls' me.2.2.2.1 lv' → W p l e R s m args below meth c H locs cells slots Q (F0 m (pc + len) ls' r)) → W p l e R s m args below meth c H locs cells slots Q (F0 m pc lsr (.ref v :: r)))
    (K : mm_K p l e R s m args below meth c Q D cy A b me.2.2.2.1 h.length ad pc' ls' st' h' c' z') : W p l e R s m args below meth c H locs cells slots Q (F0 m pc lsr (st.map (mm_v b ad))) := by
  unfold mm_store at ha
  obtain ⟨hP, hD, hS, hl, hw, hq, ht⟩ := Rp
  split at ha
  · rename_i hkn
    split at ha
    · rename_i v r
      obtain ⟨rfl, rfl, rfl, rfl, rfl, rfl⟩ := mm_go_eq ha
      obtain ⟨-, ht⟩ := mm_wl_cons.mp ht
      exact rI rfl v _ _ hkn (mm_s1_map (v := .int v)) (fun lsr' hl' => K ad H locs lsr' mm_ag.rf ⟨hP, hD, hS, hl', hw, mm_s1_w hq mm_wv_int, ht⟩)
    · rename_i v r
      obtain ⟨rfl, rfl, rfl, rfl, rfl, rfl⟩ := mm_go_eq ha
      obtain ⟨hv, ht⟩ := mm_wl_cons.mp ht
      exact rA rfl (ad v) _ _ hkn (mm_s1_map (v := .ref v)) (fun lsr' hl' => K ad H locs lsr' mm_ag.rf ⟨hP, hD, hS, hl', hw, mm_s1_w hq hv, ht⟩)
    · rename_i v r
      obtain ⟨rfl, rfl, rfl, rfl, rfl, rfl⟩ := mm_go_eq ha
      obtain ⟨-, ht⟩ := mm_wl_cons.mp ht
      exact rA rfl b _ _ hkn (mm_s1_map (v := .retAddr v)) (fun lsr' hl' => K ad H locs lsr' mm_ag.rf ⟨hP, hD, hS, hl', hw, mm_s1_w hq mm_wv_ret, ht⟩)
    · cases ha
  · cases ha
theorem mm_i2_ok {f : Int32 → Int32 → Int32} (Rp : mm_Rp D cy A b s.heap me.2.2.2.1 ad h ls st H locs lsr) (ha : mm_i2 f pc ls st h cells slots = some (.inl (pc', ls', st', h', c', z')))
    (r : ∀ (w y : Int32) (r : List Value), W p l e R s m args below meth c H locs cells slots Q (F0 m (pc + 1) lsr (.int (f w y) :: r)) → W p l e R s m args below meth c H locs cells slots Q (F0 m pc lsr (.int y :: .int w :: r)))
    (K : mm_K p l e R s m args below meth c Q D cy A b me.2.2.2.1 h.length ad pc' ls' st' h' c' z') : W p l e R s m args below meth c H locs cells slots Q (F0 m pc lsr (st.map (mm_v b ad))) := by
  unfold mm_i2 at ha
  obtain ⟨hP, hD, hS, hl, hw, hq, ht⟩ := Rp
  split at ha
  · rename_i y w rr
    obtain ⟨rfl, rfl, rfl, rfl, rfl, rfl⟩ := mm_go_eq ha
    obtain ⟨-, ht⟩ := mm_wl_cons.mp ht
    obtain ⟨-, ht⟩ := mm_wl_cons.mp ht
    exact r w y _ (K ad H locs lsr mm_ag.rf ⟨hP, hD, hS, hl, hw, hq, mm_wl_cons.mpr ⟨mm_wv_int, ht⟩⟩)
  · cases ha
theorem mm_l2_ok {f : Int64 → Int64 → Int64} (Rp : mm_Rp D cy A b s.heap me.2.2.2.1 ad h ls st H locs lsr) (ha : mm_l2 f pc ls st h cells slots = some (.inl (pc', ls', st', h', c', z')))
    (r : ∀ (w y : Int64) (r : List Value), W p l e R s m args below meth c H locs cells slots Q (F0 m (pc + 1) lsr (.long (f w y) :: r)) → W p l e R s m args below meth c H locs cells slots Q (F0 m pc lsr (.long y :: .long w :: r)))
    (K : mm_K p l e R s m args below meth c Q D cy A b me.2.2.2.1 h.length ad pc' ls' st' h' c' z') : W p l e R s m args below meth c H locs cells slots Q (F0 m pc lsr (st.map (mm_v b ad))) := by
  unfold mm_l2 at ha
  obtain ⟨hP, hD, hS, hl, hw, hq, ht⟩ := Rp
  split at ha
  · rename_i y w rr
    obtain ⟨rfl, rfl, rfl, rfl, rfl, rfl⟩ := mm_go_eq ha
    obtain ⟨-, ht⟩ := mm_wl_cons.mp ht
    obtain ⟨-, ht⟩ := mm_wl_cons.mp ht
    exact r w y _ (K ad H locs lsr mm_ag.rf ⟨hP, hD, hS, hl, hw, hq, mm_wl_cons.mpr ⟨mm_wv_long, ht⟩⟩)
  · cases ha
theorem mm_ls_ok {f : Int64 → Int32 → Int64} (Rp : mm_Rp D cy A b s.heap me.2.2.2.1 ad h ls st H locs lsr) (ha : mm_ls f pc ls st h cells slots = some (.inl (pc', ls', st', h', c', z')))
    (r : ∀ (w : Int64) (y : Int32) (r : List Value), W p l e R s m args below meth c H locs cells slots Q (F0 m (pc + 1) lsr (.long (f w y) :: r)) → W p l e R s m args below meth c H locs cells slots Q (F0 m pc lsr (.int y :: .long w :: r)))
    (K : mm_K p l e R s m args below meth c Q D cy A b me.2.2.2.1 h.length ad pc' ls' st' h' c' z') : W p l e R s m args below meth c H locs cells slots Q (F0 m pc lsr (st.map (mm_v b ad))) := by
  unfold mm_ls at ha
  obtain ⟨hP, hD, hS, hl, hw, hq, ht⟩ := Rp
  split at ha
  · rename_i y w rr
    obtain ⟨rfl, rfl, rfl, rfl, rfl, rfl⟩ := mm_go_eq ha
    obtain ⟨-, ht⟩ := mm_wl_cons.mp ht
    obtain ⟨-, ht⟩ := mm_wl_cons.mp ht
    exact r w y _ (K ad H locs lsr mm_ag.rf ⟨hP, hD, hS, hl, hw, hq, mm_wl_cons.mpr ⟨mm_wv_long, ht⟩⟩)
  · cases ha
theorem mm_jump_eq {off : Int} {t : Nat} (h : mm_jump pc off = some t) : (pc : Int) + off = (t : Int) := by
  unfold mm_jump at h
  split at h
  · rename_i h0
    have h1 : ((pc : Int) + off).toNat = t := Option.some.inj h
    omega
  · cases h
theorem mm_br_ok {off : Int} {bb : Bool} (Rp : mm_Rp D cy A b s.heap me.2.2.2.1 ad h ls st H locs lsr) (ha : mm_br bb off pc ls st h cells slots = some (.inl (pc', ls', st', h', c', z')))
    {v : List Value} (r : ∀ (t : Nat), (pc : Int) + off = (t : Int) → (bb = true → W p l e R s m args below meth c H locs cells slots Q (F0 m t lsr (st.map (mm_v b ad)))) → (¬ bb = true → W p l e R s m args below meth c H locs cells slots Q (F0 m (pc + 3) lsr (st.map (mm_v b ad)))) → W p l e R s m args below meth c H locs cells slots Q (F0 m pc lsr v))
    (K : mm_K p l e R s m args below meth c Q D cy A b me.2.2.2.1 h.length ad pc' ls' st' h' c' z') : W p l e R s m args below meth c H locs cells slots Q (F0 m pc lsr v) := by
  unfold mm_br at ha
  split at ha
  · cases ha
  · rename_i t htg
    refine r t (mm_jump_eq htg) (fun hb => ?_) (fun hb => ?_)
    · rw [if_pos hb] at ha
      obtain ⟨rfl, rfl, rfl, rfl, rfl, rfl⟩ := mm_go_eq ha
      exact K ad H locs lsr mm_ag.rf Rp
    · rw [if_neg hb] at ha
      obtain ⟨rfl, rfl, rfl, rfl, rfl, rfl⟩ := mm_go_eq ha
      exact K ad H locs lsr mm_ag.rf Rp
end MMS
end
section
/-! Fields, arrays, new cells. -/
theorem mm_find {α : Type} {l : List α} {q : α → Bool} {x : α} {g : α → Bool} (hall : l.all g = true) (h : l.find? q = some x) : q x = true ∧ g x = true :=
  ⟨List.find?_some h, List.all_eq_true.mp hall x (List.mem_of_find?_eq_some h)⟩
theorem mm_F_spec {own o : String} {ix i ci k ps : Nat} {ns : Bool} (h : mm_F own ix = some (o, i, ns, ci, k, ps)) :
    ∃ (C : String) (T : u_T) (N : Nat), mm_cl[ci]? = some (C, T, N) ∧ k < N ∧ (T k).1 = C ∧ (ns = false → Cond.fieldLink own ix C (T k).2.1 (T k).2.2.1 ∈ mm_gw) ∧ (ns = true → Cond.fieldLinkNest own ix C (T k).2.1 (T k).2.2.1 "TreeBuilder" ∈ mm_nest) := by
  obtain ⟨h1, h2⟩ := mm_find mm_chkF_all h
  simp only [Bool.and_eq_true, beq_iff_eq] at h1
  obtain ⟨rfl, rfl⟩ := h1
  unfold mm_chkF at h2
  dsimp only at h2
  split at h2
  · rename_i C T N hc
    simp only [Bool.and_eq_true, decide_eq_true_eq] at h2
    obtain ⟨⟨h3, h4⟩, h5⟩ := h2
    refine ⟨C, T, N, hc, h3, h4, fun hn => ?_, fun hn => ?_⟩
    · rw [hn] at h5
      exact mm_at_gw h5 rfl
    · rw [hn] at h5
      exact mm_at_nest h5 rfl
  · cases h2
theorem mm_lay_in {C : String} {T : u_T} {N : Nat} {ps : List Nat} (hl : ps.length = N) (h : ((List.range N).zip ps).all (fun q => mm_at q.2 (u_lay C T q.1)) = true) : ∀ w ∈ u_ws C T N, w ∈ mm_gw := by
  intro w hw
  obtain ⟨k, hk, rfl⟩ := List.mem_map.mp hw
  have hkN : k < N := List.mem_range.mp hk
  have hz : ((List.range N).zip ps)[k]? = some (k, ps[k]'(by omega)) := by
    rw [List.getElem?_zip_eq_some]
    exact ⟨by simp [hkN], List.getElem?_eq_getElem _⟩
  have h1 := List.all_eq_true.mp h _ (List.mem_of_getElem? hz)
  refine mm_at_gw h1 ?_
  unfold u_lay
  split <;> rfl
def mm_clOk (ci : Nat) (C : String) (T : u_T) (N : Nat) : Prop := (∀ w ∈ u_ws C T N, w ∈ mm_gw) ∧ (∀ k, k < N → parseFieldDescriptor (T k).2.2.1 = some (mm_tyT ci k)) ∧ (∀ a, a < N → ∀ b, b < N → a ≠ b → (T a).2.1 ≠ (T b).2.1) ∧ Cond.instantiable C N ∈ mm_gw ∧ Cond.initialized C ∈ mm_gw
theorem mm_cl_spec {ci : Nat} {C : String} {T : u_T} {N : Nat} (h : mm_cl[ci]? = some (C, T, N)) : mm_clOk ci C T N := by
  match ci, h with
  | 0, h => cases h; exact ⟨mm_lay_in rfl mm_lay0, tyX1_ok, nmX1, mm_at_gw mm_ins0 rfl, mm_at_gw mm_ini0 rfl⟩
  | 1, h => cases h; exact ⟨mm_lay_in rfl mm_lay1, tyX2_ok, nmX2, mm_at_gw mm_ins1 rfl, mm_at_gw mm_ini1 rfl⟩
  | 2, h => cases h; exact ⟨mm_lay_in rfl mm_lay2, tyX3_ok, nmX3, mm_at_gw mm_ins2 rfl, mm_at_gw mm_ini2 rfl⟩
  | 3, h => cases h; exact ⟨mm_lay_in rfl mm_lay3, tyX5_ok, nmX5, mm_at_gw mm_ins3 rfl, mm_at_gw mm_ini3 rfl⟩
  | 4, h => cases h; exact ⟨mm_lay_in rfl mm_lay4, tyX6_ok, nmX6, mm_at_gw mm_ins4 rfl, mm_at_gw mm_ini4 rfl⟩
  | k + 5, h => simp [mm_cl] at h
theorem mm_fits_real {ci k b : Nat} {ad : Nat → Nat} {v : Value} (h : mm_fits ci k v = true) : narrow (mm_tyT ci k) (mm_v b ad v) = mm_v b ad v ∧ fits (mm_tyT ci k) (mm_v b ad v) = true := by
  cases v with
  | retAddr a => cases h
  | ref a =>
    simp only [mm_fits, Bool.and_eq_true, decide_eq_true_eq] at h
    obtain ⟨-, h2⟩ := h
    simp only [mm_v]
    generalize mm_tyT ci k = ty at h2 ⊢
    cases ty <;> first | exact ⟨rfl, h2⟩ | exact ⟨rfl, rfl⟩ | cases h2
  | int x => simp only [mm_fits, Bool.and_eq_true, decide_eq_true_eq] at h; exact h
  | long x => simp only [mm_fits, Bool.and_eq_true, decide_eq_true_eq] at h; exact h
  | float x => simp only [mm_fits, Bool.and_eq_true, decide_eq_true_eq] at h; exact h
  | double x => simp only [mm_fits, Bool.and_eq_true, decide_eq_true_eq] at h; exact h
  | null => simp only [mm_fits, Bool.and_eq_true, decide_eq_true_eq] at h; exact h
section MMH
variable {p : Program} {l : Launch} {e : Env} {R : Room} {s : State} {m : MethodId} {args : Array Value} {below : List Frame} {meth : Method} {c : Code} {H : Heap} {locs : List Loc} {cells slots : Nat} {Q : State → Prop}
variable {D : va_G} {cy : Nat → ClassId} {A : Nat → Prop} {b L : Nat} {xs : Nat → Int32} {me : mm_Me} {ad : Nat → Nat} {h h' : mm_H} {ls ls' : mm_L} {st st' : List Value} {lsr : Array Slot} {pc pc' len c' z' ix : Nat}
theorem mm_getf_ok (C : mm_Cx D cy A b L xs p l s m args meth c me) (Rp : mm_Rp D cy A b s.heap me.2.2.2.1 ad h ls st H locs lsr) (hdg : decode me.2.2.1 pc = .ok (.getfield ix, 3)) (ha : mm_getf me.1 ix pc ls st h cells slots = some (.inl (pc', ls', st', h', c', z')))
    (K : mm_K p l e R s m args below meth c Q D cy A b me.2.2.2.1 h.length ad pc' ls' st' h' c' z') : W p l e R s m args below meth c H locs cells slots Q (F0 m pc lsr (st.map (mm_v b ad))) := by
  obtain ⟨hx, hb, hml, hown, hts, hr, hlk, hnm, htb, hA, hG, htr⟩ := C
  obtain ⟨hP, hD, hS, hl, hw, hq, ht⟩ := Rp
  unfold mm_getf at ha
  split at ha
  · rename_i a r o i ns ci k ps hF
    split at ha
    · rename_i cj fs hcell
      split at ha
      · rename_i hcj
        subst hcj
        split at ha
        · rename_i v hv
          obtain ⟨rfl, rfl, rfl, rfl, rfl, rfl⟩ := mm_go_eq ha
          obtain ⟨-, ht⟩ := mm_wl_cons.mp ht
          obtain ⟨C, T, N, hc, hkN, hT, hl0, hl1⟩ := mm_F_spec hF
          obtain ⟨k1, k2, k3, k4, k5⟩ := mm_cl_spec hc
          have hwv : mm_wv h.length v := hw _ (List.mem_of_getElem? hcell) v (List.mem_of_getElem? hv)
          have he := mm_W_get (cy := cy) (b := b) (ad := ad) hcell
          have hvr : (fs.map (mm_v b ad))[k]? = some (mm_v b ad v) := by rw [List.getElem?_map, hv]; rfl
          have kk := K ad H locs lsr mm_ag.rf ⟨hP, hD, hS, hl, hw, hq, mm_wl_cons.mpr ⟨hwv, ht⟩⟩
          cases ns with
          | false => exact va_get (C := C) (T := T) (N := N) (ref := C) hx hb hts k1 hown hG.1 hP a he hc k hkN (hts _ (hl0 rfl)) (fun x h9 => by rw [hT] at h9; exact h9) hvr hdg kk
          | true => exact va_getN (C := C) (T := T) (N := N) (ref := C) (host := "TreeBuilder") hx hb hts k1 hown hG.1 hP a he hc k hkN (va_Nw.use rfl (hG.2.1 _ (hl1 rfl))) (fun x h9 => by rw [hT] at h9; exact h9) hvr hdg kk
        · cases ha
      · cases ha
    · cases ha
  · cases ha
theorem mm_putf_ok (C : mm_Cx D cy A b L xs p l s m args meth c me) (Rp : mm_Rp D cy A b s.heap me.2.2.2.1 ad h ls st H locs lsr) (hdg : decode me.2.2.1 pc = .ok (.putfield ix, 3)) (ha : mm_putf me.1 me.2.1.name ix pc ls st h cells slots = some (.inl (pc', ls', st', h', c', z')))
    (K : mm_K p l e R s m args below meth c Q D cy A b me.2.2.2.1 h.length ad pc' ls' st' h' c' z') : W p l e R s m args below meth c H locs cells slots Q (F0 m pc lsr (st.map (mm_v b ad))) := by
  obtain ⟨hx, hb, hml, hown, hts, hr, hlk, hnm, htb, hA, hG, htr⟩ := C
  obtain ⟨hP, hD, hS, hl, hw, hq, ht⟩ := Rp
  unfold mm_putf at ha
  split at ha
  · rename_i v a r o i ns ci k ps hF
    split at ha
    · rename_i cj fs hcell
      split at ha
      · rename_i hcond
        obtain ⟨rfl, hkl, hfit, hfin⟩ := hcond
        obtain ⟨rfl, rfl, rfl, rfl, rfl, rfl⟩ := mm_go_eq ha
        obtain ⟨hv, ht⟩ := mm_wl_cons.mp ht
        obtain ⟨-, ht⟩ := mm_wl_cons.mp ht
        obtain ⟨C, T, N, hc, hkN, hT, hl0, hl1⟩ := mm_F_spec hF
        obtain ⟨k1, k2, k3, k4, k5⟩ := mm_cl_spec hc
        have hwf : mm_wl h.length fs := hw _ (List.mem_of_getElem? hcell)
        have he := mm_W_get (cy := cy) (b := b) (ad := ad) hcell
        obtain ⟨f1, f2⟩ := mm_fits_real (b := b) (ad := ad) hfit
        have hset : (mm_W cy b ad h).set a (ad a, .inr (cj, (fs.map (mm_v b ad)).set k (mm_v b ad v))) = mm_W cy b ad (h.set a (.inr (cj, fs.set k v))) := by
          rw [← mm_W_set]
          show _ = (mm_W cy b ad h).set a (ad a, .inr (cj, (fs.set k v).map (mm_v b ad)))
          rw [List.map_set]
        have hkl2 : k < (fs.map (mm_v b ad)).length := by rw [List.length_map]; exact hkl
        have hfv : mm_final cj k = (T k).2.2.2 := by unfold mm_final; rw [hc]
        have kk : ∀ (H1 : Heap) (locs1 : List Loc), va_P D mm_cl ((mm_W cy b ad h).set a (ad a, .inr (cj, (fs.map (mm_v b ad)).set k (mm_v b ad v)))) H1 → va_D A ((mm_W cy b ad h).set a (ad a, .inr (cj, (fs.map (mm_v b ad)).set k (mm_v b ad v)))) → va_S A s.heap H1 locs1 → W p l e R s m args below meth c H1 locs1 cells slots Q (F0 m (pc + 3) lsr (r.map (mm_v b ad))) := by
          intro H1 locs1 hP1 hD1 hS1
          rw [hset] at hP1 hD1
          exact K ad H1 locs1 lsr mm_ag.rf ⟨hP1, hD1, hS1, hl, mm_wh_set hw (fun o9 ho => by cases ho; exact mm_wl_set hwf hv), by rw [List.length_set]; exact hq, by rw [List.length_set]; exact ht⟩
        rcases hfin with hfin | ⟨hfin, hns, hmn, hown2⟩
        · cases ns with
          | false => exact va_put (C := C) (T := T) (N := N) (ref := C) hx hb hts k1 (mm_tyT cj) k2 k3 hown hG.1 hP hD hS a he hc k hkN (hts _ (hl0 rfl)) (fun x h9 => by rw [hT] at h9; exact h9) (by rw [← hfv]; exact hfin) (k2 k hkN) f1 f2 hkl2 hdg kk
          | true => exact va_putN (C := C) (T := T) (N := N) (ref := C) (host := "TreeBuilder") hx hb hts k1 (mm_tyT cj) k2 k3 hown hG.1 hP hD hS a he hc k hkN (va_Nw.use rfl (hG.2.1 _ (hl1 rfl))) (fun x h9 => by rw [hT] at h9; exact h9) (by rw [← hfv]; exact hfin) (k2 k hkN) f1 f2 hkl2 hdg kk
        · subst hns
          rw [hc] at hown2
          have hCo : C = me.1 := Option.some.inj hown2
          exact va_putF (C := C) (T := T) (N := N) (ref := C) hx hb hts k1 (mm_tyT cj) k2 k3 hown hG.1 hP hD hS a he hc k hkN (hts _ (hl0 rfl)) (fun x h9 => by rw [hT] at h9; exact h9) (by rw [← hfv]; exact hfin) (hnm hmn) (hT.trans hCo) (k2 k hkN) f1 f2 hkl2 hdg kk
      · cases ha
    · cases ha
  · cases ha
theorem mm_ald_ok {t0 : Nat → Bool} {wide : Bool} (Rp : mm_Rp D cy A b s.heap me.2.2.2.1 ad h ls st H locs lsr) (ha : mm_ald t0 wide xs L pc ls st h cells slots = some (.inl (pc', ls', st', h', c', z')))
    (r1 : wide = false → ∀ (t n a0 : Nat) (f : Nat → Int32) (i : Int32) (rest : List Value), t0 t = true → (mm_W cy b ad h)[a0]? = some (ad a0, .inl (cy t, n, .inl f)) → vp_in i n → W p l e R s m args below meth c H locs cells slots Q (F0 m (pc + 1) lsr (.int (f i.toNatClampNeg) :: rest)) → W p l e R s m args below meth c H locs cells slots Q (F0 m pc lsr (.int i :: .ref (ad a0) :: rest)))
    (r2 : wide = true → ∀ (t n a0 : Nat) (f : Nat → Int64) (i : Int32) (rest : List Value), t0 t = true → (mm_W cy b ad h)[a0]? = some (ad a0, .inl (cy t, n, .inr (.inl f))) → vp_in i n → W p l e R s m args below meth c H locs cells slots Q (F0 m (pc + 1) lsr (.long (f i.toNatClampNeg) :: rest)) → W p l e R s m args below meth c H locs cells slots Q (F0 m pc lsr (.int i :: .ref (ad a0) :: rest)))
    (r3 : t0 0 = true → wide = false → ∀ (i : Int32) (rest : List Value), vp_in i L → W p l e R s m args below meth c H locs cells slots Q (F0 m (pc + 1) lsr (.int (xs i.toNatClampNeg) :: rest)) → W p l e R s m args below meth c H locs cells slots Q (F0 m pc lsr (.int i :: .ref b :: rest)))
    (K : mm_K p l e R s m args below meth c Q D cy A b me.2.2.2.1 h.length ad pc' ls' st' h' c' z') : W p l e R s m args below meth c H locs cells slots Q (F0 m pc lsr (st.map (mm_v b ad))) := by
  obtain ⟨hP, hD, hS, hl, hw, hq, ht⟩ := Rp
  unfold mm_ald at ha
  split at ha
  · rename_i i a r
    obtain ⟨-, ht⟩ := mm_wl_cons.mp ht
    obtain ⟨-, ht⟩ := mm_wl_cons.mp ht
    split at ha
    · rename_i t n f hcell
      split at ha
      · rename_i hc
        obtain ⟨rfl, rfl, rfl, rfl, rfl, rfl⟩ := mm_go_eq ha
        exact r1 hc.2.1 t n a f i _ hc.1 (mm_W_get hcell) hc.2.2 (K ad H locs lsr mm_ag.rf ⟨hP, hD, hS, hl, hw, hq, mm_wl_cons.mpr ⟨mm_wv_int, ht⟩⟩)
      · cases ha
    · rename_i t n f hcell
      split at ha
      · rename_i hc
        obtain ⟨rfl, rfl, rfl, rfl, rfl, rfl⟩ := mm_go_eq ha
        exact r2 hc.2.1 t n a f i _ hc.1 (mm_W_get hcell) hc.2.2 (K ad H locs lsr mm_ag.rf ⟨hP, hD, hS, hl, hw, hq, mm_wl_cons.mpr ⟨mm_wv_long, ht⟩⟩)
      · cases ha
    · cases ha
  · rename_i i a r
    obtain ⟨-, ht⟩ := mm_wl_cons.mp ht
    obtain ⟨-, ht⟩ := mm_wl_cons.mp ht
    split at ha
    · rename_i hc
      obtain ⟨rfl, rfl, rfl, rfl, rfl, rfl⟩ := mm_go_eq ha
      exact r3 hc.1 hc.2.1 i _ hc.2.2 (K ad H locs lsr mm_ag.rf ⟨hP, hD, hS, hl, hw, hq, mm_wl_cons.mpr ⟨mm_wv_int, ht⟩⟩)
    · cases ha
  · cases ha
theorem mm_ast_ok {t0 : Nat → Bool} (Rp : mm_Rp D cy A b s.heap me.2.2.2.1 ad h ls st H locs lsr) (ha : mm_ast t0 pc ls st h cells slots = some (.inl (pc', ls', st', h', c', z')))
    (r1 : ∀ (t n a0 : Nat) (f : Nat → Int32) (i x : Int32) (rest : List Value), t0 t = true → t < 3 → (mm_W cy b ad h)[a0]? = some (ad a0, .inl (cy t, n, .inl f)) → vp_in i n → (∀ (H1 : Heap) (locs1 : List Loc), va_P D mm_cl ((mm_W cy b ad h).set a0 (ad a0, .inl (cy t, n, .inl (upd f i.toNatClampNeg (vp_nar (mm_ty t) x))))) H1 → va_D A ((mm_W cy b ad h).set a0 (ad a0, .inl (cy t, n, .inl (upd f i.toNatClampNeg (vp_nar (mm_ty t) x))))) → va_S A s.heap H1 locs1 → W p l e R s m args below meth c H1 locs1 cells slots Q (F0 m (pc + 1) lsr rest)) → W p l e R s m args below meth c H locs cells slots Q (F0 m pc lsr (.int x :: .int i :: .ref (ad a0) :: rest)))
    (r2 : ∀ (n a0 : Nat) (f : Nat → Int64) (i : Int32) (x : Int64) (rest : List Value), t0 3 = true → (mm_W cy b ad h)[a0]? = some (ad a0, .inl (cy 3, n, .inr (.inl f))) → vp_in i n → (∀ (H1 : Heap) (locs1 : List Loc), va_P D mm_cl ((mm_W cy b ad h).set a0 (ad a0, .inl (cy 3, n, .inr (.inl (vp_updL f i.toNatClampNeg x))))) H1 → va_D A ((mm_W cy b ad h).set a0 (ad a0, .inl (cy 3, n, .inr (.inl (vp_updL f i.toNatClampNeg x))))) → va_S A s.heap H1 locs1 → W p l e R s m args below meth c H1 locs1 cells slots Q (F0 m (pc + 1) lsr rest)) → W p l e R s m args below meth c H locs cells slots Q (F0 m pc lsr (.long x :: .int i :: .ref (ad a0) :: rest)))
    (K : mm_K p l e R s m args below meth c Q D cy A b me.2.2.2.1 h.length ad pc' ls' st' h' c' z') : W p l e R s m args below meth c H locs cells slots Q (F0 m pc lsr (st.map (mm_v b ad))) := by
  obtain ⟨hP, hD, hS, hl, hw, hq, ht⟩ := Rp
  unfold mm_ast at ha
  split at ha
  · rename_i v i a r
    obtain ⟨-, ht⟩ := mm_wl_cons.mp ht
    obtain ⟨-, ht⟩ := mm_wl_cons.mp ht
    obtain ⟨-, ht⟩ := mm_wl_cons.mp ht
    split at ha
    · rename_i t n f hcell
      split at ha
      · rename_i hc
        obtain ⟨rfl, rfl, rfl, rfl, rfl, rfl⟩ := mm_go_eq ha
        refine r1 t n a f i v _ hc.1 hc.2.1 (mm_W_get hcell) hc.2.2 (fun H1 locs1 hP1 hD1 hS1 => ?_)
        have hset := mm_W_set (cy := cy) (b := b) (ad := ad) (h := h) (k := a) (e := .inl (t, n, .inl (upd f i.toNatClampNeg (vp_nar (mm_ty t) v))))
        exact K ad H1 locs1 lsr mm_ag.rf ⟨by rw [← hset]; exact hP1, by rw [← hset]; exact hD1, hS1, hl, mm_wh_set hw (fun o9 ho => by cases ho), by rw [List.length_set]; exact hq, by rw [List.length_set]; exact ht⟩
      · cases ha
    · cases ha
  · rename_i v i a r
    obtain ⟨-, ht⟩ := mm_wl_cons.mp ht
    obtain ⟨-, ht⟩ := mm_wl_cons.mp ht
    obtain ⟨-, ht⟩ := mm_wl_cons.mp ht
    split at ha
    · rename_i t n f hcell
      split at ha
      · rename_i hc
        obtain ⟨hc1, rfl, hc3⟩ := hc
        obtain ⟨rfl, rfl, rfl, rfl, rfl, rfl⟩ := mm_go_eq ha
        refine r2 n a f i v _ hc1 (mm_W_get hcell) hc3 (fun H1 locs1 hP1 hD1 hS1 => ?_)
        have hset := mm_W_set (cy := cy) (b := b) (ad := ad) (h := h) (k := a) (e := .inl (3, n, .inr (.inl (vp_updL f i.toNatClampNeg v))))
        exact K ad H1 locs1 lsr mm_ag.rf ⟨by rw [← hset]; exact hP1, by rw [← hset]; exact hD1, hS1, hl, mm_wh_set hw (fun o9 ho => by cases ho), by rw [List.length_set]; exact hq, by rw [List.length_set]; exact ht⟩
      · cases ha
    · cases ha
  · cases ha
theorem mm_alen_ok (C : mm_Cx D cy A b L xs p l s m args meth c me) (Rp : mm_Rp D cy A b s.heap me.2.2.2.1 ad h ls st H locs lsr) (hdg : decode me.2.2.1 pc = .ok (.arraylength, 1)) (ha : mm_alen L pc ls st h cells slots = some (.inl (pc', ls', st', h', c', z')))
    (K : mm_K p l e R s m args below meth c Q D cy A b me.2.2.2.1 h.length ad pc' ls' st' h' c' z') : W p l e R s m args below meth c H locs cells slots Q (F0 m pc lsr (st.map (mm_v b ad))) := by
  obtain ⟨hx, hb, hml, hown, hts, hr, hlk, hnm, htb, hA, hG, htr⟩ := C
  obtain ⟨hP, hD, hS, hl, hw, hq, ht⟩ := Rp
  unfold mm_alen at ha
  split at ha
  · rename_i a r
    obtain ⟨-, ht⟩ := mm_wl_cons.mp ht
    split at ha
    · rename_i t n f hcell
      split at ha
      · rename_i ht4
        obtain ⟨rfl, rfl, rfl, rfl, rfl, rfl⟩ := mm_go_eq ha
        have kk := K ad H locs lsr mm_ag.rf ⟨hP, hD, hS, hl, hw, hq, mm_wl_cons.mpr ⟨mm_wv_int, ht⟩⟩
        have he := mm_W_get (cy := cy) (b := b) (ad := ad) hcell
        have hty : ∃ ty, (mm_tys cy)[t]? = some (cy t, ty) := by
          rcases (show t = 0 ∨ t = 1 ∨ t = 2 ∨ t = 3 by omega) with rfl | rfl | rfl | rfl <;> exact ⟨_, rfl⟩
        obtain ⟨ty, hty⟩ := hty
        exact va_alen hx hb hG.1 hP a t he hty rfl hdg kk
      · cases ha
    · cases ha
  · rename_i a r
    obtain ⟨-, ht⟩ := mm_wl_cons.mp ht
    obtain ⟨rfl, rfl, rfl, rfl, rfl, rfl⟩ := mm_go_eq ha
    have kk := K ad H locs lsr mm_ag.rf ⟨hP, hD, hS, hl, hw, hq, mm_wl_cons.mpr ⟨mm_wv_int, ht⟩⟩
    obtain ⟨g1, g2, g3, g4, g5, g6, g7, g8⟩ := hG
    exact va_slen hx hb g6 g8 g7 hS hdg kk
  · cases ha
set_option maxRecDepth 100000 in
theorem mm_newa_ok {t : ArrayType} (C : mm_Cx D cy A b L xs p l s m args meth c me) (Rp : mm_Rp D cy A b s.heap me.2.2.2.1 ad h ls st H locs lsr) (hdg : decode me.2.2.1 pc = .ok (.newarray t, 2)) (ha : mm_newa t pc ls st h cells slots = some (.inl (pc', ls', st', h', c', z'))) (hc : c' ≤ R.cells) (hz : z' ≤ R.slots)
    (K : mm_K p l e R s m args below meth c Q D cy A b me.2.2.2.1 h.length ad pc' ls' st' h' c' z') : W p l e R s m args below meth c H locs cells slots Q (F0 m pc lsr (st.map (mm_v b ad))) := by
  obtain ⟨hx, hb, hml, hown, hts, hr, hlk, hnm, htb, hA, hG, htr⟩ := C
  obtain ⟨hP, hD, hS, hl, hw, hq, ht⟩ := Rp
  unfold mm_newa at ha
  split at ha
  · rename_i n r g hg
    obtain ⟨-, ht⟩ := mm_wl_cons.mp ht
    split at ha
    · cases ha
    · rename_i hn
      obtain ⟨rfl, rfl, rfl, rfl, rfl, rfl⟩ := mm_go_eq ha
      have hn0 : ¬ n < 0 := fun q => hn (Or.inl q)
      have hn1 : n.toNatClampNeg ≤ 1000000 := by omega
      have hag : mm_ag h.length ad (mm_ext h.length H.size ad) := mm_ext_ag
      have fin : ∀ (q : Nat) (H1 : Heap), va_P D mm_cl (mm_W cy b ad h ++ [(q, mm_re cy b ad (.inl (g, mm_zero g n.toNatClampNeg)))]) H1 → va_D A (mm_W cy b ad h ++ [(q, mm_re cy b ad (.inl (g, mm_zero g n.toNatClampNeg)))]) → va_S A s.heap H1 locs → W p l e R s m args below meth c H1 locs (cells + 1) (slots + n.toNatClampNeg) Q (F0 m (pc + 2) lsr (.ref q :: r.map (mm_v b ad))) := by
        intro q H1 hP1 hD1 hS1
        rw [mm_W_push hw (fun o9 ho => by cases ho)] at hP1 hD1
        have hag : mm_ag h.length ad (mm_ext h.length q ad) := mm_ext_ag
        have hle : h.length ≤ (h ++ [(.inl (g, mm_zero g n.toNatClampNeg) : mm_E)]).length := by simp
        have k := K (mm_ext h.length q ad) H1 locs lsr hag ⟨hP1, hD1, hS1, by rw [mm_ml_ag hag hq]; exact hl, mm_wh_push hw (fun o9 ho => by cases ho), hq.mono hle, mm_wl_cons.mpr ⟨fun k9 e9 => by cases e9; simp, ht.mono hle⟩⟩
        rw [List.map_cons, mm_map_ag hag ht] at k
        have e1 : mm_v b (mm_ext h.length q ad) (.ref h.length) = .ref q := by simp [mm_v, mm_ext]
        rw [e1] at k
        exact k
      have hK4 := hG.1
      cases t with
      | int =>
        cases hg
        refine va_newa (ty := .int) (N' := n.toNatClampNeg) (a0 := (n.toNatClampNeg, .inl (fun _ => 0))) hx hb (hts _ (mm_at_gw mm_arr_int rfl)) rfl hK4 hP hD hS hA (fun cA => rfl) hn0 rfl (by simp [componentBytes]; omega) hc hz hdg (fun q cA H1 hK1 hP1 hD1 hS1 => ?_)
        have e1 : cA = cy 0 := Option.some.inj ((hK1.2 4 (cA, .int) rfl).2.symm.trans (hK4.2 0 (cy 0, .int) rfl).2)
        subst e1
        exact fin q H1 hP1 hD1 hS1
      | byte =>
        cases hg
        refine va_newa (ty := .byte) (N' := n.toNatClampNeg) (a0 := (n.toNatClampNeg, .inl (fun _ => 0))) hx hb (hts _ (mm_at_gw mm_arr_byte rfl)) rfl hK4 hP hD hS hA (fun cA => rfl) hn0 rfl (by simp [componentBytes]; omega) hc hz hdg (fun q cA H1 hK1 hP1 hD1 hS1 => ?_)
        have e1 : cA = cy 1 := Option.some.inj ((hK1.2 4 (cA, .byte) rfl).2.symm.trans (hK4.2 1 (cy 1, .byte) rfl).2)
        subst e1
        exact fin q H1 hP1 hD1 hS1
      | boolean =>
        cases hg
        refine va_newa (ty := .boolean) (N' := n.toNatClampNeg) (a0 := (n.toNatClampNeg, .inl (fun _ => 0))) hx hb (hts _ (mm_at_gw mm_arr_boolean rfl)) rfl hK4 hP hD hS hA (fun cA => rfl) hn0 rfl (by simp [componentBytes]; omega) hc hz hdg (fun q cA H1 hK1 hP1 hD1 hS1 => ?_)
        have e1 : cA = cy 2 := Option.some.inj ((hK1.2 4 (cA, .boolean) rfl).2.symm.trans (hK4.2 2 (cy 2, .boolean) rfl).2)
        subst e1
        exact fin q H1 hP1 hD1 hS1
      | long =>
        cases hg
        refine va_newa (ty := .long) (N' := n.toNatClampNeg) (a0 := (n.toNatClampNeg, .inr (.inl (fun _ => 0)))) hx hb (hts _ (mm_at_gw mm_arr_long rfl)) rfl hK4 hP hD hS hA (fun cA => rfl) hn0 rfl (by simp [componentBytes]; omega) hc hz hdg (fun q cA H1 hK1 hP1 hD1 hS1 => ?_)
        have e1 : cA = cy 3 := Option.some.inj ((hK1.2 4 (cA, .long) rfl).2.symm.trans (hK4.2 3 (cy 3, .long) rfl).2)
        subst e1
        exact fin q H1 hP1 hD1 hS1
      | char => cases hg
      | float => cases hg
      | double => cases hg
      | short => cases hg
  · cases ha
theorem mm_N_spec {own o : String} {ix i ci ps : Nat} (h : mm_N own ix = some (o, i, ci, ps)) {C : String} {T : u_T} {N : Nat} (hc : mm_cl[ci]? = some (C, T, N)) : Cond.classLink own ix C ∈ mm_gw := by
  obtain ⟨h1, h2⟩ := mm_find mm_chkN_all h
  simp only [Bool.and_eq_true, beq_iff_eq] at h1
  obtain ⟨rfl, rfl⟩ := h1
  unfold mm_chkN at h2
  dsimp only at h2
  rw [hc] at h2
  exact mm_at_gw h2 rfl
theorem mm_new_ok (C : mm_Cx D cy A b L xs p l s m args meth c me) (Rp : mm_Rp D cy A b s.heap me.2.2.2.1 ad h ls st H locs lsr) (hdg : decode me.2.2.1 pc = .ok (.new ix, 3)) (ha : mm_new me ix pc ls st h cells slots = some (.inl (pc', ls', st', h', c', z'))) (hc : c' ≤ R.cells) (hz : z' ≤ R.slots)
    (K : mm_K p l e R s m args below meth c Q D cy A b me.2.2.2.1 h.length ad pc' ls' st' h' c' z') : W p l e R s m args below meth c H locs cells slots Q (F0 m pc lsr (st.map (mm_v b ad))) := by
  obtain ⟨hx, hb, hml, hown, hts, hr, hlk, hnm, htb, hA, hG, htr⟩ := C
  obtain ⟨hP, hD, hS, hl, hw, hq, ht⟩ := Rp
  unfold mm_new at ha
  split at ha
  · rename_i o i ci ps hN
    split at ha
    · rename_i C T N hcl
      obtain ⟨rfl, rfl, rfl, rfl, rfl, rfl⟩ := mm_go_eq ha
      obtain ⟨k1, k2, k3, k4, k5⟩ := mm_cl_spec hcl
      refine va_new (ci := ci) (fs := mm_fresh ci N) (C := C) (T := T) (N := N) hx hb hts k1 (mm_tyT ci) k2 hown (hts _ (mm_N_spec hN hcl)) (hts _ k4) (hts _ k5) hG.1 hP hD hS hA hcl (fun j hj => ?_) hc hz hdg (fun q H1 hP1 hD1 hS1 => ?_)
      · unfold vp_V mm_fresh
        rw [List.getD_eq_getElem?_getD, List.getElem?_map, List.getElem?_range hj]
        rfl
      · have e0 : mm_re cy b ad (.inr (ci, mm_fresh ci N)) = .inr (ci, mm_fresh ci N) := by simp only [mm_re, mm_fresh_map]
        rw [← e0, mm_W_push hw (fun o9 ho => by cases ho; exact mm_fresh_w)] at hP1 hD1
        have hag : mm_ag h.length ad (mm_ext h.length q ad) := mm_ext_ag
        have hle : h.length ≤ (h ++ [(.inr (ci, mm_fresh ci N) : mm_E)]).length := by simp
        have k := K (mm_ext h.length q ad) H1 locs lsr hag ⟨hP1, hD1, hS1, by rw [mm_ml_ag hag hq]; exact hl, mm_wh_push hw (fun o9 ho => by cases ho; exact mm_fresh_w), hq.mono hle, mm_wl_cons.mpr ⟨fun k9 e9 => by cases e9; simp, ht.mono hle⟩⟩
        rw [List.map_cons, mm_map_ag hag ht] at k
        have e1 : mm_v b (mm_ext h.length q ad) (.ref h.length) = .ref q := by simp [mm_v, mm_ext]
        rw [e1] at k
        exact k
    · cases ha
  · split at ha
    · split at ha
      · cases ha
      · cases ha
    · cases ha
end MMH
end
section
/-! Every instruction that stays in the method. -/
section MMA
variable {p : Program} {l : Launch} {e : Env} {R : Room} {s : State} {m : MethodId} {args : Array Value} {below : List Frame} {meth : Method} {c : Code} {H : Heap} {locs : List Loc} {cells slots : Nat} {Q : State → Prop}
variable {D : va_G} {cy : Nat → ClassId} {A : Nat → Prop} {b L : Nat} {xs : Nat → Int32} {me : mm_Me} {ad : Nat → Nat} {h h' : mm_H} {ls ls' : mm_L} {st st' : List Value} {lsr : Array Slot} {pc pc' len c' z' ix : Nat}
theorem mm_if {P : Prop} {inst : Decidable P} {α : Type} {x : Option α} {y : α} (h : (if P then x else none) = some y) : P ∧ x = some y := by
  split at h
  · rename_i hp; exact ⟨hp, h⟩
  · cases h
theorem mm_C_spec {own o : String} {ix i kind mj ps : Nat} (h : mm_C own ix = some (o, i, kind, mj, ps)) : o = own ∧ i = ix ∧ mm_chkC (own, ix, kind, mj, ps) = true := by
  obtain ⟨h1, h2⟩ := mm_find mm_chkC_all h
  simp only [Bool.and_eq_true, beq_iff_eq] at h1
  obtain ⟨rfl, rfl⟩ := h1
  exact ⟨rfl, rfl, h2⟩
theorem mm_call_obj (C : mm_Cx D cy A b L xs p l s m args meth c me) (Rp : mm_Rp D cy A b s.heap me.2.2.2.1 ad h ls st H locs lsr) {op : Nat} (hdg : (op = 2 → decode me.2.2.1 pc = .ok (.invokespecial ix, 3)) ∧ (op = 1 → decode me.2.2.1 pc = .ok (.invokestatic ix, 3))) (ha : mm_call me op ix pc ls st h cells slots = some (.inl (pc', ls', st', h', c', z')))
    (hc : c' ≤ R.cells) (hz : z' ≤ R.slots) (hf : 1 ≤ R.frames) (hlo : 21 ≤ R.locals)
    (K : mm_K p l e R s m args below meth c Q D cy A b me.2.2.2.1 h.length ad pc' ls' st' h' c' z') : W p l e R s m args below meth c H locs cells slots Q (F0 m pc lsr (st.map (mm_v b ad))) := by
  obtain ⟨hx, hb, hml, hown, hts, hr, hlk, hnm, htb, hA, hG, htr⟩ := C
  obtain ⟨hP, hD, hS, hl, hw, hq, ht⟩ := Rp
  unfold mm_call at ha
  split at ha
  · rename_i o i kind mj ps hC
    obtain ⟨rfl, rfl, hk⟩ := mm_C_spec hC
    split at ha
    · rename_i hk1
      obtain ⟨rfl, rfl⟩ := hk1
      split at ha
      · rename_i a r
        obtain ⟨hs8, ha⟩ := mm_if ha
        obtain ⟨rfl, rfl, rfl, rfl, rfl, rfl⟩ := mm_go_eq ha
        obtain ⟨-, ht⟩ := mm_wl_cons.mp ht
        unfold mm_chkC at hk
        rw [if_pos rfl] at hk
        refine W.objInit hx hb hown (hts _ (mm_at_gw hk rfl)) (hts _ (mm_at_gw mm_objI rfl)) (hts _ (mm_at_gw mm_objC rfl)) rfl (by rw [hml]; exact hl.1) rfl (hdg.1 rfl) hf ?_ ?_
        · show 2 * 0 + ((r.map (mm_v b ad)).map fun v => v.category).sum + 12 ≤ R.locals
          rw [mm_v_sum]
          omega
        · exact K ad H locs lsr mm_ag.rf ⟨hP, hD, hS, hl, hw, hq, ht⟩
      · cases ha
    · split at ha
      · rename_i hk1
        obtain ⟨rfl, rfl⟩ := hk1
        split at ha
        · rename_i y w r
          obtain ⟨hs8, ha⟩ := mm_if ha
          obtain ⟨rfl, rfl, rfl, rfl, rfl, rfl⟩ := mm_go_eq ha
          obtain ⟨-, ht⟩ := mm_wl_cons.mp ht
          obtain ⟨-, ht⟩ := mm_wl_cons.mp ht
          unfold mm_chkC at hk
          rw [if_neg (show ¬ (11 = 10) by decide), if_pos rfl] at hk
          refine va_mmax hx hb (by rw [hml]; exact hl.1.symm) hown (hts _ (mm_at_gw hk rfl)) (hts _ (mm_at_gw mm_maxS rfl)) (hts _ (mm_at_gw mm_maxI rfl)) (hts _ (mm_at_gw mm_maxC rfl)) hf ?_ hc hz (hdg.2 rfl) ?_
          · rw [mm_v_sum]
            omega
          · exact K ad H locs lsr mm_ag.rf ⟨hP, hD, hS, hl, hw, hq, mm_wl_cons.mpr ⟨mm_wv_int, ht⟩⟩
        · cases ha
      · split at ha
        · cases ha
        · split at ha
          · cases ha
          · split at ha
            · obtain ⟨-, ha⟩ := mm_if ha
              cases ha
            · split at ha
              · split at ha
                · obtain ⟨-, ha⟩ := mm_if ha
                  cases ha
                · cases ha
              · cases ha
  · cases ha
set_option maxHeartbeats 4000000 in
set_option maxRecDepth 100000 in
theorem mm_act_ok {i : Instr} (C : mm_Cx D cy A b L xs p l s m args meth c me) (Rp : mm_Rp D cy A b s.heap me.2.2.2.1 ad h ls st H locs lsr) (hdg : decode me.2.2.1 pc = .ok (i, len)) (ha : mm_act me xs L i len pc ls st h cells slots = some (.inl (pc', ls', st', h', c', z')))
    (hc : c' ≤ R.cells) (hz : z' ≤ R.slots) (hf : 1 ≤ R.frames) (hlo : 21 ≤ R.locals)
    (K : mm_K p l e R s m args below meth c Q D cy A b me.2.2.2.1 h.length ad pc' ls' st' h' c' z') : W p l e R s m args below meth c H locs cells slots Q (F0 m pc lsr (st.map (mm_v b ad))) := by
  have C0 := C
  have Rp0 := Rp
  obtain ⟨hx, hb, hml, hown, hts, hr, hlk, hnm, htb, hA, hG, htr⟩ := C
  obtain ⟨hP, hD, hS, hl, hw, hq, ht⟩ := Rp
  cases i with
  | aload_n k =>
    have hh := mm_if ha; clear ha; obtain ⟨rfl, ha⟩ := hh
    exact mm_load_ok (Or.inr (Or.inr rfl)) Rp0 ha (fun q => by cases q) (fun q => by cases q) (fun _ v hv kk => lv_aload_n hx hb hdg rfl hv kk) K
  | iload_n k =>
    have hh := mm_if ha; clear ha; obtain ⟨rfl, ha⟩ := hh
    exact mm_load_ok (Or.inl rfl) Rp0 ha (fun _ v hv kk => lv_iload_n hx hb hdg rfl hv kk) (fun q => by cases q) (fun q => by cases q) K
  | lload_n k =>
    have hh := mm_if ha; clear ha; obtain ⟨rfl, ha⟩ := hh
    exact mm_load_ok (Or.inr (Or.inl rfl)) Rp0 ha (fun q => by cases q) (fun _ v hv kk => lv_lload_n hx hb hdg rfl hv kk) (fun q => by cases q) K
  | aload k =>
    have hh := mm_if ha; clear ha; obtain ⟨rfl, ha⟩ := hh
    exact mm_load_ok (Or.inr (Or.inr rfl)) Rp0 ha (fun q => by cases q) (fun q => by cases q) (fun _ v hv kk => lv_aload hx hb hdg hv kk) K
  | iload k =>
    have hh := mm_if ha; clear ha; obtain ⟨rfl, ha⟩ := hh
    exact mm_load_ok (Or.inl rfl) Rp0 ha (fun _ v hv kk => lv_iload hx hb hdg hv kk) (fun q => by cases q) (fun q => by cases q) K
  | astore_n k =>
    have hh := mm_if ha; clear ha; obtain ⟨rfl, ha⟩ := hh
    exact mm_store_ok Rp0 ha (fun q => by cases q) (fun _ v r lv' hk hlv kk => lv_astore_n hx hb hdg rfl hl hk hlv kk) K
  | istore_n k =>
    have hh := mm_if ha; clear ha; obtain ⟨rfl, ha⟩ := hh
    exact mm_store_ok Rp0 ha (fun _ v r lv' hk hlv kk => lv_istore_n hx hb hdg rfl hl hk hlv kk) (fun q => by cases q) K
  | astore k =>
    have hh := mm_if ha; clear ha; obtain ⟨rfl, ha⟩ := hh
    exact mm_store_ok Rp0 ha (fun q => by cases q) (fun _ v r lv' hk hlv kk => lv_astore hx hb hdg hl hk hlv kk) K
  | istore k =>
    have hh := mm_if ha; clear ha; obtain ⟨rfl, ha⟩ := hh
    exact mm_store_ok Rp0 ha (fun _ v r lv' hk hlv kk => lv_istore hx hb hdg hl hk hlv kk) (fun q => by cases q) K
  | iinc k n =>
    have hh := mm_if ha; clear ha; obtain ⟨⟨rfl, hk⟩, ha⟩ := hh
    split at ha
    · rename_i v hv
      obtain ⟨rfl, rfl, rfl, rfl, rfl, rfl⟩ := mm_go_eq ha
      have hin : (k, Value.int v) ∈ mm_ml b ad ls := List.mem_map.mpr ⟨(k, .int v), mm_lk_in hv, rfl⟩
      obtain ⟨j, hj⟩ := List.getElem?_of_mem hin
      exact lv_iinc hx hb hdg hl hj rfl hk (mm_s1_map (v := .int (v + Int32.ofInt n))) (fun lsr' hl' => K ad H locs lsr' mm_ag.rf ⟨hP, hD, hS, hl', hw, mm_s1_w hq mm_wv_int, ht⟩)
    · cases ha
  | iconst n =>
    have hh := mm_if ha; clear ha; obtain ⟨rfl, ha⟩ := hh
    obtain ⟨rfl, rfl, rfl, rfl, rfl, rfl⟩ := mm_go_eq ha
    exact lv_iconst hx hb hdg rfl (K ad H locs lsr mm_ag.rf ⟨hP, hD, hS, hl, hw, hq, mm_wl_cons.mpr ⟨mm_wv_int, ht⟩⟩)
  | bipush n =>
    have hh := mm_if ha; clear ha; obtain ⟨rfl, ha⟩ := hh
    obtain ⟨rfl, rfl, rfl, rfl, rfl, rfl⟩ := mm_go_eq ha
    exact lv_bipush hx hb hdg rfl (K ad H locs lsr mm_ag.rf ⟨hP, hD, hS, hl, hw, hq, mm_wl_cons.mpr ⟨mm_wv_int, ht⟩⟩)
  | sipush n =>
    have hh := mm_if ha; clear ha; obtain ⟨rfl, ha⟩ := hh
    obtain ⟨rfl, rfl, rfl, rfl, rfl, rfl⟩ := mm_go_eq ha
    exact lv_sipush hx hb hdg rfl (K ad H locs lsr mm_ag.rf ⟨hP, hD, hS, hl, hw, hq, mm_wl_cons.mpr ⟨mm_wv_int, ht⟩⟩)
  | ldc ix =>
    have hh := mm_if ha; clear ha; obtain ⟨rfl, ha⟩ := hh
    split at ha
    · rename_i o i v ps hI
      obtain ⟨rfl, rfl, rfl, rfl, rfl, rfl⟩ := mm_go_eq ha
      obtain ⟨h1, h2⟩ := mm_find mm_chkI_all hI
      simp only [Bool.and_eq_true, beq_iff_eq] at h1
      obtain ⟨rfl, rfl⟩ := h1
      exact lv_ldc hx hb hown (hts _ (mm_at_gw h2 rfl)) hdg (K ad H locs lsr mm_ag.rf ⟨hP, hD, hS, hl, hw, hq, mm_wl_cons.mpr ⟨mm_wv_int, ht⟩⟩)
    · cases ha
  | ldc2_w ix =>
    have hh := mm_if ha; clear ha; obtain ⟨rfl, ha⟩ := hh
    split at ha
    · rename_i o i v ps hI
      obtain ⟨rfl, rfl, rfl, rfl, rfl, rfl⟩ := mm_go_eq ha
      obtain ⟨h1, h2⟩ := mm_find mm_chkJ_all hI
      simp only [Bool.and_eq_true, beq_iff_eq] at h1
      obtain ⟨rfl, rfl⟩ := h1
      exact lv_ldc2 hx hb hown (hts _ (mm_at_gw h2 rfl)) hdg (K ad H locs lsr mm_ag.rf ⟨hP, hD, hS, hl, hw, hq, mm_wl_cons.mpr ⟨mm_wv_long, ht⟩⟩)
    · cases ha
  | iadd => have hh := mm_if ha; clear ha; obtain ⟨rfl, ha⟩ := hh; exact mm_i2_ok Rp0 ha (fun w y r kk => lv_iadd hx hb hdg kk) K
  | isub => have hh := mm_if ha; clear ha; obtain ⟨rfl, ha⟩ := hh; exact mm_i2_ok Rp0 ha (fun w y r kk => lv_isub hx hb hdg kk) K
  | imul => have hh := mm_if ha; clear ha; obtain ⟨rfl, ha⟩ := hh; exact mm_i2_ok Rp0 ha (fun w y r kk => lv_imul hx hb hdg kk) K
  | iand => have hh := mm_if ha; clear ha; obtain ⟨rfl, ha⟩ := hh; exact mm_i2_ok Rp0 ha (fun w y r kk => lv_iand hx hb hdg kk) K
  | ior => have hh := mm_if ha; clear ha; obtain ⟨rfl, ha⟩ := hh; exact mm_i2_ok Rp0 ha (fun w y r kk => lv_ior hx hb hdg kk) K
  | ishl => have hh := mm_if ha; clear ha; obtain ⟨rfl, ha⟩ := hh; exact mm_i2_ok Rp0 ha (fun w y r kk => lv_ishl hx hb hdg kk) K
  | ishr => have hh := mm_if ha; clear ha; obtain ⟨rfl, ha⟩ := hh; exact mm_i2_ok Rp0 ha (fun w y r kk => lv_ishr hx hb hdg kk) K
  | land => have hh := mm_if ha; clear ha; obtain ⟨rfl, ha⟩ := hh; exact mm_l2_ok Rp0 ha (fun w y r kk => lv_land hx hb hdg kk) K
  | lor => have hh := mm_if ha; clear ha; obtain ⟨rfl, ha⟩ := hh; exact mm_l2_ok Rp0 ha (fun w y r kk => lv_lor hx hb hdg kk) K
  | lshl => have hh := mm_if ha; clear ha; obtain ⟨rfl, ha⟩ := hh; exact mm_ls_ok Rp0 ha (fun w y r kk => lv_lshl hx hb hdg rfl kk) K
  | lshr => have hh := mm_if ha; clear ha; obtain ⟨rfl, ha⟩ := hh; exact mm_ls_ok Rp0 ha (fun w y r kk => lv_lshr hx hb hdg rfl kk) K
  | lushr => have hh := mm_if ha; clear ha; obtain ⟨rfl, ha⟩ := hh; exact mm_ls_ok Rp0 ha (fun w y r kk => lv_lushr hx hb hdg rfl kk) K
  | lcmp =>
    have hh := mm_if ha; clear ha; obtain ⟨rfl, ha⟩ := hh
    split at ha
    · rename_i y w r
      obtain ⟨rfl, rfl, rfl, rfl, rfl, rfl⟩ := mm_go_eq ha
      obtain ⟨-, ht⟩ := mm_wl_cons.mp ht
      obtain ⟨-, ht⟩ := mm_wl_cons.mp ht
      exact W.lcmp hx hb hdg (K ad H locs lsr mm_ag.rf ⟨hP, hD, hS, hl, hw, hq, mm_wl_cons.mpr ⟨mm_wv_int, ht⟩⟩)
    · cases ha
  | i2l =>
    have hh := mm_if ha; clear ha; obtain ⟨rfl, ha⟩ := hh
    split at ha
    · rename_i w r
      obtain ⟨rfl, rfl, rfl, rfl, rfl, rfl⟩ := mm_go_eq ha
      obtain ⟨-, ht⟩ := mm_wl_cons.mp ht
      exact lv_i2l hx hb hdg rfl (K ad H locs lsr mm_ag.rf ⟨hP, hD, hS, hl, hw, hq, mm_wl_cons.mpr ⟨mm_wv_long, ht⟩⟩)
    · cases ha
  | i2b =>
    have hh := mm_if ha; clear ha; obtain ⟨rfl, ha⟩ := hh
    split at ha
    · rename_i w r
      obtain ⟨rfl, rfl, rfl, rfl, rfl, rfl⟩ := mm_go_eq ha
      obtain ⟨-, ht⟩ := mm_wl_cons.mp ht
      exact lv_i2b hx hb hdg rfl (K ad H locs lsr mm_ag.rf ⟨hP, hD, hS, hl, hw, hq, mm_wl_cons.mpr ⟨mm_wv_int, ht⟩⟩)
    · cases ha
  | l2i =>
    have hh := mm_if ha; clear ha; obtain ⟨rfl, ha⟩ := hh
    split at ha
    · rename_i w r
      obtain ⟨rfl, rfl, rfl, rfl, rfl, rfl⟩ := mm_go_eq ha
      obtain ⟨-, ht⟩ := mm_wl_cons.mp ht
      exact lv_l2i hx hb hdg rfl (K ad H locs lsr mm_ag.rf ⟨hP, hD, hS, hl, hw, hq, mm_wl_cons.mpr ⟨mm_wv_int, ht⟩⟩)
    · cases ha
  | dup =>
    have hh := mm_if ha; clear ha; obtain ⟨rfl, ha⟩ := hh
    split at ha
    · rename_i v r
      obtain ⟨hv1, ha⟩ := mm_if ha
      obtain ⟨rfl, rfl, rfl, rfl, rfl, rfl⟩ := mm_go_eq ha
      obtain ⟨hv, ht⟩ := mm_wl_cons.mp ht
      exact lv_dup hx hb hdg (by rw [mm_v_cat]; exact hv1) (K ad H locs lsr mm_ag.rf ⟨hP, hD, hS, hl, hw, hq, mm_wl_cons.mpr ⟨hv, mm_wl_cons.mpr ⟨hv, ht⟩⟩⟩)
    · cases ha
  | dup2 =>
    have hh := mm_if ha; clear ha; obtain ⟨rfl, ha⟩ := hh
    split at ha
    · rename_i v w r
      obtain ⟨hv1, ha⟩ := mm_if ha
      obtain ⟨rfl, rfl, rfl, rfl, rfl, rfl⟩ := mm_go_eq ha
      obtain ⟨hv, ht⟩ := mm_wl_cons.mp ht
      obtain ⟨hv2, ht⟩ := mm_wl_cons.mp ht
      exact lv_dup2_11 hx hb hdg (by rw [mm_v_cat]; exact hv1.1) (by rw [mm_v_cat]; exact hv1.2) (K ad H locs lsr mm_ag.rf ⟨hP, hD, hS, hl, hw, hq, mm_wl_cons.mpr ⟨hv, mm_wl_cons.mpr ⟨hv2, mm_wl_cons.mpr ⟨hv, mm_wl_cons.mpr ⟨hv2, ht⟩⟩⟩⟩⟩)
    · cases ha
  | pop =>
    have hh := mm_if ha; clear ha; obtain ⟨rfl, ha⟩ := hh
    split at ha
    · rename_i v r
      obtain ⟨hv1, ha⟩ := mm_if ha
      obtain ⟨rfl, rfl, rfl, rfl, rfl, rfl⟩ := mm_go_eq ha
      obtain ⟨hv, ht⟩ := mm_wl_cons.mp ht
      exact lv_pop hx hb hdg (by rw [mm_v_cat]; exact hv1) (K ad H locs lsr mm_ag.rf ⟨hP, hD, hS, hl, hw, hq, ht⟩)
    · cases ha
  | goto off =>
    have hh := mm_if ha; clear ha; obtain ⟨rfl, ha⟩ := hh
    split at ha
    · rename_i t htg
      obtain ⟨rfl, rfl, rfl, rfl, rfl, rfl⟩ := mm_go_eq ha
      exact lv_goto hx hb hdg (mm_jump_eq htg) (K ad H locs lsr mm_ag.rf Rp0)
    · cases ha
  | ifCond cd off =>
    have hh := mm_if ha; clear ha; obtain ⟨rfl, ha⟩ := hh
    split at ha
    · rename_i w r
      obtain ⟨-, ht⟩ := mm_wl_cons.mp ht
      have Rp1 : mm_Rp D cy A b s.heap me.2.2.2.1 ad h ls r H locs lsr := ⟨hP, hD, hS, hl, hw, hq, ht⟩
      cases cd with
      | eq => exact mm_br_ok Rp1 ha (fun t ht k1 k2 => lv_if_eq hx hb hdg ht (fun q => k1 (decide_eq_true q)) (fun q => k2 (fun q2 => q (of_decide_eq_true q2)))) K
      | ne => exact mm_br_ok Rp1 ha (fun t ht k1 k2 => lv_if_ne hx hb hdg ht (fun q => k1 (decide_eq_true q)) (fun q => k2 (fun q2 => (of_decide_eq_true q2) q))) K
      | lt => exact mm_br_ok Rp1 ha (fun t ht k1 k2 => lv_if_lt hx hb hdg ht (fun q => k1 (decide_eq_true q)) (fun q => k2 (fun q2 => q (of_decide_eq_true q2)))) K
      | ge => exact mm_br_ok Rp1 ha (fun t ht k1 k2 => lv_if_ge hx hb hdg ht (fun q => k1 (decide_eq_true q)) (fun q => k2 (fun q2 => q (of_decide_eq_true q2)))) K
      | gt => exact mm_br_ok Rp1 ha (fun t ht k1 k2 => lv_if_gt hx hb hdg ht (fun q => k1 (decide_eq_true q)) (fun q => k2 (fun q2 => q (of_decide_eq_true q2)))) K
      | le => exact mm_br_ok Rp1 ha (fun t ht k1 k2 => lv_if_le hx hb hdg ht (fun q => k1 (decide_eq_true q)) (fun q => k2 (fun q2 => q (of_decide_eq_true q2)))) K
    · cases ha
  | if_icmp cd off =>
    have hh := mm_if ha; clear ha; obtain ⟨rfl, ha⟩ := hh
    split at ha
    · rename_i y w r
      obtain ⟨-, ht⟩ := mm_wl_cons.mp ht
      obtain ⟨-, ht⟩ := mm_wl_cons.mp ht
      have Rp1 : mm_Rp D cy A b s.heap me.2.2.2.1 ad h ls r H locs lsr := ⟨hP, hD, hS, hl, hw, hq, ht⟩
      cases cd with
      | eq => exact mm_br_ok Rp1 ha (fun t ht k1 k2 => lv_icmp_eq hx hb hdg ht (fun q => k1 (decide_eq_true q)) (fun q => k2 (fun q2 => q (of_decide_eq_true q2)))) K
      | ne => exact mm_br_ok Rp1 ha (fun t ht k1 k2 => lv_icmp_ne hx hb hdg ht (fun q => k1 (decide_eq_true q)) (fun q => k2 (fun q2 => (of_decide_eq_true q2) q))) K
      | lt => exact mm_br_ok Rp1 ha (fun t ht k1 k2 => lv_icmp_lt hx hb hdg ht (fun q => k1 (decide_eq_true q)) (fun q => k2 (fun q2 => q (of_decide_eq_true q2)))) K
      | ge => exact mm_br_ok Rp1 ha (fun t ht k1 k2 => lv_icmp_ge hx hb hdg ht (fun q => k1 (decide_eq_true q)) (fun q => k2 (fun q2 => q (of_decide_eq_true q2)))) K
      | gt => exact mm_br_ok Rp1 ha (fun t ht k1 k2 => lv_icmp_gt hx hb hdg ht (fun q => k1 (decide_eq_true q)) (fun q => k2 (fun q2 => q (of_decide_eq_true q2)))) K
      | le => exact mm_br_ok Rp1 ha (fun t ht k1 k2 => lv_icmp_le hx hb hdg ht (fun q => k1 (decide_eq_true q)) (fun q => k2 (fun q2 => q (of_decide_eq_true q2)))) K
    · cases ha
  | tableswitch dflt lo hi offs =>
    dsimp only [mm_act] at ha
    split at ha
    · rename_i w r
      obtain ⟨-, ht⟩ := mm_wl_cons.mp ht
      split at ha
      · rename_i t htg
        obtain ⟨hcnd, ha⟩ := mm_if ha
        obtain ⟨rfl, rfl, rfl, rfl, rfl, rfl⟩ := mm_go_eq ha
        have kk := K ad H locs lsr mm_ag.rf ⟨hP, hD, hS, hl, hw, hq, ht⟩
        have htg2 := mm_jump_eq htg
        unfold mm_table at htg2
        by_cases hout : w.toInt < lo ∨ hi < w.toInt
        · rw [if_pos hout] at htg2
          exact lv_tableOut hx hb hdg hout htg2 kk
        · rw [if_neg hout] at htg2
          rcases hcnd with q | q
          · exact absurd q hout
          · obtain ⟨off, hoff⟩ := Option.isSome_iff_exists.mp q
            rw [hoff] at htg2
            exact lv_tableIn hx hb hdg (fun q => hout (Or.inl q)) (fun q => hout (Or.inr q)) hoff htg2 kk
      · cases ha
    · cases ha
  | lookupswitch dflt ps =>
    dsimp only [mm_act] at ha
    split at ha
    · rename_i w r
      obtain ⟨-, ht⟩ := mm_wl_cons.mp ht
      obtain ⟨hcnd, ha⟩ := mm_if ha
      split at ha
      · rename_i t htg
        obtain ⟨rfl, rfl, rfl, rfl, rfl, rfl⟩ := mm_go_eq ha
        exact lv_lookup hx hb hdg hcnd rfl (mm_jump_eq htg) (K ad H locs lsr mm_ag.rf ⟨hP, hD, hS, hl, hw, hq, ht⟩)
      · cases ha
    · cases ha
  | getfield ix => have hh := mm_if ha; clear ha; obtain ⟨rfl, ha⟩ := hh; exact mm_getf_ok C0 Rp0 hdg ha K
  | putfield ix => have hh := mm_if ha; clear ha; obtain ⟨rfl, ha⟩ := hh; exact mm_putf_ok C0 Rp0 hdg ha K
  | iaload =>
    have hh := mm_if ha; clear ha; obtain ⟨rfl, ha⟩ := hh
    refine mm_ald_ok Rp0 ha (fun _ t n a0 f i rest ht0 he hin kk => ?_) (fun q => by cases q) (fun _ _ i rest hin kk => va_sld hx hb hG.2.2.2.2.2.1 hG.2.2.2.2.2.2.2 hG.2.2.2.2.2.2.1 hS hin hdg kk) K
    have e0 : t = 0 := by simpa using ht0
    subst e0
    exact va_iald hx hb hG.1 hP a0 0 he rfl hin hdg kk
  | baload =>
    have hh := mm_if ha; clear ha; obtain ⟨rfl, ha⟩ := hh
    refine mm_ald_ok Rp0 ha (fun _ t n a0 f i rest ht0 he hin kk => ?_) (fun q => by cases q) (fun q => by cases q) K
    have e0 : t = 1 ∨ t = 2 := by simpa using ht0
    rcases e0 with rfl | rfl
    · exact va_bald hx hb hG.1 hP a0 1 he rfl hin hdg kk
    · exact va_zald hx hb hG.1 hP a0 2 he rfl hin hdg kk
  | laload =>
    have hh := mm_if ha; clear ha; obtain ⟨rfl, ha⟩ := hh
    refine mm_ald_ok Rp0 ha (fun q => by cases q) (fun _ t n a0 f i rest ht0 he hin kk => ?_) (fun q => by cases q) K
    have e0 : t = 3 := by simpa using ht0
    subst e0
    exact va_lald hx hb hG.1 hP a0 3 he rfl hin hdg kk
  | iastore =>
    have hh := mm_if ha; clear ha; obtain ⟨rfl, ha⟩ := hh
    refine mm_ast_ok Rp0 ha (fun t n a0 f i x rest ht0 _ he hin kk => ?_) (fun n a0 f i x rest ht0 => by cases ht0) K
    have e0 : t = 0 := by simpa using ht0
    subst e0
    exact va_iast hx hb hG.1 hP hD hS a0 0 he rfl hin hdg kk
  | bastore =>
    have hh := mm_if ha; clear ha; obtain ⟨rfl, ha⟩ := hh
    refine mm_ast_ok Rp0 ha (fun t n a0 f i x rest ht0 _ he hin kk => ?_) (fun n a0 f i x rest ht0 => by cases ht0) K
    have e0 : t = 1 ∨ t = 2 := by simpa using ht0
    rcases e0 with rfl | rfl
    · exact va_bast hx hb hG.1 hP hD hS a0 1 he rfl hin hdg kk
    · exact va_zast hx hb hG.1 hP hD hS a0 2 he rfl hin hdg kk
  | lastore =>
    have hh := mm_if ha; clear ha; obtain ⟨rfl, ha⟩ := hh
    refine mm_ast_ok Rp0 ha (fun t n a0 f i x rest ht0 ht3 he hin kk => ?_) (fun n a0 f i x rest _ he hin kk => va_last hx hb hG.1 hP hD hS a0 3 he rfl hin hdg kk) K
    have e0 : t = 3 := by simpa using ht0
    omega
  | arraylength => have hh := mm_if ha; clear ha; obtain ⟨rfl, ha⟩ := hh; exact mm_alen_ok C0 Rp0 hdg ha K
  | newarray t => have hh := mm_if ha; clear ha; obtain ⟨rfl, ha⟩ := hh; exact mm_newa_ok C0 Rp0 hdg ha hc hz K
  | new ix => have hh := mm_if ha; clear ha; obtain ⟨rfl, ha⟩ := hh; exact mm_new_ok C0 Rp0 hdg ha hc hz K
  | invokevirtual ix =>
    have hh := mm_if ha; clear ha; obtain ⟨rfl, ha⟩ := hh
    exact mm_call_obj (op := 0) C0 Rp0 ⟨fun q => (by cases q), fun q => (by cases q)⟩ ha hc hz hf hlo K
  | invokestatic ix =>
    have hh := mm_if ha; clear ha; obtain ⟨rfl, ha⟩ := hh
    exact mm_call_obj (op := 1) C0 Rp0 ⟨fun q => (by cases q), fun _ => hdg⟩ ha hc hz hf hlo K
  | invokespecial ix =>
    have hh := mm_if ha; clear ha; obtain ⟨rfl, ha⟩ := hh
    exact mm_call_obj (op := 2) C0 Rp0 ⟨fun _ => hdg, fun q => (by cases q)⟩ ha hc hz hf hlo K
  | return_ =>
    have hh := mm_if ha; clear ha; obtain ⟨rfl, ha⟩ := hh
    unfold mm_ret0 at ha
    split at ha
    · cases ha
    · cases ha
  | ireturn =>
    have hh := mm_if ha; clear ha; obtain ⟨rfl, ha⟩ := hh
    unfold mm_retv at ha
    split at ha
    · obtain ⟨-, ha⟩ := mm_if ha
      cases ha
    · cases ha
  | _ => cases ha
end MMA
end
section
/-! Cells and slots only grow. -/
section MMM
variable {me : mm_Me} {xs : Nat → Int32} {L : Nat} {h h' : mm_H} {ls ls' : mm_L} {st st' : List Value} {pc pc' len c c' z z' ix : Nat}
def mm_Le (h : mm_H) (c z : Nat) (h' : mm_H) (c' z' : Nat) : Prop := h.length ≤ h'.length ∧ c ≤ c' ∧ z ≤ z'
theorem mm_Le.rf : mm_Le h c z h c z := ⟨Nat.le_refl _, Nat.le_refl _, Nat.le_refl _⟩
theorem mm_Le.go (ha : mm_go pc ls st h c z = some (.inl (pc', ls', st', h', c', z'))) : mm_Le h c z h' c' z' := by
  obtain ⟨-, -, -, rfl, rfl, rfl⟩ := mm_go_eq ha
  exact mm_Le.rf
theorem mm_Le.goS {k : Nat} {e : mm_E} (ha : mm_go pc ls st (h.set k e) c z = some (.inl (pc', ls', st', h', c', z'))) : mm_Le h c z h' c' z' := by
  obtain ⟨-, -, -, rfl, rfl, rfl⟩ := mm_go_eq ha
  exact ⟨by rw [List.length_set]; exact Nat.le_refl _, Nat.le_refl _, Nat.le_refl _⟩
theorem mm_Le.goN {k : Nat} {e : mm_E} (ha : mm_go pc ls st (h ++ [e]) (c + 1) (z + k) = some (.inl (pc', ls', st', h', c', z'))) : mm_Le h c z h' c' z' := by
  obtain ⟨-, -, -, rfl, rfl, rfl⟩ := mm_go_eq ha
  exact ⟨by simp, by omega, by omega⟩
theorem mm_load_le {i k : Nat} (ha : mm_load i len pc k ls st h c z = some (.inl (pc', ls', st', h', c', z'))) : mm_Le h c z h' c' z' := by
  unfold mm_load at ha
  split at ha <;> first | exact mm_Le.go ha | cases ha
theorem mm_store_le {i k nL : Nat} (ha : mm_store i len pc nL k ls st h c z = some (.inl (pc', ls', st', h', c', z'))) : mm_Le h c z h' c' z' := by
  unfold mm_store at ha
  obtain ⟨-, ha⟩ := mm_if ha
  split at ha <;> first | exact mm_Le.go ha | cases ha
theorem mm_i2_le {f : Int32 → Int32 → Int32} (ha : mm_i2 f pc ls st h c z = some (.inl (pc', ls', st', h', c', z'))) : mm_Le h c z h' c' z' := by
  unfold mm_i2 at ha
  split at ha <;> first | exact mm_Le.go ha | cases ha
theorem mm_l2_le {f : Int64 → Int64 → Int64} (ha : mm_l2 f pc ls st h c z = some (.inl (pc', ls', st', h', c', z'))) : mm_Le h c z h' c' z' := by
  unfold mm_l2 at ha
  split at ha <;> first | exact mm_Le.go ha | cases ha
theorem mm_ls_le {f : Int64 → Int32 → Int64} (ha : mm_ls f pc ls st h c z = some (.inl (pc', ls', st', h', c', z'))) : mm_Le h c z h' c' z' := by
  unfold mm_ls at ha
  split at ha <;> first | exact mm_Le.go ha | cases ha
theorem mm_br_le {off : Int} {bb : Bool} (ha : mm_br bb off pc ls st h c z = some (.inl (pc', ls', st', h', c', z'))) : mm_Le h c z h' c' z' := by
  unfold mm_br at ha
  split at ha
  · cases ha
  · split at ha <;> exact mm_Le.go ha
theorem mm_getf_le {own : String} (ha : mm_getf own ix pc ls st h c z = some (.inl (pc', ls', st', h', c', z'))) : mm_Le h c z h' c' z' := by
  unfold mm_getf at ha
  split at ha
  · split at ha
    · obtain ⟨-, ha⟩ := mm_if ha
      split at ha <;> first | exact mm_Le.go ha | cases ha
    · cases ha
  · cases ha
theorem mm_putf_le {own mn : String} (ha : mm_putf own mn ix pc ls st h c z = some (.inl (pc', ls', st', h', c', z'))) : mm_Le h c z h' c' z' := by
  unfold mm_putf at ha
  split at ha
  · split at ha
    · obtain ⟨-, ha⟩ := mm_if ha
      exact mm_Le.goS ha
    · cases ha
  · cases ha
theorem mm_ald_le {t0 : Nat → Bool} {wide : Bool} (ha : mm_ald t0 wide xs L pc ls st h c z = some (.inl (pc', ls', st', h', c', z'))) : mm_Le h c z h' c' z' := by
  unfold mm_ald at ha
  split at ha
  · split at ha
    · obtain ⟨-, ha⟩ := mm_if ha
      exact mm_Le.go ha
    · obtain ⟨-, ha⟩ := mm_if ha
      exact mm_Le.go ha
    · cases ha
  · obtain ⟨-, ha⟩ := mm_if ha
    exact mm_Le.go ha
  · cases ha
theorem mm_ast_le {t0 : Nat → Bool} (ha : mm_ast t0 pc ls st h c z = some (.inl (pc', ls', st', h', c', z'))) : mm_Le h c z h' c' z' := by
  unfold mm_ast at ha
  split at ha
  · split at ha
    · obtain ⟨-, ha⟩ := mm_if ha
      exact mm_Le.goS ha
    · cases ha
  · split at ha
    · obtain ⟨-, ha⟩ := mm_if ha
      exact mm_Le.goS ha
    · cases ha
  · cases ha
theorem mm_alen_le (ha : mm_alen L pc ls st h c z = some (.inl (pc', ls', st', h', c', z'))) : mm_Le h c z h' c' z' := by
  unfold mm_alen at ha
  split at ha
  · split at ha
    · obtain ⟨-, ha⟩ := mm_if ha
      exact mm_Le.go ha
    · cases ha
  · exact mm_Le.go ha
  · cases ha
theorem mm_newa_le {t : ArrayType} (ha : mm_newa t pc ls st h c z = some (.inl (pc', ls', st', h', c', z'))) : mm_Le h c z h' c' z' := by
  unfold mm_newa at ha
  split at ha
  · split at ha
    · cases ha
    · exact mm_Le.goN ha
  · cases ha
theorem mm_new_le (ha : mm_new me ix pc ls st h c z = some (.inl (pc', ls', st', h', c', z'))) : mm_Le h c z h' c' z' := by
  unfold mm_new at ha
  split at ha
  · split at ha
    · exact mm_Le.goN ha
    · cases ha
  · split at ha
    · obtain ⟨-, ha⟩ := mm_if ha
      cases ha
    · cases ha
theorem mm_call_le {op : Nat} (ha : mm_call me op ix pc ls st h c z = some (.inl (pc', ls', st', h', c', z'))) : mm_Le h c z h' c' z' := by
  unfold mm_call at ha
  split at ha
  · split at ha
    · split at ha
      · obtain ⟨-, ha⟩ := mm_if ha
        exact mm_Le.go ha
      · cases ha
    · split at ha
      · split at ha
        · obtain ⟨-, ha⟩ := mm_if ha
          exact mm_Le.go ha
        · cases ha
      · split at ha
        · cases ha
        · split at ha
          · cases ha
          · split at ha
            · obtain ⟨-, ha⟩ := mm_if ha
              cases ha
            · split at ha
              · split at ha
                · obtain ⟨-, ha⟩ := mm_if ha
                  cases ha
                · cases ha
              · cases ha
  · cases ha
set_option maxHeartbeats 4000000 in
theorem mm_act_le {i : Instr} (ha : mm_act me xs L i len pc ls st h c z = some (.inl (pc', ls', st', h', c', z'))) : mm_Le h c z h' c' z' := by
  cases i with
  | aload_n k => exact mm_load_le (mm_if ha).2
  | iload_n k => exact mm_load_le (mm_if ha).2
  | lload_n k => exact mm_load_le (mm_if ha).2
  | aload k => exact mm_load_le (mm_if ha).2
  | iload k => exact mm_load_le (mm_if ha).2
  | astore_n k => exact mm_store_le (mm_if ha).2
  | istore_n k => exact mm_store_le (mm_if ha).2
  | astore k => exact mm_store_le (mm_if ha).2
  | istore k => exact mm_store_le (mm_if ha).2
  | iinc k n =>
    have ha := (mm_if ha).2
    split at ha <;> first | exact mm_Le.go ha | cases ha
  | iconst n => exact mm_Le.go (mm_if ha).2
  | bipush n => exact mm_Le.go (mm_if ha).2
  | sipush n => exact mm_Le.go (mm_if ha).2
  | ldc n =>
    have ha := (mm_if ha).2
    split at ha <;> first | exact mm_Le.go ha | cases ha
  | ldc2_w n =>
    have ha := (mm_if ha).2
    split at ha <;> first | exact mm_Le.go ha | cases ha
  | iadd => exact mm_i2_le (mm_if ha).2
  | isub => exact mm_i2_le (mm_if ha).2
  | imul => exact mm_i2_le (mm_if ha).2
  | iand => exact mm_i2_le (mm_if ha).2
  | ior => exact mm_i2_le (mm_if ha).2
  | ishl => exact mm_i2_le (mm_if ha).2
  | ishr => exact mm_i2_le (mm_if ha).2
  | land => exact mm_l2_le (mm_if ha).2
  | lor => exact mm_l2_le (mm_if ha).2
  | lshl => exact mm_ls_le (mm_if ha).2
  | lshr => exact mm_ls_le (mm_if ha).2
  | lushr => exact mm_ls_le (mm_if ha).2
  | lcmp =>
    have ha := (mm_if ha).2
    split at ha <;> first | exact mm_Le.go ha | cases ha
  | i2l =>
    have ha := (mm_if ha).2
    split at ha <;> first | exact mm_Le.go ha | cases ha
  | i2b =>
    have ha := (mm_if ha).2
    split at ha <;> first | exact mm_Le.go ha | cases ha
  | l2i =>
    have ha := (mm_if ha).2
    split at ha <;> first | exact mm_Le.go ha | cases ha
  | dup =>
    have ha := (mm_if ha).2
    split at ha <;> first | exact mm_Le.go (mm_if ha).2 | cases ha
  | dup2 =>
    have ha := (mm_if ha).2
    split at ha <;> first | exact mm_Le.go (mm_if ha).2 | cases ha
  | pop =>
    have ha := (mm_if ha).2
    split at ha <;> first | exact mm_Le.go (mm_if ha).2 | cases ha
  | goto off =>
    have ha := (mm_if ha).2
    split at ha <;> first | exact mm_Le.go ha | cases ha
  | ifCond cd off =>
    have ha := (mm_if ha).2
    split at ha <;> first | exact mm_br_le ha | cases ha
  | if_icmp cd off =>
    have ha := (mm_if ha).2
    split at ha <;> first | exact mm_br_le ha | cases ha
  | tableswitch dflt lo hi offs =>
    dsimp only [mm_act] at ha
    split at ha
    · split at ha
      · exact mm_Le.go (mm_if ha).2
      · cases ha
    · cases ha
  | lookupswitch dflt ps =>
    dsimp only [mm_act] at ha
    split at ha
    · have ha := (mm_if ha).2
      split at ha
      · exact mm_Le.go ha
      · cases ha
    · cases ha
  | getfield ix => exact mm_getf_le (mm_if ha).2
  | putfield ix => exact mm_putf_le (mm_if ha).2
  | iaload => exact mm_ald_le (mm_if ha).2
  | baload => exact mm_ald_le (mm_if ha).2
  | laload => exact mm_ald_le (mm_if ha).2
  | iastore => exact mm_ast_le (mm_if ha).2
  | bastore => exact mm_ast_le (mm_if ha).2
  | lastore => exact mm_ast_le (mm_if ha).2
  | arraylength => exact mm_alen_le (mm_if ha).2
  | newarray t => exact mm_newa_le (mm_if ha).2
  | new ix => exact mm_new_le (mm_if ha).2
  | invokevirtual ix => exact mm_call_le (mm_if ha).2
  | invokestatic ix => exact mm_call_le (mm_if ha).2
  | invokespecial ix => exact mm_call_le (mm_if ha).2
  | return_ =>
    have ha := (mm_if ha).2
    unfold mm_ret0 at ha
    split at ha <;> cases ha
  | ireturn =>
    have ha := (mm_if ha).2
    unfold mm_retv at ha
    split at ha
    · cases (mm_if ha).2
    · cases ha
  | _ => cases ha
end MMM
theorem mm_ev_le {xs : Nat → Int32} {L : Nat} : ∀ (n d mi pc : Nat) (ls : mm_L) (st : List Value) (h : mm_H) (c z : Nat) (r : Option Value ⊕ String) (h' : mm_H) (c' z' : Nat), mm_ev xs L n d mi pc ls st h c z = some (r, h', c', z') → mm_Le h c z h' c' z' := by
  intro n
  induction n with
  | zero => intro d mi pc ls st h c z r h' c' z' ha; cases ha
  | succ n ih =>
    intro d mi pc ls st h c z r h' c' z' ha
    unfold mm_ev at ha
    split at ha
    · cases ha
    · split at ha
      · cases ha
      · split at ha
        · cases ha
        · rename_i q1 q2 q3 q4 q5 q6 hact
          have h1 := mm_act_le hact
          have h2 := ih _ _ _ _ _ _ _ _ _ _ _ _ ha
          exact ⟨Nat.le_trans h1.1 h2.1, Nat.le_trans h1.2.1 h2.2.1, Nat.le_trans h1.2.2 h2.2.2⟩
        · cases ha
          exact mm_Le.rf
        · split at ha
          · cases ha
          · cases ha
            exact ⟨Nat.le_refl _, by omega, by omega⟩
        · split at ha
          · cases ha
          · split at ha
            · cases ha
            · rename_i v h1 c1 z1 hc
              have g1 := ih _ _ _ _ _ _ _ _ _ _ _ _ hc
              have g2 := ih _ _ _ _ _ _ _ _ _ _ _ _ ha
              exact ⟨Nat.le_trans g1.1 g2.1, by have := g2.2.1; omega, by have := g2.2.2; omega⟩
            · rename_i E h1 c1 z1 hc
              have g1 := ih _ _ _ _ _ _ _ _ _ _ _ _ hc
              split at ha
              · cases ha
              · split at ha
                · cases ha
                  exact ⟨g1.1, by omega, by omega⟩
                · split at ha
                  · cases ha
                  · have g2 := ih _ _ _ _ _ _ _ _ _ _ _ _ ha
                    exact ⟨Nat.le_trans g1.1 g2.1, by have := g2.2.1; omega, by have := g2.2.2; omega⟩
end
section
/-! Calls: contracts out of the small machine's own answer. -/
/-- a callee that never throws -/
theorem mm_met {l : Launch} {y : MethodName} {ws : List Cond} {rm : Room} {Pc : Array Value → State → Prop} {Qc : Array Value → State → Outcome → State → Prop} {XC : String → State → State → Prop} {mc ms : Nat} {free : Addr → Prop} (h : vx_Met l y ws rm Pc Qc XC mc ms free) (hx : ∀ E st t, ¬ XC E st t) : Met l y ws rm Pc Qc mc ms free := by
  intro p e ha hc hk s m args below hf happ hP hK
  obtain ⟨n, o, h1, h2, h3, h4⟩ := h p e ha hc hk s m args below hf happ hP hK
  refine ⟨n, o, h1, h2, h3, ?_⟩
  rcases h4 with h4 | ⟨q, rfl, E, ce, L, h5, -⟩
  · exact h4
  · exact absurd h5 (hx E _ _)
section MMC
variable {p : Program} {l : Launch} {e : Env} {R : Room} {s : State} {m : MethodId} {args : Array Value} {below : List Frame} {meth : Method} {c : Code} {T : State} {H : Heap} {locs : List Loc} {cells slots : Nat}
theorem mm_callVN (X : Stand p l e R s m args below meth c T locs cells slots) (hexec : p.tables.exec = Jvm.exec) {own C : String} {index : Nat} {host : String} {y : MethodName} {bytes : ByteArray} {maxL : Nat} {ret : Option FieldType}
    (hown : s.vm.findClass own = some m.cls) (hlink : (Cond.methodLinkNest own index y host).before args s = true) (hinst : (Cond.instanceMethod y).before args s = true) (hsel : (Cond.selects C y y).before args s = true)
    (hcode : (Cond.code y bytes maxL ret).before args s = true) (hy : y.cls ≠ "java/lang/invoke/MethodHandle" ∧ y.cls ≠ "java/lang/invoke/VarHandle")
    {W9 : Nat} {Pre : Pt → Array Value → Prop} {Post : Pt → Array Value → Option Value → Pt → Prop} {PostX : Pt → Array Value → Addr → Pt → Prop} (hK : vx_Back l R p e below s args y 3 W9 Pre Post PostX)
    {b : Addr} {cellB : Cell} (hcell : T.heap[b]? = some cellB) (hobj : cellB.vm.isStatics = false) (hcls : s.vm.findClass C = some cellB.cls)
    {g : JFrame} (hg : g.method = m) (hsize : g.locals.size = c.maxLocals) {argsL rest : List Value} (hlen : ∀ sig, parseMethodDescriptor y.desc = some sig → argsL.length = sig.parameters.length)
    (hstack : g.stack = argsL.reverse ++ .ref b :: rest) (hW : 2 * g.monitorRoom + (rest.map fun v => v.category).sum ≤ W9) (hdg : decode c.code g.pc = .ok (.invokevirtual index, 3))
    (hpre : ∀ vm₁, s.WarmedH vm₁ → Pre ⟨T.setVm vm₁, locs, cells, slots⟩ (Value.ref b :: argsL).toArray) :
    (∃ (v : Option Value) (vm₁ : Vm) (B : Pt), s.WarmedH vm₁ ∧ Stand p l e R s m args below meth c B.U B.locs B.cells B.slots ∧ Post ⟨T.setVm vm₁, locs, cells, slots⟩ (Value.ref b :: argsL).toArray v B ∧
      ∀ target, Steps p.tables e below (B.U.setTop { g with pc := g.pc + 3, stack := v.toList ++ rest }) target → Steps p.tables e below (T.setTop g) target) ∨
    (∃ (q : Addr) (vm₁ : Vm) (B : Pt), s.WarmedH vm₁ ∧ Stand p l e R s m args below meth c B.U B.locs B.cells B.slots ∧ PostX ⟨T.setVm vm₁, locs, cells, slots⟩ (Value.ref b :: argsL).toArray q B ∧
      Steps p.tables e below (T.setTop g) ((B.U.setTop { g with stack := rest }).pushFrame (.throwing q))) := by
  obtain ⟨mk, methM, hnamed, hmethM, hstM, habM⟩ := Cond.instanceMethod_spec hinst
  obtain ⟨methM', cM, hmethM', -, -, -, -, -, -, hsigM⟩ := Cond.code_spec hnamed hcode
  cases hmethM.symm.trans hmethM'
  obtain ⟨c2, r2, m2, q1, q2, q3, q4, kP, hkP, hkPi⟩ := Cond.selects_spec hsel
  cases hcls.symm.trans q1
  cases (State.methodFound?_of_named hnamed hy).symm.trans q2
  cases hnamed.symm.trans q3
  have hselP : selectMethod e.platform s.vm cellB.cls mk = .method mk := by rw [Launch.admits_selectMethod X.admits]; exact q4
  obtain ⟨vm₁, X₁, hstep₁⟩ := X.invokevirtualNest hexec hown hlink hnamed hmethM hstM hkP hkPi hy (a := b) (cell := cellB) hcell
    (fun z h => by rw [h] at hobj; cases hobj) hselP hmethM habM hkP hkPi (g := g) hg (argsL := argsL) (rest := rest) (hlen _ hsigM) hstack hdg
  rcases hK m meth c ⟨T.setVm vm₁, locs, cells, slots⟩ { g with stack := rest } (.invokevirtual index) mk (Value.ref b :: argsL).toArray X₁ hg hsize hdg hW (X₁.named hnamed) (hpre vm₁ X₁.warmed) with ⟨v, B, X', hpost, hsteps⟩ | ⟨q, B, X', hpost, hsteps⟩
  · exact Or.inl ⟨v, vm₁, B, X₁.warmed, X', hpost, fun target h => hstep₁ _ fun acts => by rw [doInvoke_state]; exact hsteps.trans h⟩
  · exact Or.inr ⟨q, vm₁, B, X₁.warmed, X', hpost, hstep₁ _ fun acts => by rw [doInvoke_state]; exact hsteps⟩
theorem mm_runVN {y : MethodName} {bytes cc : ByteArray} {maxL nL mc ms n index : Nat} {ret : Option FieldType} {ws : List Cond} {rm : Room} {Pc : Array Value → State → Prop} {Qc : Array Value → State → Outcome → State → Prop} {XC : String → State → State → Prop} {free : Addr → Prop} {Ts : List Cond} {own C host : String} {b : Addr} {As rest : List Value} {g : JFrame}
    (S : CallFix p m c cc nL s args Ts own) (hM : vx_Met l y ws rm Pc Qc XC mc ms free) (cw : va_CN R s args own index y host bytes maxL ret ws rm mc ms n ∧ (Cond.instanceMethod y).before args s = true ∧ (Cond.selects C y y).before args s = true) (hp : PreV s H C b Pc As)
    (hg : g.method = m) (hn : As.length = n) (hsize : g.locals.size = nL) (hstack : g.stack = As.reverse ++ .ref b :: rest) (hW : 2 * g.monitorRoom + (rest.map fun v => v.category).sum ≤ 8) (hdg : decode cc g.pc = .ok (.invokevirtual index, 3)) (hf : cells + mc ≤ R.cells ∧ slots + ms ≤ R.slots) :
    vx_Run p l e R s m args below meth c H locs cells slots mc ms g rest (Qc (Value.ref b :: As).toArray) XC free := by
  obtain ⟨⟨⟨hrc, hrs, hfr, hlo, hws, hcw⟩, hcode, hini, hy, hlen, hl⟩, hx1, hx2⟩ := cw
  have hK : vx_Back l R p e below s args y 3 8 (PreOf R mc ms Pc) (PostOf Qc mc ms free) (vx_Post XC mc ms free) := vx_back (bytes := bytes) (maxL := maxL) (ret := ret) hM hp.1 hrc hrs hfr hlo hws hcw (fun a' U hW => word_at hW (Or.inl (by first | rfl | simp [Cond.onTables, Cond.keeps, Cond.steady])) hini)
  obtain ⟨hx, hb, hml, ho, -⟩ := S
  obtain ⟨-, ⟨cellB, hcB, hoB, hclB⟩, hPc⟩ := hp
  intro T hT X
  rcases mm_callVN X hx (C := C) (bytes := bytes) (maxL := maxL) (ret := ret) ho hl hx1 hx2 hcode hy hK (by rw [hT]; exact hcB) hoB hclB hg (hsize.trans hml.symm) (argsL := As) (rest := rest) (fun sig h => hn.trans (hlen sig h)) hstack hW (by rw [hb]; exact hdg)
    (fun vm₁ hW₁ => ⟨hf.1, hf.2, hPc (T.setVm vm₁) hT hW₁⟩) with ⟨v, vm₁, ⟨U', l2, c2, s2⟩, hW₁, X', ⟨g', mk, t, L, e1, e2, hq, h1, hL, h2, h3⟩, st⟩ | ⟨q, vm₁, ⟨U', l2, c2, s2⟩, hW₁, X', ⟨g', mk, t, L, E, ce, e1, e2, hq, hce, hcv, hcl, h1, hL, h2, h3⟩, st⟩
  · dsimp only [Pt.U, Pt.locs, Pt.cells, Pt.slots] at X' e1 e2 h1 h2 h3 st
    subst h1; subst h2; subst h3
    exact Or.inl ⟨v, (T.setVm vm₁).calling g' mk (Value.ref b :: As).toArray, t, U', L, hT, X', hL, e1, e2, hq, st⟩
  · dsimp only [Pt.U, Pt.locs, Pt.cells, Pt.slots] at X' e1 e2 h1 h2 h3 st hcl
    subst h1; subst h2; subst h3
    exact Or.inr ⟨q, (T.setVm vm₁).calling g' mk (Value.ref b :: As).toArray, t, U', L, E, ce, hT, X', hL, e1, e2, hq, hce, hcv, vx_cls hW₁ hcl, st⟩
end MMC
/-- what is known of a method of the table -/
def mm_MOk (mf : mm_Me) (q : Bool × Nat × Nat × Nat) : Prop := mm_codeW mf ∈ mm_gw ∧ (q.1 = true → Cond.static mf.2.1 ∈ mm_gw) ∧ (q.1 = false → Cond.instanceMethod mf.2.1 ∈ mm_gw) ∧ (q.1 = false → mf.2.1.name ≠ "<init>" → Cond.selects mf.1 mf.2.1 mf.2.1 ∈ mm_gw) ∧ Cond.initialized mf.1 ∈ mm_gw ∧
  mf.2.1.cls = mf.1 ∧ plainName mf.1 = true ∧ mf.1 ≠ "java/lang/invoke/MethodHandle" ∧ mf.1 ≠ "java/lang/invoke/VarHandle" ∧ (parseMethodDescriptor mf.2.1.desc).map (fun d => d.parameters.length) = some mf.2.2.2.2.2.2.1 ∧ mf.2.2.2.1 ≤ 14
theorem mm_codeW_good (mf : mm_Me) : goodWord (mm_codeW mf) = true := by
  unfold mm_codeW
  split <;> rfl
theorem mm_M_spec {mj : Nat} {mf : mm_Me} (h : mm_MT[mj]? = some mf) : ∃ q, mm_MP[mj]? = some q ∧ mm_MOk mf q := by
  have hl : mj < mm_MT.length := (List.getElem?_eq_some_iff.mp h).1
  have hl2 : mj < mm_MP.length := by rw [← mm_chkM_len]; exact hl
  refine ⟨mm_MP[mj], List.getElem?_eq_getElem hl2, ?_⟩
  have hz : (mm_MT.zip mm_MP)[mj]? = some (mf, mm_MP[mj]) := by
    rw [List.getElem?_zip_eq_some]
    exact ⟨h, List.getElem?_eq_getElem hl2⟩
  have h1 := List.all_eq_true.mp mm_chkM_all _ (List.mem_of_getElem? hz)
  generalize mm_MP[mj] = q at h1
  unfold mm_chkM at h1
  dsimp only at h1
  simp only [Bool.and_eq_true, decide_eq_true_eq, Bool.or_eq_true] at h1
  obtain ⟨⟨⟨⟨⟨⟨⟨⟨a1, a2⟩, a3⟩, a4⟩, a5⟩, a6⟩, a7⟩, a8⟩, a9⟩ := h1
  refine ⟨List.mem_filter.mpr ⟨mm_codes mf (List.mem_of_getElem? h), mm_codeW_good mf⟩, fun hq => ?_, fun hq => ?_, fun hq hn => ?_, mm_at_gw a3 rfl, a4, a5, a6, a7, a8, a9⟩
  · rw [if_pos hq] at a1; exact mm_at_gw a1 rfl
  · rw [if_neg (by rw [hq]; decide)] at a1; exact mm_at_gw a1 rfl
  · rcases a2 with (a2 | a2) | a2
    · rw [a2] at hq; cases hq
    · exact absurd a2 hn
    · exact mm_at_gw a2 rfl
theorem mm_goodIn {ws : List Cond} (h : ∀ w ∈ ws, w ∈ mm_gw) : GoodIn mm_gw ws := fun w hw => ⟨h w hw, good_of_word (mm_gw_good (h w hw))⟩
def mm_room (d c z : Nat) : Room := { frames := d, cells := c, slots := z, locals := 41 * d }
/-- a contract's start, its end, its throw -/
def mm_Pc (D : va_G) (cy : Nat → ClassId) (A : Nat → Prop) (b L : Nat) (xs : Nat → Int32) (ad : Nat → Nat) (as : List Value) (h : mm_H) : Array Value → State → Prop :=
  va_Pc (as.map (mm_v b ad)) (fun U => va_P D mm_cl (mm_W cy b ad h) U.heap ∧ va_D A (mm_W cy b ad h) ∧ mm_G D cy A b L xs U U.heap ∧ ∀ q, U.heap.size ≤ q → A q)
def mm_End (D : va_G) (cy : Nat → ClassId) (A : Nat → Prop) (b : Nat) (ad : Nat → Nat) (h h' : mm_H) (ad' : Nat → Nat) (st t : State) : Prop :=
  mm_ag h.length ad ad' ∧ va_P D mm_cl (mm_W cy b ad' h') t.heap ∧ va_D A (mm_W cy b ad' h') ∧ mm_wh h' ∧ va_F A st t
def mm_Qc (D : va_G) (cy : Nat → ClassId) (A : Nat → Prop) (b : Nat) (ad : Nat → Nat) (h : mm_H) (r : Option Value ⊕ String) (h' : mm_H) : Array Value → State → Outcome → State → Prop := fun _ st o t =>
  ∃ (v : Option Value) (ad' : Nat → Nat), r = .inl v ∧ o = .returned (v.map (mm_v b ad')) ∧ (∀ w, v = some w → ∃ x, w = .int x) ∧ mm_End D cy A b ad h h' ad' st t
def mm_XC (D : va_G) (cy : Nat → ClassId) (A : Nat → Prop) (b : Nat) (ad : Nat → Nat) (h : mm_H) (r : Option Value ⊕ String) (h' : mm_H) : String → State → State → Prop := fun E st t =>
  ∃ ad' : Nat → Nat, r = .inr E ∧ mm_End D cy A b ad h h' ad' st t
theorem mm_blind {D : va_G} {cy : Nat → ClassId} {A : Nat → Prop} {b L : Nat} {xs : Nat → Int32} {ad : Nat → Nat} {as : List Value} {h : mm_H} : FrameBlind (mm_Pc D cy A b L xs ad as h) := by
  intro a U g mk hq
  obtain ⟨q0, q1, q2, q3, q4⟩ := hq
  exact ⟨q0, q1, q2, q3.call, q4⟩
def mm_wsM (mf : mm_Me) : List Cond := mm_codeW mf :: mm_gw
/-- the contract of a method at one start, out of the small machine's run of fuel n -/
def mm_Sound (n : Nat) : Prop := ∀ (l : Launch) (D : va_G) (cy : Nat → ClassId) (A : Nat → Prop) (b L : Nat) (xs : Nat → Int32) (d mi : Nat) (me : mm_Me) (as : List Value) (h : mm_H) (r : Option Value ⊕ String) (h' : mm_H) (c' z' : Nat) (ad : Nat → Nat),
  l.stackTraces = false → mm_MT[mi]? = some me → 1 ≤ d → (lg_sl as).length ≤ me.2.2.2.1 → mm_ev xs L n d mi 0 (lv_args 0 as) [] h 0 0 = some (r, h', c', z') → mm_wh h → mm_wl h.length as →
  vx_Met l me.2.1 (mm_wsM me) (mm_room d c' z') (mm_Pc D cy A b L xs ad as h) (mm_Qc D cy A b ad h r h') (mm_XC D cy A b ad h r h') c' z' A
section MMG
variable {p : Program} {l : Launch} {e : Env} {R : Room} {s : State} {m : MethodId} {args : Array Value} {below : List Frame} {meth : Method} {c : Code} {H : Heap} {locs : List Loc} {cells slots : Nat} {Q : State → Prop}
variable {D : va_G} {cy : Nat → ClassId} {A : Nat → Prop} {b L : Nat} {xs : Nat → Int32} {ad : Nat → Nat} {h h1 : mm_H} {r0 : Option Value ⊕ String} {pc mc ms : Nat} {lsr : Array Slot} {st0 rest : List Value} {a : Array Value}
theorem mm_back {v : Option Value} (hr : va_Run p l e R s m args below meth c H locs cells slots mc ms (F0 m pc lsr st0) rest (mm_Qc D cy A b ad h (.inl v) h1 a) A) (hS : va_S A s.heap H locs)
    (K : ∀ (ad' : Nat → Nat) (H' : Heap) (locs' : List Loc), mm_ag h.length ad ad' → va_P D mm_cl (mm_W cy b ad' h1) H' → va_D A (mm_W cy b ad' h1) → mm_wh h1 → va_S A s.heap H' locs' → (∀ w, v = some w → ∃ x, w = .int x) → W p l e R s m args below meth c H' locs' (cells + mc) (slots + ms) Q (F0 m (pc + 3) lsr ((v.map (mm_v b ad')).toList ++ rest))) :
    W p l e R s m args below meth c H locs cells slots Q (F0 m pc lsr st0) := by
  intro T hT X
  obtain ⟨v0, st₀, t, T', L', h0, X', hL, e1, e2, ⟨v1, ad', hv, ho, hi, hag, hP, hD, hw, hF⟩, st⟩ := hr T hT X
  cases hv
  cases ho
  obtain ⟨k1, k2, k3⟩ := vx_keep (A0 := A) (A1 := A) (free := A) h0 e1 hS (fun q _ hq => hq) (fun q hq => hq) hL hF
  obtain ⟨t2, a1, b1⟩ := K ad' T'.heap (locs ++ L') hag (by rw [e1]; exact hP) hD hw k3 hi T' rfl X'
  exact ⟨t2, st t2 a1, b1⟩
theorem mm_backX {E : String} (hr : vx_Run p l e R s m args below meth c H locs cells slots mc ms (F0 m pc lsr st0) rest (mm_Qc D cy A b ad h (.inr E) h1 a) (mm_XC D cy A b ad h (.inr E) h1) A) (hS : va_S A s.heap H locs)
    (K : ∀ (ad' : Nat → Nat) (H' : Heap) (locs' : List Loc) (q : Addr) (ce : Cell), mm_ag h.length ad ad' → va_P D mm_cl (mm_W cy b ad' h1) H' → va_D A (mm_W cy b ad' h1) → mm_wh h1 → va_S A s.heap H' locs' → H'[q]? = some ce → ce.vm = .none → s.vm.findClass E = some ce.cls → vx_W p l e R s m args below meth c H' locs' (cells + mc) (slots + ms) Q (F0 m pc lsr rest) q) :
    W p l e R s m args below meth c H locs cells slots Q (F0 m pc lsr st0) := by
  intro T hT X
  rcases hr T hT X with ⟨v0, st₀, t, T', L', h0, X', hL, e1, e2, ⟨v1, ad', hv, -⟩, st⟩ | ⟨q, st₀, t, T', L', E', ce, h0, X', hL, e1, e2, ⟨ad', hE, hag, hP, hD, hw, hF⟩, hce, hcv, hcl, st⟩
  · cases hv
  · cases hE
    obtain ⟨k1, k2, k3⟩ := vx_keep (A0 := A) (A1 := A) (free := A) h0 e1 hS (fun q _ hq => hq) (fun q hq => hq) hL hF
    obtain ⟨t2, a1, b1⟩ := K ad' T'.heap (locs ++ L') q ce hag (by rw [e1]; exact hP) hD hw k3 (by rw [e1]; exact hce) hcv hcl T' rfl X'
    exact ⟨t2, st.trans a1, b1⟩
end MMG
end
section
/-! 'throw new E(text)' -/
abbrev mm_nms : List String := ["java/lang/RuntimeException", "java/lang/Exception"]
def mm_ISE : String := "java/lang/IllegalStateException"
def mm_NSE : String := "java/util/NoSuchElementException"
set_option maxRecDepth 100000 in
theorem mm_atS1 : (vx_atS RX1 40 mm_ISE mm_nms).all (fun w => decide (w ∈ lw_tbl) && (goodWord w || mm_odd w)) = true := by decide +kernel
def mm_b13 : ByteArray := ⟨#[0x2a, 0x2b, 0xb7, 0x00, 0x0d, 0xb1]⟩
/-- NoSuchElementException(String) passes its text on by the entry 13 -/
def mm_ownN : List Cond := Bundle.throwableAtoms ++ Bundle.throwableSAtoms ++ (Bundle.passSAtoms mm_NSE "java/lang/RuntimeException" 13 mm_b13 ++ Bundle.chainSAtoms "java/lang/RuntimeException" ["java/lang/Exception"]) ++
  [.methodLink RX5 73 (Bundle.initS mm_NSE), .instantiable mm_NSE 6, .castable mm_NSE mm_NSE, .selects mm_NSE Bundle.tFill0 Bundle.tFill0, .selects mm_NSE Bundle.tFill Bundle.tFill,
   .lays mm_NSE Bundle.tN "cause" "Ljava/lang/Throwable;", .lays mm_NSE Bundle.tN "stackTrace" Bundle.steD, .lays mm_NSE Bundle.tN "suppressedExceptions" Bundle.listD, .lays mm_NSE Bundle.tN "detailMessage" "Ljava/lang/String;",
   .isRef (.static Bundle.tN "UNASSIGNED_STACK" Bundle.steD), .isRef (.static Bundle.tN "SUPPRESSED_SENTINEL" Bundle.listD),
   .fieldLink Bundle.tN 198 Bundle.tN "backtrace" "Ljava/lang/Object;", .lays Bundle.tN Bundle.tN "backtrace" "Ljava/lang/Object;", .lays mm_NSE Bundle.tN "backtrace" "Ljava/lang/Object;"]
set_option maxRecDepth 100000 in
theorem mm_atS2 : (mm_ownN.filter vx_no).all (fun w => decide (w ∈ lw_tbl) && (goodWord w || mm_odd w)) = true := by decide +kernel
theorem mm_ot1 : (Cond.classLink RX1 36 mm_ISE :: Cond.initialized mm_ISE :: vx_atS RX1 40 mm_ISE mm_nms).all vx_ot = true := by decide +kernel
theorem mm_ot2 : (Cond.classLink RX5 69 mm_NSE :: Cond.initialized mm_NSE :: mm_ownN.filter vx_no).all vx_ot = true := by decide +kernel
theorem mm_X_spec {own o E : String} {ix i ps : Nat} (h : mm_X own ix = some (o, i, E, ps)) : Cond.classLink own ix E ∈ mm_gw ∧ ix ≠ 0 := by
  obtain ⟨h1, h2⟩ := mm_find mm_chkX_all h
  simp only [Bool.and_eq_true, beq_iff_eq] at h1
  obtain ⟨rfl, rfl⟩ := h1
  unfold mm_chkX at h2
  simp only [Bool.and_eq_true, decide_eq_true_eq] at h2
  exact ⟨mm_at_gw h2.1 rfl, h2.2⟩
section MMCT
variable {p : Program} {l : Launch} {e : Env} {R : Room} {s : State} {m : MethodId} {args : Array Value} {below : List Frame} {meth : Method} {c : Code} {W9 : State} {H : Heap} {locs : List Loc} {cells slots : Nat}
set_option maxHeartbeats 2000000 in
/-- NoSuchElementException(String) on a new cell, then athrow; the road is that of the library's own law for exceptions that pass by the entry 7 -/
theorem mm_ctorN (X : Stand p l e R s m args below meth c W9 locs cells slots) (hexec : p.tables.exec = Jvm.exec) (htr : e.platform.stackTraces = false)
    (hown : s.vm.findClass RX5 = some m.cls) (h : ∀ a ∈ mm_ownN, a.before args s = true)
    (hlocs : ∀ x ∈ locs, ∀ cell, s.heap[x.base]? = some cell → cell.vm.isStatics = false)
    {a : Addr} {cX : ClassId} {kX : Class} (hfX : s.vm.findClass mm_NSE = some cX) (hkX : s.vm.classes[cX]? = some kX) (hcell : W9.heap[a]? = some (freshCell cX kX)) (hnew : s.heap.size ≤ a)
    {msg : Value} (hmsg : msg.isRef = true)
    {g : JFrame} (hg : g.method = m) (hsize : g.locals.size = c.maxLocals) (hlocked : g.locked = none) (hentered : g.entered = []) {rest : List Value} (hstack : g.stack = msg :: .ref a :: .ref a :: rest)
    (hd6 : decode c.code g.pc = .ok (.invokespecial 73, 3)) (hd9 : decode c.code (g.pc + 3) = .ok (.athrow, 1)) (hout : ∀ x ∈ c.exceptionTable.toList, covers x (g.pc + 3) = false)
    (hRf : 5 < R.frames) (hRl : 2 * g.monitorRoom + ((Value.ref a :: rest).map fun v => v.category).sum + 81 ≤ R.locals) (hlocks : meth.locks = false) :
    ∃ U : State, Steps p.tables e below (W9.setTop g) U ∧ U.status = .running ∧ Ended U below (.threw a) ∧ s.WarmedH U.vm ∧ s.sameButNew ({ U with vm := s.vm } : State) locs cells slots ∧
      ∃ ce, U.heap[a]? = some ce ∧ s.vm.findClass mm_NSE = some ce.cls ∧ ce.vm = .none := by
  have howns : e.platform.frameOwnsMonitors = true := by rw [X.admits.platform]
  have hfin : e.platform.finalization = false := by rw [X.admits.platform]
  have hpl : e.platform.magicAccessors = ({} : Platform).magicAccessors := by rw [X.admits.platform]
  have w : ∀ x, x ∈ mm_ownN → x.holds args s none s [] = true := fun x hx => h x hx
  obtain ⟨T, Z0, L, -, Y⟩ := ThrowableC.of_atoms (args := args) howns hfin hpl (fun x hx => h x (by simp [mm_ownN, hx]))
  obtain ⟨Z, M, LZ, LM, hnZ⟩ := Init0T.ofS_atoms (args := args) hpl L Y (fun x hx => h x (by simp [mm_ownN, hx]))
  obtain ⟨P0, L0, hm0, hs0⟩ := PassC.ofS_atoms (args := args) (s := s) hpl (X := mm_NSE) (Y := "java/lang/RuntimeException") (index := 13) (bytes := mm_b13) (by decide +kernel) ⟨by decide +kernel, by decide +kernel⟩ (by decide +kernel) (by decide +kernel) (by decide +kernel) (by decide +kernel) (fun x hx => h x (by simp [mm_ownN, hx]))
  obtain ⟨P1, Ps, hlen, L1, hL, hm1, hlk1, hlk⟩ := Bundle.chainS (args := args) hpl hnZ ["java/lang/Exception"] "java/lang/RuntimeException" (by decide +kernel) (by decide +kernel) (fun x hx => h x (by simp [mm_ownN, hx]))
  have hsup : P0.sup = P1.m := Option.some.inj (hs0.symm.trans hm1)
  have hfound : s.vm.findClass mm_NSE = some P0.m.cls := findClass_of_methodNamed hm0
  cases Option.some.inj (hfX.symm.trans hfound)
  obtain ⟨c1, kX', hc1, hk, hord, -, -, hn6⟩ := Cond.instantiable_spec (w (.instantiable mm_NSE 6) (by simp [mm_ownN]))
  cases Option.some.inj (hc1.symm.trans hfound)
  cases Option.some.inj (hkX.symm.trans hk)
  have hsel0 : selectMethod e.platform s.vm P0.m.cls T.fill0 = .method T.fill0 := by
    obtain ⟨c2, r2, m2, q1, q2, q3, q4, -⟩ := Cond.selects_spec (w (.selects mm_NSE Bundle.tFill0 Bundle.tFill0) (by simp [mm_ownN]))
    cases Option.some.inj (q1.symm.trans hfound)
    cases Option.some.inj (q2.symm.trans (State.methodFound?_of_named Y.fill0 (by decide)))
    cases Option.some.inj (q3.symm.trans Y.fill0)
    rw [Launch.admits_selectMethod X.admits]; exact q4
  have hselF : selectMethod e.platform s.vm P0.m.cls T.fill = .method T.fill := by
    obtain ⟨c2, r2, m2, q1, q2, q3, q4, -⟩ := Cond.selects_spec (w (.selects mm_NSE Bundle.tFill Bundle.tFill) (by simp [mm_ownN]))
    cases Option.some.inj (q1.symm.trans hfound)
    cases Option.some.inj (q2.symm.trans (State.methodFound?_of_named Y.fill (by decide)))
    cases Option.some.inj (q3.symm.trans Y.fill)
    rw [Launch.admits_selectMethod X.admits]; exact q4
  obtain ⟨cellS0, hcS0, hiss⟩ := Y.statics
  obtain ⟨u0, hu0⟩ := Cond.staticRefV Y.unassigned L.unassignedStatic L.statics hcS0 hiss (w (.isRef (.static Bundle.tN "UNASSIGNED_STACK" Bundle.steD)) (by simp [mm_ownN]))
  obtain ⟨sen, hsen⟩ := Cond.staticRefV Y.sentinel L.sentinelStatic L.statics hcS0 hiss (w (.isRef (.static Bundle.tN "SUPPRESSED_SENTINEL" Bundle.listD)) (by simp [mm_ownN]))
  obtain ⟨ci198, i198, fB, hk198, hg198, ha198, hsB, -, hnB, htB, hffB⟩ := Cond.ownField (t := .object "java/lang/Object") Y.found L.cls (by decide +kernel) (w (.fieldLink Bundle.tN 198 Bundle.tN "backtrace" "Ljava/lang/Object;") (by simp [mm_ownN])) (w (.lays Bundle.tN Bundle.tN "backtrace" "Ljava/lang/Object;") (by simp [mm_ownN])) e.platform hpl
  obtain ⟨cellS, hcS', heS, -, hkeep⟩ := X.same.2.2.2.2.2 T.aS cellS0 hcS0
  have hcellS : W9.heap[T.aS]? = some cellS := hcS'
  have hout' : ∀ i, (⟨T.aS, i⟩ : Loc) ∉ locs := fun i hmem => by
    have := hlocs _ hmem cellS0 hcS0
    rw [hiss] at this; cases this
  have hknownS : cellS.vm ≠ .unknown := by
    rw [heS]; intro hu
    rw [show cellS0.vm = .unknown from hu] at hiss
    cases hiss
  have hneS : T.aS ≠ a := Nat.ne_of_lt (Nat.lt_of_lt_of_le (Array.getElem?_eq_some_iff.mp hcS0).1 hnew)
  obtain ⟨iM, hffM⟩ := Y.msg
  obtain ⟨tyC, dC, hdC, hdnC⟩ := Cond.laysAt hfound hk Y.cause (w (.lays mm_NSE Bundle.tN "cause" "Ljava/lang/Throwable;") (by simp [mm_ownN]))
  obtain ⟨tyS, dS, hdS, hdnS⟩ := Cond.laysAt hfound hk Y.stack (w (.lays mm_NSE Bundle.tN "stackTrace" Bundle.steD) (by simp [mm_ownN]))
  obtain ⟨tyP, dP, hdP, hdnP⟩ := Cond.laysAt hfound hk Y.supp (w (.lays mm_NSE Bundle.tN "suppressedExceptions" Bundle.listD) (by simp [mm_ownN]))
  obtain ⟨tyM, dM, hdM, hdnM⟩ := Cond.laysAt hfound hk hffM (w (.lays mm_NSE Bundle.tN "detailMessage" "Ljava/lang/String;") (by simp [mm_ownN]))
  obtain ⟨tyB, dB, hdB, hdnB⟩ := Cond.laysAt hfound hk hffB (w (.lays mm_NSE Bundle.tN "backtrace" "Ljava/lang/Object;") (by simp [mm_ownN]))
  have bC := Cond.laysApart hdB hdC hdnB hdnC (by rw [hnB, Y.causeName]; decide)
  have bS := Cond.laysApart hdB hdS hdnB hdnS (by rw [hnB, Y.stackName]; decide)
  have bP := Cond.laysApart hdB hdP hdnB hdnP (by rw [hnB, Y.suppName]; decide)
  have hskip : SkipFacts T e.platform s (fun u => u) u0 ((preparedCellV T.toThrowableT (freshCell P0.m.cls kX) a u0 sen).withEntry W9.cur) :=
    ⟨{ ci198 := ci198, i198 := i198, fBack := fB }, ⟨hk198, hg198, ha198, hsB⟩, by
      have := fresh_default (c := P0.m.cls) tyB
      rw [htB] at this
      simpa [preparedCellV, Cell.setSlot, Cell.withEntry, Array.getElem?_setIfInBounds, bC, bS, bP, bC.symm, bS.symm, bP.symm, defaultValue] using this, fun _ _ => rfl⟩
  obtain ⟨tm, methC, cdC, kC, vm₁, hnC, -, -, -, -, -, -, -, hW₁, st1⟩ := Steps.initColdS (tb := p.tables) (e := e) (below := below) (s := s) (U := W9) X.here hexec X.warmed hpl hown (t := Bundle.initS mm_NSE) rfl rfl ⟨by decide +kernel, by decide +kernel⟩
    (w (.methodLink RX5 73 (Bundle.initS mm_NSE)) (by simp [mm_ownN])) (h (.instanceMethod (Bundle.initS mm_NSE)) (by simp [mm_ownN, Bundle.passSAtoms])) (bytes := mm_b13) (maxL := 2) (h (.code (Bundle.initS mm_NSE) mm_b13 2 none) (by simp [mm_ownN, Bundle.passSAtoms]))
    (f := g) hg (a := a) (msg := msg) (rest := .ref a :: rest) hstack hd6
  cases Option.some.inj (hnC.symm.trans hm0)
  have X₁ := X.noted hW₁
  have hPs : Ps.length = 1 := hlen
  obtain ⟨vm₂, X₂, st2⟩ := X₁.ctorMessageOffV hexec (g := { g with stack := .ref a :: rest }) hg hsize T L Z LZ M LM (P0 :: P1 :: Ps)
    (fun P hP => by
      rcases List.mem_cons.mp hP with rfl | hP
      · exact L0
      · rcases List.mem_cons.mp hP with rfl | hP
        · exact L1
        · exact hL P hP) ⟨hsup, hlk1, hlk⟩ (u0 := u0) (sen := sen) (self := a) hmsg (cell := freshCell P0.m.cls kX) (cellS := cellS)
    hcell (fun _ => by simp) (by simp) rfl rfl hsel0 hselF hcellS hneS hknownS (by rw [hkeep _ (hout' _)]; exact hu0) (by rw [hkeep _ (hout' _)]; exact hsen)
    (Takes.of_laid hk hord tyC (by rw [Y.causeType]; rfl)) (Takes.of_laid hk hord tyS (by rw [Y.stackType]; exact fits_refV_array _ u0)) (Takes.of_laid hk hord tyP (by rw [Y.suppType]; exact fits_refV_object _ sen))
    (Takes.of_laid hk hord tyM (by rw [Y.msgType]; exact fits_refV_object _ ⟨msg, hmsg⟩)) Y.objLocals hskip htr [] hd6
    (by simp only [List.length_cons, hPs]; omega) (by simp only [List.length_cons, hPs]; exact hRl)
  obtain ⟨hwalk, hrun, hended, hWU, hsame⟩ := X₂.athrowLeaves hexec (g := { g with stack := .ref a :: rest, pc := g.pc + 3 }) hg hlocked hentered hout (a := a) (rest := rest) rfl hd9 hlocks
  have hlt : a < ((W9.setVm vm₁).setVm vm₂).heap.size := (Array.getElem?_eq_some_iff.mp hcell).1
  have hU := heapAt_setCell_self (s := (W9.setVm vm₁).setVm vm₂) (plainBareV T.toThrowableT (freshCell P0.m.cls kX) a u0 sen msg) hlt
  refine ⟨_, st1 _ (fun acts => ?_), hrun, hended, hWU, hsame.weaken (fun y hy hlt' => ?_) (Nat.le_refl _) (Nat.le_refl _), _, hU, hfound, rfl⟩
  · rw [doInvoke_state]
    exact st2 _ hwalk
  · rcases List.mem_append.mp hy with h1 | h1
    · exact h1
    · exfalso
      have hb : y.base = a := by
        simp only [List.mem_cons, List.not_mem_nil, or_false] at h1
        rcases h1 with rfl | rfl | rfl | rfl | rfl <;> rfl
      rw [hb] at hlt'
      exact Nat.not_lt.mpr hnew hlt'
variable {ls : Array Slot} {rest : List Value} {free : Addr → Prop} {Qc : Array Value → State → Outcome → State → Prop} {XC : String → State → State → Prop}
/-- 'throw new NoSuchElementException(text)' in TreeBuilder: as vx_throwS -/
theorem mm_throwN {cc : ByteArray} {pc : Nat} (hexec : p.tables.exec = Jvm.exec) (hb : c.code = cc) (hl : l.stackTraces = false) {text : String} {is mc ms sa : Nat} {A : Nat → Prop}
    (hown : s.vm.findClass RX5 = some m.cls)
    (hk : (Cond.classLink RX5 69 mm_NSE).before args s = true) (hini : (Cond.initialized mm_NSE).before args s = true) (hstr : vk_R RX5 is text sa s) (hat : ∀ w ∈ mm_ownN.filter vx_no, w.before args s = true)
    (hgood : ∀ w ∈ Cond.classLink RX5 69 mm_NSE :: Cond.initialized mm_NSE :: mm_ownN.filter vx_no, vx_ot w = true)
    (hU : vx_Zq Bundle.tN "UNASSIGNED_STACK" Bundle.steD A s s.heap) (hN : vx_Zq Bundle.tN "SUPPRESSED_SENTINEL" Bundle.listD A s s.heap) (hS : va_S A s.heap H locs) (hsize : ls.size = c.maxLocals)
    (d0 : decode cc pc = .ok (.new 69, 3)) (d3 : decode cc (pc + 3) = .ok (.dup, 1)) (d4 : decode cc (pc + 4) = .ok (.ldc is, 2)) (d6 : decode cc (pc + 6) = .ok (.invokespecial 73, 3)) (d9 : decode cc (pc + 9) = .ok (.athrow, 1))
    (hout : ∀ x ∈ c.exceptionTable.toList, covers x (pc + 9) = false)
    (hRframes : 2 + 3 < R.frames) (hRlocals : (rest.map fun v => v.category).sum + (13 * (2 + 1) + 43) ≤ R.locals) (hRcells : cells + 1 ≤ R.cells) (hRslots : slots + 6 ≤ R.slots) (hlocks : meth.locks = false)
    (hx : ∀ t : State, s.vm.Alike t.vm → H.size ≤ t.heap.size → (∀ q : Nat, q < H.size → t.heap[q]? = H[q]?) → XC mm_NSE s t)
    (hf : ∀ z ∈ locs, free z.base) (hc : cells + 1 ≤ mc) (hs : slots + 6 ≤ ms) :
    W p l e R s m args below meth c H locs cells slots (vx_MQ below Qc XC args s mc ms free) (F0 m pc ls rest) := by
  intro T hT X
  have htr : e.platform.stackTraces = false := (show e.platform.stackTraces = l.stackTraces by rw [X.admits.platform]).trans hl
  have Y := vx_rebase X (R' := { frames := R.frames, locals := R.locals, cells := 1, slots := 6 }) (Nat.le_refl _) (Nat.le_refl _) hRcells hRslots
  obtain ⟨s', hA⟩ : ∃ z, z = (T.setVm s.vm).setFrames (.invoking m args :: below) := ⟨_, rfl⟩
  rw [← hA] at Y
  have hvm : s'.vm = s.vm := by rw [hA]; rfl
  have hhp : s'.heap = H := by rw [hA]; exact hT
  have hW0 : s.WarmedH s'.vm := by rw [hvm]; exact State.WarmedH.refl s
  have hat' : ∀ w ∈ mm_ownN.filter vx_no, w.before args s' = true := fun w hw => vx_ot_at hW0 hvm.symm (hgood w (List.mem_cons_of_mem _ (List.mem_cons_of_mem _ hw))) (hat w hw)
  have hk' : (Cond.classLink RX5 69 mm_NSE).before args s' = true := vx_ot_at hW0 hvm.symm (hgood _ List.mem_cons_self) hk
  have hini' : (Cond.initialized mm_NSE).before args s' = true := vx_ot_at hW0 hvm.symm (hgood _ (List.mem_cons_of_mem _ List.mem_cons_self)) hini
  have hU' : vx_Zq Bundle.tN "UNASSIGNED_STACK" Bundle.steD A s' s'.heap := by rw [hhp]; exact vx_Zq.moved hW0.alike (hU.kept hS.2.1)
  have hN' : vx_Zq Bundle.tN "SUPPRESSED_SENTINEL" Bundle.listD A s' s'.heap := by rw [hhp]; exact vx_Zq.moved hW0.alike (hN.kept hS.2.1)
  have h : ∀ w ∈ mm_ownN, w.before args s' = true := vx_own hat' (vx_isRefq hU'.1) (vx_isRefq hN'.1) hU'.2.word hN'.2.word
  have hown' : s'.vm.findClass RX5 = some m.cls := by rw [hvm]; exact hown
  have hins : (Cond.instantiable mm_NSE 6).before args s' = true := h _ (by simp [mm_ownN])
  obtain ⟨vm₁, cX, kX, hfX, hkX, -, -, X₁, st1⟩ := Y.newCold hexec (own := RX5) (C := mm_NSE) (index := 69) (n := 6) hown' hk' hins hini'
    (g := F0 m pc ls rest) rfl (by rw [hb]; exact d0) (Nat.le_refl _) (Nat.le_refl _)
  generalize hT1 : (T.setVm vm₁).pushCell { cls := cX, slots := kX.instanceTypes.map defaultValue, vm := .none } = T1 at X₁ st1
  have hcat : (Value.ref T.heap.size).category = 1 := rfl
  have hcellA : T1.heap[T.heap.size]? = some (freshCell cX kX) := by rw [← hT1]; exact State.heap_pushCell_size _ _
  have d3' : decode c.code (pc + 3) = .ok (.dup, 1) := by rw [hb]; exact d3
  have d4' : decode c.code (pc + 4) = .ok (.ldc is, 2) := by rw [hb]; exact d4
  have hstr' : vk_R RX5 is text sa s' := vk_R.warm hW0 hstr
  obtain ⟨U, hsteps, hrun, hend, hW, hsame, ce, hce, hO, hOv⟩ := mm_ctorN X₁ hexec htr hown' h (fun x hx => nomatch hx) hfX hkX hcellA (by rw [hhp, hT]; exact Nat.le_refl _) (msg := .ref sa) rfl
    (g := { method := m, pc := pc + 6, locals := ls, stack := .ref sa :: .ref T.heap.size :: .ref T.heap.size :: rest, locked := none }) rfl hsize rfl rfl (rest := rest) rfl
    (by rw [hb]; exact d6) (by rw [hb]; exact d9) hout hRframes (by simp only [List.map_cons, List.sum_cons, hcat]; show 2 * 0 + _ + 81 ≤ _; omega) hlocks
  obtain ⟨f1, f2⟩ := vx_frame hsame
  rw [hhp] at f1 f2
  have hWs : s.WarmedH U.vm := State.WarmedH.trans hW0 hW
  have hcl : s.vm.findClass mm_NSE = some ce.cls := by
    have h9 := hO
    rw [hvm] at h9
    exact h9
  have hall : s.sameButNew ({ U with vm := s.vm } : State) locs mc ms := by
    subst hA
    obtain ⟨e1, e2⟩ := hsame
    rw [State.setFrames_setFrames] at e1
    have h2 : (T.setVm s.vm).sameButNew ({ U with vm := s.vm } : State) [] (0 + 1) (0 + 6) := ⟨e1, e2⟩
    have h3 := X.same.trans h2
    rw [List.append_nil] at h3
    exact h3.mono hc hs
  refine ⟨U, ?_, .threw T.heap.size, hrun, hend, Or.inr ⟨T.heap.size, rfl, mm_NSE, ce, locs, hx U hWs.alike f1 (fun q hq => f2 q hq (fun z hz => nomatch hz)), hce, hOv, hcl, hWs, hall, hf⟩⟩
  refine st1 _ ?_
  show Steps p.tables e below (T1.setTop { method := m, pc := pc + 3, locals := ls, stack := .ref T.heap.size :: rest, locked := none }) _
  jvm_step X₁.here [X₁.here.top, hexec, d3', Value.category]
  exact X₁.ldcString hexec (own := RX5) (text := text) (index := is) (a := sa) hown' hstr'.1 hstr'.2
    (g := { method := m, pc := pc + 4, locals := ls, stack := .ref T.heap.size :: .ref T.heap.size :: rest, locked := none }) rfl d4' _ hsteps
end MMCT
section MMT
variable {p : Program} {l : Launch} {e : Env} {R : Room} {s : State} {m : MethodId} {args : Array Value} {below : List Frame} {meth : Method} {c : Code} {H : Heap} {locs : List Loc} {cells slots : Nat}
variable {D : va_G} {cy : Nat → ClassId} {A : Nat → Prop} {b L : Nat} {xs : Nat → Int32} {me : mm_Me} {ad ad' : Nat → Nat} {h h' : mm_H} {ls : mm_L} {st : List Value} {lsr : Array Slot} {pc ix si ic : Nat} {E : String}
theorem mm_words (hG : mm_G D cy A b L xs s s.heap) (hts : ∀ w ∈ mm_gw, w.before args s = true) {L9 : List Cond} (h : L9.all (fun w => decide (w ∈ lw_tbl) && (goodWord w || mm_odd w)) = true) : ∀ w ∈ L9, w.before args s = true := by
  intro w hw
  have h1 := List.all_eq_true.mp h w hw
  simp only [Bool.and_eq_true, decide_eq_true_eq, Bool.or_eq_true] at h1
  obtain ⟨h2, h3 | h3⟩ := h1
  · exact hts w (List.mem_filter.mpr ⟨h2, h3⟩)
  · have h4 := hG.2.1 w (List.mem_filter.mpr ⟨h2, h3⟩)
    have ho : w.onTables = true := by
      cases w with
      | methodLinkNest a i x h' => rfl
      | fieldLinkNest a i b' n d h' => rfl
      | declares x => rfl
      | castable X Y => rfl
      | _ => cases h3
    exact va_Nw.use ho h4
theorem mm_throw1 (C : mm_Cx D cy A b L xs p l s m args meth c me) (Rp : mm_Rp D cy A b s.heap me.2.2.2.1 ad' h' ls st H locs lsr) (hag : mm_ag h.length ad ad') (hout : ∀ x ∈ c.exceptionTable.toList, False)
    (hfr : 8 ≤ R.frames) (hlo : 328 ≤ R.locals) (hc : cells + 1 ≤ R.cells) (hz : slots + 6 ≤ R.slots) (hsum : (st.map fun v => v.category).sum ≤ 8)
    (hin : (me.1, ix, E, si, ic) ∈ [(RX1, 36, "java/lang/IllegalStateException", 38, 40), (RX5, 69, "java/util/NoSuchElementException", 71, 73), (RX5, 69, "java/util/NoSuchElementException", 92, 73), (RX5, 69, "java/util/NoSuchElementException", 94, 73)])
    (d0 : decode me.2.2.1 pc = .ok (.new ix, 3)) (d3 : decode me.2.2.1 (pc + 3) = .ok (.dup, 1)) (d4 : decode me.2.2.1 (pc + 4) = .ok (.ldc si, 2)) (d6 : decode me.2.2.1 (pc + 6) = .ok (.invokespecial ic, 3)) (d9 : decode me.2.2.1 (pc + 9) = .ok (.athrow, 1)) {Qc : Array Value → State → Outcome → State → Prop} :
    W p l e R s m args below meth c H locs cells slots (vx_MQ below Qc (mm_XC D cy A b ad h (.inr E) h') args s (cells + 1) (slots + 6) A) (F0 m pc lsr (st.map (mm_v b ad'))) := by
  obtain ⟨hx, hb, hml, hown, hts, hr, hlk, hnm, htb, hA, hG, htr⟩ := C
  obtain ⟨hP, hD, hS, hl, hw, hq, ht⟩ := Rp
  obtain ⟨g1, g2, g3, g4, g5, g6, g7, g8⟩ := id hG
  have hXC : ∀ t : State, s.vm.Alike t.vm → H.size ≤ t.heap.size → (∀ q : Nat, q < H.size → t.heap[q]? = H[q]?) → mm_XC D cy A b ad h (.inr E) h' E s t := by
    intro t _ hz2 hk
    refine ⟨ad', rfl, hag, hP.kept (fun k x hx9 => hk x.1 ((hP k x hx9).lt)), hD, hw, Nat.le_trans hS.1 hz2, fun q h1 h2 => ?_⟩
    rw [hk q (Nat.lt_of_lt_of_le h1 hS.1)]
    exact hS.2.1 q h1 h2
  have hsum2 : ((st.map (mm_v b ad')).map fun v => v.category).sum + (13 * (mm_nms.length + 1) + 43) ≤ R.locals := by
    rw [mm_v_sum]
    show _ + (13 * (2 + 1) + 43) ≤ _
    omega
  have hfr2 : mm_nms.length + 3 < R.frames := by
    show 2 + 3 < R.frames
    omega
  have hout2 : ∀ x ∈ c.exceptionTable.toList, covers x (pc + 9) = false := fun x hx9 => (hout x hx9).elim
  have hnmfit : ∀ n ∈ mm_nms, Bundle.fit n = true := by decide +kernel
  have hsz : lsr.size = c.maxLocals := hl.1.trans hml.symm
  have go1 : ∀ (text : String), me.1 = RX1 → ix = 36 → E = mm_ISE → ic = 40 → (RX1, si, text) ∈ mm_str → W p l e R s m args below meth c H locs cells slots (vx_MQ below Qc (mm_XC D cy A b ad h (.inr E) h') args s (cells + 1) (slots + 6) A) (F0 m pc lsr (st.map (mm_v b ad'))) := by
    intro text e1 e2 e3 e4 hs9
    subst e2; subst e3; subst e4
    obtain ⟨sa, hstr⟩ := g3 _ hs9
    rw [e1] at hown
    exact vx_throwS (names := mm_nms) (text := text) (sa := sa) hx hb htr hown (by decide +kernel) hnmfit (mm_words hG hts (L9 := [Cond.classLink RX1 36 mm_ISE]) (by decide +kernel) _ List.mem_cons_self) (hts _ (mm_at_gw mm_inix_ISE rfl)) hstr (mm_words hG hts mm_atS1) (List.all_eq_true.mp mm_ot1) g4 g5 hS hsz d0 d3 d4 d6 d9 hout2 hfr2 hsum2 hc hz hlk hXC hS.2.2 (Nat.le_refl _) (Nat.le_refl _)
  have go2 : ∀ (text : String), me.1 = RX5 → ix = 69 → E = mm_NSE → ic = 73 → (RX5, si, text) ∈ mm_str → W p l e R s m args below meth c H locs cells slots (vx_MQ below Qc (mm_XC D cy A b ad h (.inr E) h') args s (cells + 1) (slots + 6) A) (F0 m pc lsr (st.map (mm_v b ad'))) := by
    intro text e1 e2 e3 e4 hs9
    subst e2; subst e3; subst e4
    obtain ⟨sa, hstr⟩ := g3 _ hs9
    rw [e1] at hown
    exact mm_throwN (text := text) (sa := sa) hx hb htr hown (mm_words hG hts (L9 := [Cond.classLink RX5 69 mm_NSE]) (by decide +kernel) _ List.mem_cons_self) (hts _ (mm_at_gw mm_inix_NSE rfl)) hstr (mm_words hG hts mm_atS2) (List.all_eq_true.mp mm_ot2) g4 g5 hS hsz d0 d3 d4 d6 d9 hout2 hfr2 hsum2 hc hz hlk hXC hS.2.2 (Nat.le_refl _) (Nat.le_refl _)
  simp only [List.mem_cons, Prod.mk.injEq, List.not_mem_nil, or_false] at hin
  rcases hin with ⟨e1, e2, e3, e4, e5⟩ | ⟨e1, e2, e3, e4, e5⟩ | ⟨e1, e2, e3, e4, e5⟩ | ⟨e1, e2, e3, e4, e5⟩
  · exact go1 "no program has this token here" e1 e2 e3 e5 (by rw [e4]; exact List.mem_cons_self)
  · exact go2 "there is no such node" e1 e2 e3 e5 (by rw [e4]; exact List.mem_cons_of_mem _ List.mem_cons_self)
  · exact go2 "there is no such what" e1 e2 e3 e5 (by rw [e4]; exact List.mem_cons_of_mem _ (List.mem_cons_of_mem _ List.mem_cons_self))
  · exact go2 "there is no such child" e1 e2 e3 e5 (by rw [e4]; exact List.mem_cons_of_mem _ (List.mem_cons_of_mem _ (List.mem_cons_of_mem _ List.mem_cons_self)))
end MMT
end
section
/-! Caught in the method's own table (the library's Shelf42 has the step) -/
section VXCATCH
variable {p : Program} {l : Launch} {e : Env} {R : Room} {s : State} {m : MethodId} {args : Array Value} {below : List Frame} {meth : Method} {c : Code} {H : Heap} {locs : List Loc} {cells slots : Nat} {Q : State → Prop}
variable {pc : Nat} {ls : Array Slot} {rest : List Value}
/-- caught by the row x of this method's table; the rows ahead don't take it -/
theorem vx_catch {own name : String} {E : String} {ce : Cell} {q : Addr} (hown : s.vm.findClass own = some m.cls) (pre : List ExceptionTableEntry) (x : ExceptionTableEntry) (suf : List ExceptionTableEntry) (hsplit : c.exceptionTable.toList = pre ++ x :: suf)
    (hpass : ∀ z ∈ pre, covers z pc = false ∨ (z.catchType ≠ 0 ∧ ∃ nm : String, (Cond.classLink own z.catchType nm).before args s = true ∧ va_Nc E nm s)) (hx : covers x pc = true) (h0 : x.catchType ≠ 0)
    (hlink : (Cond.classLink own x.catchType name).before args s = true) (hcast : (Cond.castable E name).before args s = true) (hcell : H[q]? = some ce) (hv : ce.vm = .none) (hcl : s.vm.findClass E = some ce.cls)
    (kk : W p l e R s m args below meth c H locs cells slots Q (F0 m x.handlerPc ls [.ref q])) : vx_W p l e R s m args below meth c H locs cells slots Q (F0 m pc ls rest) q := by
  intro T hT X
  have hpl : e.platform.magicAccessors = ({} : Platform).magicAccessors := by rw [X.admits.platform]
  obtain ⟨c3, c4, hc3, hc4, hasg⟩ := Cond.castable_spec hcast
  cases Option.some.inj (hc3.symm.trans hcl)
  obtain ⟨c5, hc5, hcl5⟩ := Cond.classLink_spec hown hlink e.platform hpl
  cases Option.some.inj (hc4.symm.trans hc5)
  obtain ⟨vm', X', st⟩ := Stand.thenCaughtThrough X q (g := F0 m pc ls rest) rfl (Steps.refl _) (by rw [hT]; exact hcell) (by rw [hv]; rfl) (by obtain ⟨k9, h9, -⟩ := Vm.findClass_spec hcl; exact ⟨k9, h9⟩) pre x suf hsplit
    (fun z hz => by
      rcases hpass z hz with h | ⟨hz0, nm, hl1, hn1⟩
      · exact Or.inl h
      · obtain ⟨c6, hc6, hcl6⟩ := Cond.classLink_spec hown hl1 e.platform hpl
        obtain ⟨a8, b8, h1, h2, h3⟩ := hn1
        cases Option.some.inj (h1.symm.trans hcl)
        cases Option.some.inj (h2.symm.trans hc6)
        exact Or.inr ⟨hz0, _, hcl6, h3⟩) hx (Or.inr ⟨h0, c4, hcl5, hasg⟩)
  obtain ⟨t, a1, b1⟩ := kk (T.setVm vm') hT X'
  exact ⟨t, st.trans a1, b1⟩
end VXCATCH
end
section
/-! THE SIMULATION: what the small machine answers, the machine does. -/
theorem mm_pop_eq {n : Nat} {st as r : List Value} (h : mm_pop n st = some (as, r)) : st = as.reverse ++ r ∧ as.length = n := by
  unfold mm_pop at h
  obtain ⟨hn, h⟩ := mm_if h
  simp only [Option.some.injEq, Prod.mk.injEq] at h
  obtain ⟨rfl, rfl⟩ := h
  refine ⟨?_, ?_⟩
  · rw [List.reverse_reverse, List.take_append_drop]
  · rw [List.length_reverse, List.length_take]
    omega
def mm_Link (own : String) (ix kind : Nat) (mf : mm_Me) (q : Bool × Nat × Nat × Nat) : Prop :=
  ((kind = 1 ∨ kind = 3 ∨ kind = 5) → Cond.methodLinkNest own ix mf.2.1 "TreeBuilder" ∈ mm_nest) ∧ (¬ (kind = 1 ∨ kind = 3 ∨ kind = 5) → Cond.methodLink own ix mf.2.1 ∈ mm_gw) ∧
  ((kind = 2 ∨ kind = 3 ∨ kind = 9) → q.1 = true) ∧ (¬ (kind = 2 ∨ kind = 3 ∨ kind = 9) → q.1 = false) ∧ ((kind = 4 ∨ kind = 5) → mf.2.1.name = "<init>" ∧ mf.2.2.2.2.1 = none) ∧ (¬ (kind = 4 ∨ kind = 5) → mf.2.1.name ≠ "<init>") ∧
  ((kind = 8 ∨ kind = 9) → mf.2.2.2.2.2.1 ≠ []) ∧ (¬ (kind = 8 ∨ kind = 9) → mf.2.2.2.2.2.1 = [])
theorem mm_chk_spec {own : String} {ix kind mj ps : Nat} {mf : mm_Me} (h : mm_chkC (own, ix, kind, mj, ps) = true) (h10 : ¬ kind = 10) (h11 : ¬ kind = 11) (hm : mm_all[mj]? = some mf) :
    mm_MT[mj]? = some mf ∧ ∃ q, mm_MOk mf q ∧ mm_Link own ix kind mf q := by
  unfold mm_chkC at h
  rw [if_neg h10, if_neg h11] at h
  dsimp only at h
  split at h
  · rename_i mf' q h1 h2
    have hlt : mj < mm_MT.length := (List.getElem?_eq_some_iff.mp h1).1
    have he : mf' = mf := by
      have h3 : mm_all[mj]? = mm_MT[mj]? := List.getElem?_append_left hlt
      rw [h3, h1] at hm
      exact Option.some.inj hm
    subst he
    obtain ⟨q', hq', hok⟩ := mm_M_spec h1
    cases Option.some.inj (hq'.symm.trans h2)
    simp only [Bool.and_eq_true, decide_eq_true_eq] at h
    obtain ⟨⟨⟨⟨a1, a2⟩, a3⟩, a4⟩, a5⟩ := h
    refine ⟨h1, q, hok, fun hk => ?_, fun hk => ?_, fun hk => ?_, fun hk => ?_, fun hk => ?_, fun hk => ?_, fun hk => ?_, fun hk => ?_⟩
    · rw [if_pos hk] at a1; exact mm_at_nest a1 rfl
    · rw [if_neg hk] at a1; exact mm_at_gw a1 rfl
    · rw [if_pos hk] at a2; exact a2
    · rw [if_neg hk] at a2; simpa using a2
    · rw [if_pos hk] at a3; simpa using a3
    · rw [if_neg hk] at a3; simpa using a3
    · rw [if_pos hk] at a4; simpa using a4
    · rw [if_neg hk] at a4; simpa using a4
  · cases h
theorem mm_codeW_nil {mf : mm_Me} (h : mf.2.2.2.2.2.1 = []) : mm_codeW mf = .code mf.2.1 mf.2.2.1 mf.2.2.2.1 mf.2.2.2.2.1 := by unfold mm_codeW; rw [if_pos h]
theorem mm_codeW_tab {mf : mm_Me} (h : mf.2.2.2.2.2.1 ≠ []) : mm_codeW mf = .codeWith mf.2.1 mf.2.2.1 mf.2.2.2.1 mf.2.2.2.2.1 mf.2.2.2.2.2.1 := by unfold mm_codeW; rw [if_neg h]
theorem mm_wsM_good {mf : mm_Me} {q : Bool × Nat × Nat × Nat} (h : mm_MOk mf q) : GoodIn mm_gw (mm_wsM mf) := mm_goodIn fun w hw => by
  rcases List.mem_cons.mp hw with rfl | hw
  · exact h.1
  · exact hw
section MMI
variable {p : Program} {l : Launch} {e : Env} {R : Room} {s : State} {m : MethodId} {args : Array Value} {below : List Frame} {meth : Method} {c : Code} {H : Heap} {locs : List Loc} {cells slots : Nat} {Q : State → Prop}
variable {D : va_G} {cy : Nat → ClassId} {A : Nat → Prop} {b L : Nat} {xs : Nat → Int32} {me : mm_Me} {ad : Nat → Nat} {h h1 : mm_H} {ls : mm_L} {st as r : List Value} {lsr : Array Slot} {pc op ix d n mj c1 z1 : Nat} {thr : Bool} {rr : Option Value ⊕ String}
set_option maxHeartbeats 2000000 in
theorem mm_call_go (hSn : mm_Sound n) (C : mm_Cx D cy A b L xs p l s m args meth c me) (Rp : mm_Rp D cy A b s.heap me.2.2.2.1 ad h ls st H locs lsr) (hd : 2 ≤ d) (hfr : d ≤ R.frames) (hlo : 41 * d ≤ R.locals)
    (hdg : (op = 0 → decode me.2.2.1 pc = .ok (.invokevirtual ix, 3)) ∧ (op = 1 → decode me.2.2.1 pc = .ok (.invokestatic ix, 3)) ∧ (op = 2 → decode me.2.2.1 pc = .ok (.invokespecial ix, 3)))
    (ha : mm_call me op ix pc ls st h cells slots = some (.inr (.inr (.inr (mj, as, r, thr))))) (hev : mm_ev xs L n (d - 1) mj 0 (lv_args 0 as) [] h 0 0 = some (rr, h1, c1, z1)) (hc : cells + c1 ≤ R.cells) (hz : slots + z1 ≤ R.slots)
    (hthr : ∀ E, rr = .inr E → thr = true)
    (K1 : ∀ v, rr = .inl v → ∀ (ad' : Nat → Nat) (H' : Heap) (locs' : List Loc), mm_ag h.length ad ad' → va_P D mm_cl (mm_W cy b ad' h1) H' → va_D A (mm_W cy b ad' h1) → mm_wh h1 → va_S A s.heap H' locs' → (∀ w, v = some w → ∃ x, w = .int x) → W p l e R s m args below meth c H' locs' (cells + c1) (slots + z1) Q (F0 m (pc + 3) lsr ((v.map (mm_v b ad')).toList ++ r.map (mm_v b ad))))
    (K2 : ∀ E, rr = .inr E → ∀ (ad' : Nat → Nat) (H' : Heap) (locs' : List Loc) (q : Addr) (ce : Cell), mm_ag h.length ad ad' → va_P D mm_cl (mm_W cy b ad' h1) H' → va_D A (mm_W cy b ad' h1) → mm_wh h1 → va_S A s.heap H' locs' → H'[q]? = some ce → ce.vm = .none → s.vm.findClass E = some ce.cls → vx_W p l e R s m args below meth c H' locs' (cells + c1) (slots + z1) Q (F0 m pc lsr (r.map (mm_v b ad))) q) :
    W p l e R s m args below meth c H locs cells slots Q (F0 m pc lsr (st.map (mm_v b ad))) := by
  obtain ⟨hx, hb, hml, hown, hts, hr, hlk, hnm, htb, hA, hG, htr⟩ := C
  obtain ⟨hP, hD, hS, hl, hw, hq, ht⟩ := Rp
  have hfix : CallFix p m c me.2.2.1 me.2.2.2.1 s args mm_gw me.1 := ⟨hx, hb, hml, hown, hts⟩
  have hpre : ∀ (as' : List Value) (U : State), U.heap = H → s.WarmedH U.vm → mm_Pc D cy A b L xs ad as' h (as'.map (mm_v b ad)).toArray U := by
    intro as' U hU hW
    refine ⟨rfl, by rw [hU]; exact hP, hD, ?_, fun q hq9 => hA q (Nat.le_trans hS.1 (by rw [← hU]; exact hq9))⟩
    rw [hU]
    exact hG.at hW hS.1 hS.2.1
  have hd1 : 1 ≤ d - 1 := by omega
  unfold mm_call at ha
  split at ha
  · rename_i o i kind mj' ps hC
    obtain ⟨rfl, rfl, hk⟩ := mm_C_spec hC
    split at ha
    · split at ha
      · have ha := (mm_if ha).2
        cases ha
      · cases ha
    · rename_i hn10
      split at ha
      · split at ha
        · have ha := (mm_if ha).2
          cases ha
        · cases ha
      · rename_i hn11
        split at ha
        · cases ha
        · rename_i mf hmf
          split at ha
          · cases ha
          · rename_i as0 r0 hpop
            obtain ⟨hst, hlen⟩ := mm_pop_eq hpop
            split at ha
            · rename_i hop
              subst hop
              obtain ⟨⟨hkind, hsum, hlg⟩, ha⟩ := mm_if ha
              simp only [Option.some.injEq, Sum.inr.injEq, Prod.mk.injEq] at ha
              obtain ⟨rfl, rfl, rfl, rfl⟩ := ha
              obtain ⟨hMT, q, hok, hlink⟩ := mm_chk_spec hk (by omega) (by omega) hmf
              obtain ⟨v, rfl⟩ : ∃ v, rr = .inl v := by
                cases rr with
                | inl v => exact ⟨v, rfl⟩
                | inr E => have := hthr E rfl; cases this
              have hwas : mm_wl h.length as0 := fun w hw9 => ht w (by rw [hst]; exact List.mem_append_left _ (List.mem_reverse.mpr hw9))
              have hM := mm_met (hSn l D cy A b L xs (d - 1) mj' mf as0 h (.inl v) h1 c1 z1 ad htr hMT hd1 hlg hev hw hwas) (fun E st t ⟨_, hE, _⟩ => by cases hE)
              have hstk : st.map (mm_v b ad) = (as0.map (mm_v b ad)).reverse ++ r0.map (mm_v b ad) := by rw [hst, List.map_append, List.map_reverse]
              have hn9 : (as0.map (mm_v b ad)).length = mf.2.2.2.2.2.2.1 := by rw [List.length_map]; exact hlen
              have hR9 : (mm_room (d - 1) c1 z1).frames + 1 ≤ R.frames ∧ 8 + (mf.2.2.2.1 + 11) + (mm_room (d - 1) c1 z1).locals ≤ R.locals := by
                have := hok.2.2.2.2.2.2.2.2.2.2
                exact ⟨by show d - 1 + 1 ≤ _; omega, by show 8 + (mf.2.2.2.1 + 11) + 41 * (d - 1) ≤ _; omega⟩
              obtain ⟨o1, o2, o3, o4, o5, o6, o7, o8, o9, o10, o11⟩ := id hok
              obtain ⟨k1, k2, k3, k4, k5, k6, k7, k8⟩ := hlink
              have hcl1 : mf.2.1.cls ≠ "java/lang/invoke/MethodHandle" ∧ mf.2.1.cls ≠ "java/lang/invoke/VarHandle" ∧ (parseMethodDescriptor mf.2.1.desc).map (fun d => d.parameters.length) = some mf.2.2.2.2.2.2.1 := by rw [o6]; exact ⟨o8, o9, o10⟩
              have hini : (Cond.initialized mf.2.1.cls).before args s = true := by rw [o6]; exact hts _ o5
              have hstat : (Cond.static mf.2.1).before args s = true := hts _ (o2 (k3 (by omega)))
              have hsm : 2 * (F0 m pc lsr (st.map (mm_v b ad))).monitorRoom + ((r0.map (mm_v b ad)).map fun v => v.category).sum ≤ 8 := lv_room (by rw [mm_v_sum]; exact hsum)
              have hrun : va_Run p l e R s m args below meth c H locs cells slots c1 z1 (F0 m pc lsr (st.map (mm_v b ad))) (r0.map (mm_v b ad)) (mm_Qc D cy A b ad h (.inl v) h1 (as0.map (mm_v b ad)).toArray) A := by
                rcases (show kind = 2 ∨ kind = 3 ∨ kind = 9 from hkind) with rfl | rfl | rfl
                · exact va_runS hfix hM ⟨callB_of _ hts (mm_wsM_good hok) (by unfold mm_wsM; rw [mm_codeW_nil (k8 (by omega))]) rfl rfl hini (hts _ (k2 (by omega))) hcl1 hR9, hstat⟩ ⟨mm_blind, hpre as0⟩ rfl hn9 hl.1 hstk hsm (hdg.2.1 rfl) ⟨hc, hz⟩
                · exact va_runSN hfix hM ⟨va_cnB (host := "TreeBuilder") _ hts (mm_wsM_good hok) (by unfold mm_wsM; rw [mm_codeW_nil (k8 (by omega))]) rfl rfl (hG.2.1 _ (k1 (by omega))) hini hcl1 hR9, hstat, trivial⟩ ⟨mm_blind, hpre as0⟩ rfl hn9 hl.1 hstk hsm (hdg.2.1 rfl) ⟨hc, hz⟩
                · have hcw := mm_codeW_tab (k7 (by omega))
                  have hcin : Cond.codeWith mf.2.1 mf.2.2.1 mf.2.2.2.1 mf.2.2.2.2.1 mf.2.2.2.2.2.1 ∈ mm_wsM mf := by unfold mm_wsM; rw [hcw]; exact List.mem_cons_self
                  refine vx_runSW (hh := mf.2.2.2.2.2.1) (bytes := mf.2.2.1) (maxL := mf.2.2.2.1) (ret := mf.2.2.2.2.1) hfix hM ⟨⟨rfl, rfl, hR9.1, hR9.2, pay_in hts (mm_wsM_good hok), hcin⟩, hts _ (by rw [← hcw]; exact o1), hini, ⟨hcl1.1, hcl1.2.1⟩, fun sig h9 => ?_, hts _ (k2 (by omega)), hstat⟩ ⟨mm_blind, hpre as0⟩ rfl hn9 hl.1 hstk hsm (hdg.2.1 rfl) ⟨hc, hz⟩
                  have h2 := hcl1.2.2
                  rw [h9] at h2
                  exact (Option.some.inj h2).symm
              exact mm_back hrun hS (fun ad' H' locs' a1 a2 a3 a4 a5 a6 => K1 v rfl ad' H' locs' a1 a2 a3 a4 a5 a6)
            · rename_i hop1
              split at ha
              · rename_i a r'
                split at ha
                · rename_i cj fs hcell
                  obtain ⟨⟨hsum, hcls, hkind, hlg⟩, ha⟩ := mm_if ha
                  simp only [Option.some.injEq, Sum.inr.injEq, Prod.mk.injEq] at ha
                  obtain ⟨rfl, rfl, rfl, hth⟩ := ha
                  obtain ⟨hMT, q, hok, hlink⟩ := mm_chk_spec hk (by omega) (by omega) hmf
                  have hwas : mm_wl h.length (.ref a :: as0) := mm_wl_cons.mpr ⟨ht _ (by rw [hst]; exact List.mem_append_right _ List.mem_cons_self), fun w hw9 => ht w (by rw [hst]; exact List.mem_append_left _ (List.mem_reverse.mpr hw9))⟩
                  have hM0 := hSn l D cy A b L xs (d - 1) mj' mf (.ref a :: as0) h rr h1 c1 z1 ad htr hMT hd1 hlg hev hw hwas
                  have hstk : st.map (mm_v b ad) = (as0.map (mm_v b ad)).reverse ++ .ref (ad a) :: r'.map (mm_v b ad) := by rw [hst, List.map_append, List.map_reverse]; rfl
                  have hn9 : (as0.map (mm_v b ad)).length = mf.2.2.2.2.2.2.1 := by rw [List.length_map]; exact hlen
                  have hR9 : (mm_room (d - 1) c1 z1).frames + 1 ≤ R.frames ∧ 8 + (mf.2.2.2.1 + 11) + (mm_room (d - 1) c1 z1).locals ≤ R.locals := by
                    have := hok.2.2.2.2.2.2.2.2.2.2
                    exact ⟨by show d - 1 + 1 ≤ _; omega, by show 8 + (mf.2.2.2.1 + 11) + 41 * (d - 1) ≤ _; omega⟩
                  obtain ⟨o1, o2, o3, o4, o5, o6, o7, o8, o9, o10, o11⟩ := id hok
                  obtain ⟨k1, k2, k3, k4, k5, k6, k7, k8⟩ := hlink
                  have hcl1 : mf.2.1.cls ≠ "java/lang/invoke/MethodHandle" ∧ mf.2.1.cls ≠ "java/lang/invoke/VarHandle" ∧ (parseMethodDescriptor mf.2.1.desc).map (fun d => d.parameters.length) = some mf.2.2.2.2.2.2.1 := by rw [o6]; exact ⟨o8, o9, o10⟩
                  have hini : (Cond.initialized mf.2.1.cls).before args s = true := by rw [o6]; exact hts _ o5
                  have hq0 : q.1 = false := k4 (by omega)
                  have hinst : (Cond.instanceMethod mf.2.1).before args s = true := hts _ (o3 hq0)
                  have hsm : 2 * (F0 m pc lsr (st.map (mm_v b ad))).monitorRoom + ((r'.map (mm_v b ad)).map fun v => v.category).sum ≤ 8 := lv_room (by rw [mm_v_sum]; exact hsum)
                  have hrecv : ∃ cellB : Cell, H[ad a]? = some cellB ∧ cellB.vm.isStatics = false ∧ s.vm.findClass mf.1 = some cellB.cls := by
                    cases hcj : mm_cl[cj]? with
                    | none => rw [hcj] at hcls; cases hcls
                    | some qc =>
                      rw [hcj] at hcls
                      have e9 : qc.1 = mf.1 := Option.some.inj hcls
                      rw [← e9]
                      exact va_recv hG.1 hP hcj (mm_W_get hcell)
                  have hpV : PreV s H mf.1 (ad a) (mm_Pc D cy A b L xs ad (.ref a :: as0) h) (as0.map (mm_v b ad)) := ⟨mm_blind, hrecv, hpre (.ref a :: as0)⟩
                  have hpS : PreS s H (mm_Pc D cy A b L xs ad (.ref a :: as0) h) (.ref (ad a) :: as0.map (mm_v b ad)) := ⟨mm_blind, hpre (.ref a :: as0)⟩
                  rcases hkind with ⟨hop0, hkind⟩ | ⟨hop2, hkind⟩
                  · have hsel : (Cond.selects mf.1 mf.2.1 mf.2.1).before args s = true := hts _ (o4 hq0 (k6 (by omega)))
                    cases rr with
                    | inl v =>
                      have hM := mm_met hM0 (fun E st t ⟨_, hE, _⟩ => by cases hE)
                      have hrun : va_Run p l e R s m args below meth c H locs cells slots c1 z1 (F0 m pc lsr (st.map (mm_v b ad))) (r'.map (mm_v b ad)) (mm_Qc D cy A b ad h (.inl v) h1 (Value.ref (ad a) :: as0.map (mm_v b ad)).toArray) A := by
                        rcases (show kind = 0 ∨ kind = 1 ∨ kind = 8 from hkind) with rfl | rfl | rfl
                        · exact va_runV (C := mf.1) hfix hM ⟨callB_of _ hts (mm_wsM_good hok) (by unfold mm_wsM; rw [mm_codeW_nil (k8 (by omega))]) rfl rfl hini (hts _ (k2 (by omega))) hcl1 hR9, hinst, hsel⟩ hpV rfl hn9 hl.1 hstk hsm (hdg.1 hop0) ⟨hc, hz⟩
                        · exact va_runVN (C := mf.1) hfix hM ⟨va_cnB (host := "TreeBuilder") _ hts (mm_wsM_good hok) (by unfold mm_wsM; rw [mm_codeW_nil (k8 (by omega))]) rfl rfl (hG.2.1 _ (k1 (by omega))) hini hcl1 hR9, hinst, hsel⟩ hpV rfl hn9 hl.1 hstk hsm (hdg.1 hop0) ⟨hc, hz⟩
                        · have hcw := mm_codeW_tab (k7 (by omega))
                          have hcin : Cond.codeWith mf.2.1 mf.2.2.1 mf.2.2.2.1 mf.2.2.2.2.1 mf.2.2.2.2.2.1 ∈ mm_wsM mf := by unfold mm_wsM; rw [hcw]; exact List.mem_cons_self
                          refine vx_runVW (C := mf.1) (hh := mf.2.2.2.2.2.1) (bytes := mf.2.2.1) (maxL := mf.2.2.2.1) (ret := mf.2.2.2.2.1) hfix hM ⟨⟨rfl, rfl, hR9.1, hR9.2, pay_in hts (mm_wsM_good hok), hcin⟩, hts _ (by rw [← hcw]; exact o1), hini, ⟨hcl1.1, hcl1.2.1⟩, fun sig h9 => ?_, hts _ (k2 (by omega)), hinst, hsel⟩ hpV rfl hn9 hl.1 hstk hsm (hdg.1 hop0) ⟨hc, hz⟩
                          have h2 := hcl1.2.2
                          rw [h9] at h2
                          exact (Option.some.inj h2).symm
                      exact mm_back hrun hS (fun ad' H' locs' a1 a2 a3 a4 a5 a6 => K1 v rfl ad' H' locs' a1 a2 a3 a4 a5 a6)
                    | inr E =>
                      have hk2 : kind < 2 := by
                        have h9 := hthr E rfl
                        rw [← hth] at h9
                        exact of_decide_eq_true h9
                      have hrun : vx_Run p l e R s m args below meth c H locs cells slots c1 z1 (F0 m pc lsr (st.map (mm_v b ad))) (r'.map (mm_v b ad)) (mm_Qc D cy A b ad h (.inr E) h1 (Value.ref (ad a) :: as0.map (mm_v b ad)).toArray) (mm_XC D cy A b ad h (.inr E) h1) A := by
                        rcases (show kind = 0 ∨ kind = 1 by omega) with rfl | rfl
                        · exact vx_runV (C := mf.1) hfix hM0 ⟨callB_of _ hts (mm_wsM_good hok) (by unfold mm_wsM; rw [mm_codeW_nil (k8 (by omega))]) rfl rfl hini (hts _ (k2 (by omega))) hcl1 hR9, hinst, hsel⟩ hpV rfl hn9 hl.1 hstk hsm (hdg.1 hop0) ⟨hc, hz⟩
                        · exact mm_runVN (C := mf.1) hfix hM0 ⟨va_cnB (host := "TreeBuilder") _ hts (mm_wsM_good hok) (by unfold mm_wsM; rw [mm_codeW_nil (k8 (by omega))]) rfl rfl (hG.2.1 _ (k1 (by omega))) hini hcl1 hR9, hinst, hsel⟩ hpV rfl hn9 hl.1 hstk hsm (hdg.1 hop0) ⟨hc, hz⟩
                      exact mm_backX hrun hS (fun ad' H' locs' q ce a1 a2 a3 a4 a5 a6 a7 a8 => K2 E rfl ad' H' locs' q ce a1 a2 a3 a4 a5 a6 a7 a8)
                  · obtain ⟨v, rfl⟩ : ∃ v, rr = .inl v := by
                      cases rr with
                      | inl v => exact ⟨v, rfl⟩
                      | inr E =>
                        have h9 := hthr E rfl
                        rw [← hth] at h9
                        have := of_decide_eq_true h9
                        omega
                    have hM := mm_met hM0 (fun E st t ⟨_, hE, _⟩ => by cases hE)
                    obtain ⟨hinit, hrn⟩ := k5 (by omega)
                    have hcn : mm_wsM mf = Cond.code mf.2.1 mf.2.2.1 mf.2.2.2.1 none :: mm_gw := by unfold mm_wsM; rw [mm_codeW_nil (k8 (by omega)), hrn]
                    have hrun : va_Run p l e R s m args below meth c H locs cells slots c1 z1 (F0 m pc lsr (st.map (mm_v b ad))) (r'.map (mm_v b ad)) (mm_Qc D cy A b ad h (.inl v) h1 (Value.ref (ad a) :: as0.map (mm_v b ad)).toArray) A := by
                      rcases (show kind = 4 ∨ kind = 5 from hkind) with rfl | rfl
                      · exact va_runI hfix hM ⟨callB_of _ hts (mm_wsM_good hok) hcn rfl rfl hini (hts _ (k2 (by omega))) hcl1 hR9, hinit, hinst⟩ hpS rfl hn9 hl.1 hstk hsm (hdg.2.2 hop2) ⟨hc, hz⟩
                      · exact va_runIN hfix hM ⟨va_cnB (host := "TreeBuilder") _ hts (mm_wsM_good hok) hcn rfl rfl (hG.2.1 _ (k1 (by omega))) hini hcl1 hR9, hinit, hinst⟩ hpS rfl hn9 hl.1 hstk hsm (hdg.2.2 hop2) ⟨hc, hz⟩
                    exact mm_back hrun hS (fun ad' H' locs' a1 a2 a3 a4 a5 a6 => K1 v rfl ad' H' locs' a1 a2 a3 a4 a5 a6)
                · cases ha
              · cases ha
  · cases ha
end MMI
end
section
/-! What the small machine's instruction is that ends, throws or calls. -/
section MMJ
variable {me : mm_Me} {xs : Nat → Int32} {L : Nat} {h : mm_H} {ls : mm_L} {st : List Value} {pc len c z ix : Nat} {x : (Option Value) ⊕ (String ⊕ (Nat × List Value × List Value × Bool))}
theorem mm_no_go {pc : Nat} {ls : mm_L} {st : List Value} {h : mm_H} {c z : Nat} (ha : mm_go pc ls st h c z = some (.inr x)) : False := by
  unfold mm_go at ha
  cases ha
theorem mm_no_load {i k : Nat} (ha : mm_load i len pc k ls st h c z = some (.inr x)) : False := by
  unfold mm_load at ha
  split at ha <;> first | exact mm_no_go ha | cases ha
theorem mm_no_store {i k nL : Nat} (ha : mm_store i len pc nL k ls st h c z = some (.inr x)) : False := by
  unfold mm_store at ha
  have ha := (mm_if ha).2
  split at ha <;> first | exact mm_no_go ha | cases ha
theorem mm_no_i2 {f : Int32 → Int32 → Int32} (ha : mm_i2 f pc ls st h c z = some (.inr x)) : False := by
  unfold mm_i2 at ha
  split at ha <;> first | exact mm_no_go ha | cases ha
theorem mm_no_l2 {f : Int64 → Int64 → Int64} (ha : mm_l2 f pc ls st h c z = some (.inr x)) : False := by
  unfold mm_l2 at ha
  split at ha <;> first | exact mm_no_go ha | cases ha
theorem mm_no_ls {f : Int64 → Int32 → Int64} (ha : mm_ls f pc ls st h c z = some (.inr x)) : False := by
  unfold mm_ls at ha
  split at ha <;> first | exact mm_no_go ha | cases ha
theorem mm_no_br {off : Int} {bb : Bool} (ha : mm_br bb off pc ls st h c z = some (.inr x)) : False := by
  unfold mm_br at ha
  split at ha
  · cases ha
  · split at ha <;> exact mm_no_go ha
theorem mm_no_getf {own : String} (ha : mm_getf own ix pc ls st h c z = some (.inr x)) : False := by
  unfold mm_getf at ha
  split at ha
  · split at ha
    · have ha := (mm_if ha).2
      split at ha <;> first | exact mm_no_go ha | cases ha
    · cases ha
  · cases ha
theorem mm_no_putf {own mn : String} (ha : mm_putf own mn ix pc ls st h c z = some (.inr x)) : False := by
  unfold mm_putf at ha
  split at ha
  · split at ha
    · exact mm_no_go (mm_if ha).2
    · cases ha
  · cases ha
theorem mm_no_ald {t0 : Nat → Bool} {wide : Bool} (ha : mm_ald t0 wide xs L pc ls st h c z = some (.inr x)) : False := by
  unfold mm_ald at ha
  split at ha
  · split at ha
    · exact mm_no_go (mm_if ha).2
    · exact mm_no_go (mm_if ha).2
    · cases ha
  · exact mm_no_go (mm_if ha).2
  · cases ha
theorem mm_no_ast {t0 : Nat → Bool} (ha : mm_ast t0 pc ls st h c z = some (.inr x)) : False := by
  unfold mm_ast at ha
  split at ha
  · split at ha
    · exact mm_no_go (mm_if ha).2
    · cases ha
  · split at ha
    · exact mm_no_go (mm_if ha).2
    · cases ha
  · cases ha
theorem mm_no_alen (ha : mm_alen L pc ls st h c z = some (.inr x)) : False := by
  unfold mm_alen at ha
  split at ha
  · split at ha
    · exact mm_no_go (mm_if ha).2
    · cases ha
  · exact mm_no_go ha
  · cases ha
theorem mm_no_newa {t : ArrayType} (ha : mm_newa t pc ls st h c z = some (.inr x)) : False := by
  unfold mm_newa at ha
  split at ha
  · split at ha
    · cases ha
    · exact mm_no_go ha
  · cases ha
/-- a method's end at pc -/
def mm_Ret (me : mm_Me) (v : Option Value) (pc : Nat) : Prop := (v = none ∧ me.2.2.2.2.1 = none ∧ decode me.2.2.1 pc = .ok (.return_, 1)) ∨ ∃ (y : Int32) (ty : FieldType), v = some (.int y) ∧ me.2.2.2.2.1 = some ty ∧ (ty = .int ∨ ty = .boolean) ∧ narrow ty (.int y) = .int y ∧ decode me.2.2.1 pc = .ok (.ireturn, 1)
/-- a throw at pc -/
def mm_Thr (me : mm_Me) (E : String) (pc : Nat) (st : List Value) : Prop := me.2.2.2.2.2.1 = [] ∧ (st.map fun v => v.category).sum ≤ 8 ∧ ∃ (ix si ic : Nat), (me.1, ix, E, si, ic) ∈ [(RX1, 36, "java/lang/IllegalStateException", 38, 40), (RX5, 69, "java/util/NoSuchElementException", 71, 73), (RX5, 69, "java/util/NoSuchElementException", 92, 73), (RX5, 69, "java/util/NoSuchElementException", 94, 73)] ∧
  decode me.2.2.1 pc = .ok (.new ix, 3) ∧ decode me.2.2.1 (pc + 3) = .ok (.dup, 1) ∧ decode me.2.2.1 (pc + 4) = .ok (.ldc si, 2) ∧ decode me.2.2.1 (pc + 6) = .ok (.invokespecial ic, 3) ∧ decode me.2.2.1 (pc + 9) = .ok (.athrow, 1)
/-- a call at pc -/
def mm_Cal (me : mm_Me) (pc : Nat) (ls : mm_L) (st : List Value) (h : mm_H) (c z : Nat) (x : (Option Value) ⊕ (String ⊕ (Nat × List Value × List Value × Bool))) : Prop := ∃ (op ix : Nat), mm_call me op ix pc ls st h c z = some (.inr x) ∧ (op = 0 → decode me.2.2.1 pc = .ok (.invokevirtual ix, 3)) ∧ (op = 1 → decode me.2.2.1 pc = .ok (.invokestatic ix, 3)) ∧ (op = 2 → decode me.2.2.1 pc = .ok (.invokespecial ix, 3))
theorem mm_call_x {op : Nat} (ha : mm_call me op ix pc ls st h c z = some (.inr x)) : ∃ q, x = .inr (.inr q) := by
  unfold mm_call at ha
  split at ha
  · split at ha
    · split at ha
      · exact (mm_no_go (mm_if ha).2).elim
      · cases ha
    · split at ha
      · split at ha
        · exact (mm_no_go (mm_if ha).2).elim
        · cases ha
      · split at ha
        · cases ha
        · split at ha
          · cases ha
          · split at ha
            · have ha := (mm_if ha).2
              cases ha
              exact ⟨_, rfl⟩
            · split at ha
              · split at ha
                · have ha := (mm_if ha).2
                  cases ha
                  exact ⟨_, rfl⟩
                · cases ha
              · cases ha
  · cases ha
set_option maxHeartbeats 4000000 in
theorem mm_act_x {i : Instr} (hdg : decode me.2.2.1 pc = .ok (i, len)) (ha : mm_act me xs L i len pc ls st h c z = some (.inr x)) :
    (∃ v, x = .inl v ∧ st = v.toList ∧ mm_Ret me v pc) ∨ (∃ E, x = .inr (.inl E) ∧ mm_Thr me E pc st) ∨ mm_Cal me pc ls st h c z x := by
  cases i with
  | aload_n k => exact (mm_no_load (mm_if ha).2).elim
  | iload_n k => exact (mm_no_load (mm_if ha).2).elim
  | lload_n k => exact (mm_no_load (mm_if ha).2).elim
  | aload k => exact (mm_no_load (mm_if ha).2).elim
  | iload k => exact (mm_no_load (mm_if ha).2).elim
  | astore_n k => exact (mm_no_store (mm_if ha).2).elim
  | istore_n k => exact (mm_no_store (mm_if ha).2).elim
  | astore k => exact (mm_no_store (mm_if ha).2).elim
  | istore k => exact (mm_no_store (mm_if ha).2).elim
  | iinc k n =>
    have ha := (mm_if ha).2
    split at ha <;> first | exact (mm_no_go ha).elim | cases ha
  | iconst n => exact (mm_no_go (mm_if ha).2).elim
  | bipush n => exact (mm_no_go (mm_if ha).2).elim
  | sipush n => exact (mm_no_go (mm_if ha).2).elim
  | ldc n =>
    have ha := (mm_if ha).2
    split at ha <;> first | exact (mm_no_go ha).elim | cases ha
  | ldc2_w n =>
    have ha := (mm_if ha).2
    split at ha <;> first | exact (mm_no_go ha).elim | cases ha
  | iadd => exact (mm_no_i2 (mm_if ha).2).elim
  | isub => exact (mm_no_i2 (mm_if ha).2).elim
  | imul => exact (mm_no_i2 (mm_if ha).2).elim
  | iand => exact (mm_no_i2 (mm_if ha).2).elim
  | ior => exact (mm_no_i2 (mm_if ha).2).elim
  | ishl => exact (mm_no_i2 (mm_if ha).2).elim
  | ishr => exact (mm_no_i2 (mm_if ha).2).elim
  | land => exact (mm_no_l2 (mm_if ha).2).elim
  | lor => exact (mm_no_l2 (mm_if ha).2).elim
  | lshl => exact (mm_no_ls (mm_if ha).2).elim
  | lshr => exact (mm_no_ls (mm_if ha).2).elim
  | lushr => exact (mm_no_ls (mm_if ha).2).elim
  | lcmp =>
    have ha := (mm_if ha).2
    split at ha <;> first | exact (mm_no_go ha).elim | cases ha
  | i2l =>
    have ha := (mm_if ha).2
    split at ha <;> first | exact (mm_no_go ha).elim | cases ha
  | i2b =>
    have ha := (mm_if ha).2
    split at ha <;> first | exact (mm_no_go ha).elim | cases ha
  | l2i =>
    have ha := (mm_if ha).2
    split at ha <;> first | exact (mm_no_go ha).elim | cases ha
  | dup =>
    have ha := (mm_if ha).2
    split at ha <;> first | exact (mm_no_go (mm_if ha).2).elim | cases ha
  | dup2 =>
    have ha := (mm_if ha).2
    split at ha <;> first | exact (mm_no_go (mm_if ha).2).elim | cases ha
  | pop =>
    have ha := (mm_if ha).2
    split at ha <;> first | exact (mm_no_go (mm_if ha).2).elim | cases ha
  | goto off =>
    have ha := (mm_if ha).2
    split at ha <;> first | exact (mm_no_go ha).elim | cases ha
  | ifCond cd off =>
    have ha := (mm_if ha).2
    split at ha <;> first | exact (mm_no_br ha).elim | cases ha
  | if_icmp cd off =>
    have ha := (mm_if ha).2
    split at ha <;> first | exact (mm_no_br ha).elim | cases ha
  | tableswitch dflt lo hi offs =>
    dsimp only [mm_act] at ha
    split at ha
    · split at ha
      · exact (mm_no_go (mm_if ha).2).elim
      · cases ha
    · cases ha
  | lookupswitch dflt ps =>
    dsimp only [mm_act] at ha
    split at ha
    · have ha := (mm_if ha).2
      split at ha
      · exact (mm_no_go ha).elim
      · cases ha
    · cases ha
  | getfield ix => exact (mm_no_getf (mm_if ha).2).elim
  | putfield ix => exact (mm_no_putf (mm_if ha).2).elim
  | iaload => exact (mm_no_ald (mm_if ha).2).elim
  | baload => exact (mm_no_ald (mm_if ha).2).elim
  | laload => exact (mm_no_ald (mm_if ha).2).elim
  | iastore => exact (mm_no_ast (mm_if ha).2).elim
  | bastore => exact (mm_no_ast (mm_if ha).2).elim
  | lastore => exact (mm_no_ast (mm_if ha).2).elim
  | arraylength => exact (mm_no_alen (mm_if ha).2).elim
  | newarray t => exact (mm_no_newa (mm_if ha).2).elim
  | new ix =>
    have hh := mm_if ha; clear ha; obtain ⟨rfl, ha⟩ := hh
    unfold mm_new at ha
    split at ha
    · split at ha
      · exact (mm_no_go ha).elim
      · cases ha
    · split at ha
      · rename_i d1 d2 d3 d4
        obtain ⟨⟨g1, g2, g3⟩, ha⟩ := mm_if ha
        cases ha
        exact Or.inr (Or.inl ⟨_, rfl, g1, g2, _, _, _, g3, hdg, d1, d2, d3, d4⟩)
      · cases ha
  | invokevirtual ix =>
    have hh := mm_if ha; clear ha; obtain ⟨rfl, ha⟩ := hh
    exact Or.inr (Or.inr ⟨0, ix, ha, fun _ => hdg, fun q => (by cases q), fun q => (by cases q)⟩)
  | invokestatic ix =>
    have hh := mm_if ha; clear ha; obtain ⟨rfl, ha⟩ := hh
    exact Or.inr (Or.inr ⟨1, ix, ha, fun q => (by cases q), fun _ => hdg, fun q => (by cases q)⟩)
  | invokespecial ix =>
    have hh := mm_if ha; clear ha; obtain ⟨rfl, ha⟩ := hh
    exact Or.inr (Or.inr ⟨2, ix, ha, fun q => (by cases q), fun q => (by cases q), fun _ => hdg⟩)
  | return_ =>
    have hh := mm_if ha; clear ha; obtain ⟨rfl, ha⟩ := hh
    unfold mm_ret0 at ha
    split at ha
    · rename_i hrt
      cases ha
      exact Or.inl ⟨none, rfl, rfl, Or.inl ⟨rfl, hrt, hdg⟩⟩
    · cases ha
  | ireturn =>
    have hh := mm_if ha; clear ha; obtain ⟨rfl, ha⟩ := hh
    unfold mm_retv at ha
    split at ha
    · rename_i ty v hrt
      obtain ⟨⟨g1, g2⟩, ha⟩ := mm_if ha
      cases ha
      exact Or.inl ⟨some (.int v), rfl, rfl, Or.inr ⟨v, ty, rfl, hrt, g1, g2, hdg⟩⟩
    · cases ha
  | _ => cases ha
end MMJ
end
section
theorem mm_X_E {own o E : String} {ix i ps : Nat} (h : mm_X own ix = some (o, i, E, ps)) : E = mm_ISE ∨ E = mm_NSE := by
  have hall : mm_XT.all (fun e => decide (e.2.2.1 = mm_ISE) || decide (e.2.2.1 = mm_NSE)) = true := by decide +kernel
  have h2 := (mm_find hall h).2
  simpa using h2
theorem mm_lv_tail {lsr : Array Slot} {nL : Nat} {q : Nat × Value} {l : mm_L} (h : lv_has lsr nL (q :: l)) : lv_has lsr nL l := ⟨h.1, h.2.1, fun x hx => h.2.2 x (List.mem_cons_of_mem _ hx)⟩
section MMK
variable {p : Program} {l : Launch} {e : Env} {R : Room} {s : State} {m : MethodId} {args : Array Value} {below : List Frame} {meth : Method} {c : Code} {Q : State → Prop}
variable {D : va_G} {cy : Nat → ClassId} {A : Nat → Prop} {b L : Nat} {xs : Nat → Int32} {me : mm_Me}
/-- the exception that came out of a call is caught here -/
theorem mm_caught {H : Heap} {locs : List Loc} {cells slots pc pc' k : Nat} {ad : Nat → Nat} {ls : mm_L} {lsr : Array Slot} {rest : List Value} {q : Addr} {ce : Cell} {E : String} (C : mm_Cx D cy A b L xs p l s m args meth c me) (hl : lv_has lsr me.2.2.2.1 (mm_ml b ad ls)) (hh : mm_hnd me pc E = some (pc', k))
    (hcell : H[q]? = some ce) (hv : ce.vm = .none) (hcl : s.vm.findClass E = some ce.cls)
    (K : ∀ lsr' : Array Slot, lv_has lsr' me.2.2.2.1 (mm_ml b ad (mm_un ls k)) → W p l e R s m args below meth c H locs cells slots Q (F0 m pc' lsr' [])) :
    vx_W p l e R s m args below meth c H locs cells slots Q (F0 m pc lsr rest) q := by
  obtain ⟨hx, hb, hml, hown, hts, hr, hlk, hnm, htb, hA, hG, htr⟩ := C
  unfold mm_hnd at hh
  split at hh
  · rename_i fr to tg ci htab
    have hh1 := mm_if hh; clear hh; obtain ⟨hcov, hh⟩ := hh1
    split at hh
    · rename_i o i E' ps hX
      have hh2 := mm_if hh; clear hh; obtain ⟨rfl, hh⟩ := hh2
      obtain ⟨x1, x2⟩ := mm_X_spec hX
      have htb2 : c.exceptionTable.toList = [] ++ (⟨fr, to, tg, ci⟩ : ExceptionTableEntry) :: [] := by rw [htb (by rw [htab]; exact List.cons_ne_nil _ _), htab]; rfl
      have hcast : (Cond.castable E' E').before args s = true := by
        rcases mm_X_E hX with rfl | rfl
        · exact va_Nw.use rfl (hG.2.1 _ (mm_at_nest mm_cast_ISE rfl))
        · exact va_Nw.use rfl (hG.2.1 _ (mm_at_nest mm_cast_NSE rfl))
      have hcv : covers (⟨fr, to, tg, ci⟩ : ExceptionTableEntry) pc = true := by simp [covers, hcov]
      refine vx_catch hown [] ⟨fr, to, tg, ci⟩ [] htb2 (fun z hz => by cases hz) hcv x2 (hts _ x1) hcast hcell hv hcl ?_
      split at hh
      · rename_i k9 hdg
        obtain ⟨hk, hh⟩ := mm_if hh
        simp only [Option.some.injEq, Prod.mk.injEq] at hh
        obtain ⟨rfl, rfl⟩ := hh
        exact lv_astore_n hx hb hdg rfl hl hk rfl (fun lsr' hl' => K lsr' (by rw [← mm_un_map]; exact mm_lv_tail hl'))
      · rename_i k9 hdg
        obtain ⟨hk, hh⟩ := mm_if hh
        simp only [Option.some.injEq, Prod.mk.injEq] at hh
        obtain ⟨rfl, rfl⟩ := hh
        exact lv_astore hx hb hdg hl hk rfl (fun lsr' hl' => K lsr' (by rw [← mm_un_map]; exact mm_lv_tail hl'))
      · cases hh
    · cases hh
  · cases hh
end MMK
/-- from any point of a method: what the small machine answers is what the walk comes to -/
def mm_Step (n : Nat) : Prop := ∀ (p : Program) (l : Launch) (e : Env) (R : Room) (s : State) (m : MethodId) (args : Array Value) (below : List Frame) (meth : Method) (c : Code) (Q : State → Prop) (D : va_G) (cy : Nat → ClassId) (A : Nat → Prop) (b L : Nat) (xs : Nat → Int32) (me : mm_Me)
  (d mi pc : Nat) (ls : mm_L) (st : List Value) (h : mm_H) (cells slots : Nat) (r : Option Value ⊕ String) (h' : mm_H) (c' z' : Nat) (ad : Nat → Nat) (H : Heap) (locs : List Loc) (lsr : Array Slot),
  mm_all[mi]? = some me → mm_ev xs L n d mi pc ls st h cells slots = some (r, h', c', z') → mm_Cx D cy A b L xs p l s m args meth c me → mm_Rp D cy A b s.heap me.2.2.2.1 ad h ls st H locs lsr →
  1 ≤ d → d ≤ R.frames → 41 * d ≤ R.locals → c' ≤ R.cells → z' ≤ R.slots →
  (∀ (v : Option Value) (pc' : Nat) (ad' : Nat → Nat) (H' : Heap) (locs' : List Loc) (lsr' : Array Slot), r = .inl v → mm_ag h.length ad ad' → va_P D mm_cl (mm_W cy b ad' h') H' → va_D A (mm_W cy b ad' h') → va_S A s.heap H' locs' → mm_wh h' → mm_Ret me v pc' → W p l e R s m args below meth c H' locs' c' z' Q (F0 m pc' lsr' v.toList)) →
  (∀ (E : String) (pc' : Nat) (ad' : Nat → Nat) (H' : Heap) (locs' : List Loc) (lsr' : Array Slot) (rest : List Value) (q : Addr) (ce : Cell), r = .inr E → me.2.2.2.2.2.1 = [] → mm_ag h.length ad ad' → va_P D mm_cl (mm_W cy b ad' h') H' → va_D A (mm_W cy b ad' h') → va_S A s.heap H' locs' → mm_wh h' → H'[q]? = some ce → ce.vm = .none → s.vm.findClass E = some ce.cls → vx_W p l e R s m args below meth c H' locs' c' z' Q (F0 m pc' lsr' rest) q) →
  (∀ (E : String) (pc' : Nat) (ad' : Nat → Nat) (H' : Heap) (locs' : List Loc) (lsr' : Array Slot) (ls' : mm_L) (st' : List Value) (c0 z0 : Nat), r = .inr E → c' = c0 + 1 → z' = z0 + 6 → 8 ≤ d → mm_ag h.length ad ad' → mm_Rp D cy A b s.heap me.2.2.2.1 ad' h' ls' st' H' locs' lsr' → mm_Thr me E pc' st' → W p l e R s m args below meth c H' locs' c0 z0 Q (F0 m pc' lsr' (st'.map (mm_v b ad')))) →
  W p l e R s m args below meth c H locs cells slots Q (F0 m pc lsr (st.map (mm_v b ad)))
theorem mm_ag.tr {n n' : Nat} {ad ad' ad'' : Nat → Nat} (h1 : mm_ag n ad ad') (h2 : mm_ag n' ad' ad'') (hn : n ≤ n') : mm_ag n ad ad'' := fun k hk => (h2 k (Nat.lt_of_lt_of_le hk hn)).trans (h1 k hk)
set_option maxHeartbeats 2000000 in
theorem mm_step_succ {n : Nat} (ih : mm_Step n) (hSn : mm_Sound n) : mm_Step (n + 1) := by
  intro p l e R s m args below meth c Q D cy A b L xs me d mi pc ls st h cells slots r h' c' z' ad H locs lsr hmi hev C Rp hd hfr hlo hc hz KR KX KT
  have hle := mm_ev_le _ _ _ _ _ _ _ _ _ _ _ _ _ hev
  unfold mm_ev at hev
  rw [hmi] at hev
  dsimp only at hev
  split at hev
  · cases hev
  · rename_i i len hdg
    split at hev
    · cases hev
    · rename_i pc1 ls1 st1 h1 c1 z1 hact
      have hl1 := mm_act_le hact
      have hl2 := mm_ev_le _ _ _ _ _ _ _ _ _ _ _ _ _ hev
      refine mm_act_ok C Rp hdg hact (Nat.le_trans hl2.2.1 hc) (Nat.le_trans hl2.2.2 hz) (by omega) (by omega) (fun ad1 H1 locs1 lsr1 hag Rp1 => ?_)
      exact ih p l e R s m args below meth c Q D cy A b L xs me d mi pc1 ls1 st1 h1 c1 z1 r h' c' z' ad1 H1 locs1 lsr1 hmi hev C Rp1 hd hfr hlo hc hz
        (fun v pc' ad' H' locs' lsr' a1 a2 a3 a4 a5 a6 a7 => KR v pc' ad' H' locs' lsr' a1 (hag.tr a2 hl1.1) a3 a4 a5 a6 a7)
        (fun E pc' ad' H' locs' lsr' rest q ce a1 a2 a3 a4 a5 a6 a7 a8 a9 a10 => KX E pc' ad' H' locs' lsr' rest q ce a1 a2 (hag.tr a3 hl1.1) a4 a5 a6 a7 a8 a9 a10)
        (fun E pc' ad' H' locs' lsr' ls' st' c0 z0 a1 a2 a3 a4 a5 a6 a7 => KT E pc' ad' H' locs' lsr' ls' st' c0 z0 a1 a2 a3 a4 (hag.tr a5 hl1.1) a6 a7)
    · rename_i v hact
      simp only [Option.some.injEq, Prod.mk.injEq] at hev
      obtain ⟨rfl, rfl, rfl, rfl⟩ := hev
      rcases mm_act_x hdg hact with ⟨v', hv', hst, hret⟩ | ⟨E, hE, -⟩ | ⟨op, ix, hcall, -⟩
      · cases hv'
        subst hst
        obtain ⟨hP, hD, hS, hl, hw, hq, ht⟩ := Rp
        have k := KR v pc ad H locs lsr rfl mm_ag.rf hP hD hS hw hret
        rcases hret with ⟨rfl, -, -⟩ | ⟨y, ty, rfl, -, -, -, -⟩
        · exact k
        · exact k
      · cases hE
      · obtain ⟨q, hq⟩ := mm_call_x hcall
        cases hq
    · rename_i E hact
      split at hev
      · cases hev
      · rename_i hd8
        simp only [Option.some.injEq, Prod.mk.injEq] at hev
        obtain ⟨rfl, rfl, rfl, rfl⟩ := hev
        rcases mm_act_x hdg hact with ⟨v', hv', -⟩ | ⟨E', hE, hthr⟩ | ⟨op, ix, hcall, -⟩
        · cases hv'
        · cases hE
          exact KT E pc ad H locs lsr ls st cells slots rfl rfl rfl (by omega) mm_ag.rf Rp hthr
        · obtain ⟨q, hq⟩ := mm_call_x hcall
          cases hq
    · rename_i mj as r0 thr hact
      split at hev
      · cases hev
      · rename_i hd2
        rcases mm_act_x hdg hact with ⟨v', hv', -⟩ | ⟨E', hE, -⟩ | ⟨op, ix, hcall, hd0, hd1, hd2'⟩
        · cases hv'
        · cases hE
        · obtain ⟨hP, hD, hS, hl, hw, hq, ht⟩ := id Rp
          split at hev
          · cases hev
          · rename_i v h1 c1 z1 hcev
            have hl1 := mm_ev_le _ _ _ _ _ _ _ _ _ _ _ _ _ hcev
            have hl2 := mm_ev_le _ _ _ _ _ _ _ _ _ _ _ _ _ hev
            have hwr : mm_wl h.length r0 := by
              intro w hw9
              refine ht w ?_
              unfold mm_call at hcall
              split at hcall
              · split at hcall
                · split at hcall
                  · exact (mm_no_go (mm_if hcall).2).elim
                  · cases hcall
                · split at hcall
                  · split at hcall
                    · exact (mm_no_go (mm_if hcall).2).elim
                    · cases hcall
                  · split at hcall
                    · cases hcall
                    · split at hcall
                      · cases hcall
                      · rename_i as9 r9 hpop
                        obtain ⟨hst9, -⟩ := mm_pop_eq hpop
                        rw [hst9]
                        split at hcall
                        · have h9 := (mm_if hcall).2
                          simp only [Option.some.injEq, Sum.inr.injEq, Prod.mk.injEq] at h9
                          obtain ⟨-, -, rfl, -⟩ := h9
                          exact List.mem_append_right _ hw9
                        · split at hcall
                          · split at hcall
                            · have h9 := (mm_if hcall).2
                              simp only [Option.some.injEq, Sum.inr.injEq, Prod.mk.injEq] at h9
                              obtain ⟨-, -, rfl, -⟩ := h9
                              exact List.mem_append_right _ (List.mem_cons_of_mem _ hw9)
                            · cases hcall
                          · cases hcall
              · cases hcall
            refine mm_call_go hSn C Rp (by omega) hfr hlo ⟨hd0, hd1, hd2'⟩ hcall hcev (Nat.le_trans hl2.2.1 hc) (Nat.le_trans hl2.2.2 hz) (fun E hE => by cases hE) (fun v2 hv2 ad1 H1 locs1 hag hP1 hD1 hw1 hS1 hint => ?_) (fun E hE => by cases hE)
            cases hv2
            have hvm : (v.map (mm_v b ad1)).toList ++ r0.map (mm_v b ad) = (v.toList ++ r0).map (mm_v b ad1) := by
              rw [List.map_append, mm_map_ag hag hwr]
              cases v <;> rfl
            rw [hvm]
            have hwst : mm_wl h1.length (v.toList ++ r0) := by
              intro w hw9
              rcases List.mem_append.mp hw9 with h9 | h9
              · cases v with
                | none => cases h9
                | some w9 =>
                  obtain ⟨x, hx⟩ := hint w9 rfl
                  rw [List.mem_singleton.mp h9, hx]
                  exact mm_wv_int
              · exact (hwr w h9).mono hl1.1
            exact ih p l e R s m args below meth c Q D cy A b L xs me d mi (pc + 3) ls (v.toList ++ r0) h1 (cells + c1) (slots + z1) r h' c' z' ad1 H1 locs1 lsr hmi hev C ⟨hP1, hD1, hS1, by rw [mm_ml_ag hag hq]; exact hl, hw1, hq.mono hl1.1, hwst⟩ hd hfr hlo hc hz
              (fun v pc' ad' H' locs' lsr' a1 a2 a3 a4 a5 a6 a7 => KR v pc' ad' H' locs' lsr' a1 (hag.tr a2 hl1.1) a3 a4 a5 a6 a7)
              (fun E pc' ad' H' locs' lsr' rest q ce a1 a2 a3 a4 a5 a6 a7 a8 a9 a10 => KX E pc' ad' H' locs' lsr' rest q ce a1 a2 (hag.tr a3 hl1.1) a4 a5 a6 a7 a8 a9 a10)
              (fun E pc' ad' H' locs' lsr' ls' st' c0 z0 a1 a2 a3 a4 a5 a6 a7 => KT E pc' ad' H' locs' lsr' ls' st' c0 z0 a1 a2 a3 a4 (hag.tr a5 hl1.1) a6 a7)
          · rename_i E h1 c1 z1 hcev
            have hl1 := mm_ev_le _ _ _ _ _ _ _ _ _ _ _ _ _ hcev
            split at hev
            · cases hev
            · rename_i hthr
              have hthr2 : thr = true := by
                cases thr
                · exact absurd rfl hthr
                · rfl
              split at hev
              · rename_i htab
                simp only [Option.some.injEq, Prod.mk.injEq] at hev
                obtain ⟨rfl, rfl, rfl, rfl⟩ := hev
                exact mm_call_go hSn C Rp (by omega) hfr hlo ⟨hd0, hd1, hd2'⟩ hcall hcev hc hz (fun _ _ => hthr2) (fun v2 hv2 => by cases hv2)
                  (fun E2 hE2 ad1 H1 locs1 q ce hag hP1 hD1 hw1 hS1 g1 g2 g3 => by
                    cases hE2
                    exact KX E pc ad1 H1 locs1 lsr _ q ce rfl htab hag hP1 hD1 hS1 hw1 g1 g2 g3)
              · split at hev
                · cases hev
                · rename_i pc1 k hh
                  have hl2 := mm_ev_le _ _ _ _ _ _ _ _ _ _ _ _ _ hev
                  refine mm_call_go hSn C Rp (by omega) hfr hlo ⟨hd0, hd1, hd2'⟩ hcall hcev (Nat.le_trans hl2.2.1 hc) (Nat.le_trans hl2.2.2 hz) (fun _ _ => hthr2) (fun v2 hv2 => by cases hv2) (fun E2 hE2 ad1 H1 locs1 q ce hag hP1 hD1 hw1 hS1 g1 g2 g3 => ?_)
                  cases hE2
                  refine mm_caught C (ad := ad1) (by rw [mm_ml_ag hag hq]; exact hl) hh g1 g2 g3 (fun lsr1 hl9 => ?_)
                  exact ih p l e R s m args below meth c Q D cy A b L xs me d mi pc1 (mm_un ls k) [] h1 (cells + c1) (slots + z1) r h' c' z' ad1 H1 locs1 lsr1 hmi hev C ⟨hP1, hD1, hS1, hl9, hw1, (mm_un_w hq).mono hl1.1, fun w hw9 => by cases hw9⟩ hd hfr hlo hc hz
                    (fun v pc' ad' H' locs' lsr' a1 a2 a3 a4 a5 a6 a7 => KR v pc' ad' H' locs' lsr' a1 (hag.tr a2 hl1.1) a3 a4 a5 a6 a7)
                    (fun E pc' ad' H' locs' lsr' rest q ce a1 a2 a3 a4 a5 a6 a7 a8 a9 a10 => KX E pc' ad' H' locs' lsr' rest q ce a1 a2 (hag.tr a3 hl1.1) a4 a5 a6 a7 a8 a9 a10)
                    (fun E pc' ad' H' locs' lsr' ls' st' c0 z0 a1 a2 a3 a4 a5 a6 a7 => KT E pc' ad' H' locs' lsr' ls' st' c0 z0 a1 a2 a3 a4 (hag.tr a5 hl1.1) a6 a7)
theorem mm_step_zero : mm_Step 0 := by
  intro p l e R s m args below meth c Q D cy A b L xs me d mi pc ls st h cells slots r h' c' z' ad H locs lsr hmi hev
  cases hev
theorem mm_args_map {b : Nat} {ad : Nat → Nat} : ∀ (as : List Value) (i : Nat), lv_args i (as.map (mm_v b ad)) = mm_ml b ad (lv_args i as) := by
  intro as
  induction as with
  | nil => intro i; rfl
  | cons v r ih =>
    intro i
    show (i, mm_v b ad v) :: lv_args (if (mm_v b ad v).category = 2 then i + 2 else i + 1) (r.map (mm_v b ad)) = (i, mm_v b ad v) :: mm_ml b ad (lv_args (if v.category = 2 then i + 2 else i + 1) r)
    rw [mm_v_cat, ih]
theorem mm_args_w {n : Nat} : ∀ (as : List Value) (i : Nat), mm_wl n as → mm_wq n (lv_args i as) := by
  intro as
  induction as with
  | nil => intro i _ q hq; cases hq
  | cons v r ih =>
    intro i hw q hq
    obtain ⟨h1, h2⟩ := mm_wl_cons.mp hw
    rcases List.mem_cons.mp hq with rfl | hq
    · exact h1
    · exact ih _ h2 q hq
theorem mm_sl_len {b : Nat} {ad : Nat → Nat} : ∀ (as : List Value), (lg_sl (as.map (mm_v b ad))).length = (lg_sl as).length := by
  intro as
  induction as with
  | nil => rfl
  | cons v r ih =>
    unfold lg_sl at ih ⊢
    rw [List.map_cons, List.flatMap_cons, List.flatMap_cons, List.length_append, List.length_append, ih, mm_v_cat]
    congr 1
    split <;> rfl
set_option maxHeartbeats 2000000 in
theorem mm_sound_of {n : Nat} (ih : mm_Step n) : mm_Sound n := by
  intro l D cy A b L xs d mi me as h r h' c' z' ad htr hmi hd hlg hev hw hwas
  obtain ⟨q0, -, hok⟩ := mm_M_spec hmi
  obtain ⟨o1, o2, o3, o4, o5, o6, o7, o8, o9, o10, o11⟩ := hok
  have hmiA : mm_all[mi]? = some me := by
    unfold mm_all
    rw [List.getElem?_append_left (List.getElem?_eq_some_iff.mp hmi).1]
    exact hmi
  have main : ∀ (p : Program) (e : Env) (s : State) (m : MethodId) (args : Array Value) (below : List Frame) (meth : Method) (c : Code) (s₁ : State), BodyLoose p l me.2.1 (headSpec (mm_wsM me) (mm_room d c' z')) me.2.2.1 me.2.2.2.1 me.2.2.2.2.1 e s m args below meth c s₁ → c.maxLocals = me.2.2.2.1 →
      (me.2.2.2.2.2.1 = [] → ∀ x ∈ c.exceptionTable.toList, False) → (me.2.2.2.2.2.1 ≠ [] → c.exceptionTable.toList = tableOf me.2.2.2.2.2.1) → mm_Pc D cy A b L xs ad as h args s →
      W p l e (headSpec (mm_wsM me) (mm_room d c' z')).room s m args below meth c s.heap [] 0 0 (vx_MQ below (mm_Qc D cy A b ad h r h') (mm_XC D cy A b ad h r h') args s c' z' A) (entryFrame m args me.2.2.2.1) := by
    intro p e s m args below meth c s₁ B hml hno htb hv
    obtain ⟨rfl, hP, hD, hG, hA⟩ := hv
    have hts0 := atoms_spec (ws := mm_wsM me) B.pre
    have hts : ∀ w ∈ mm_gw, w.before (as.map (mm_v b ad)).toArray s = true := fun w hw9 => hts0 w (List.mem_cons_of_mem _ hw9)
    have hown : s.vm.findClass me.1 = some m.cls := by rw [← o6]; exact findClass_of_methodNamed B.named
    have C : mm_Cx D cy A b L xs p l s m (as.map (mm_v b ad)).toArray meth c me := ⟨B.exec, B.bytes, hml, hown, hts, B.returns, B.notSynchronized, fun h9 => by rw [← h9]; exact (name_of_methodNamed B.named B.method).1, htb, hA, hG, htr⟩
    have hl := lv_entry (as.map (mm_v b ad)) (n := me.2.2.2.1) (by rw [mm_sl_len]; exact hlg)
    rw [lg_entry_eq]
    rw [mm_args_map] at hl
    generalize (lg_sl (as.map (mm_v b ad)) ++ List.replicate (me.2.2.2.1 - (lg_sl (as.map (mm_v b ad))).length) Slot.unset).toArray = lsr at hl ⊢
    have Rp : mm_Rp D cy A b s.heap me.2.2.2.1 ad h (lv_args 0 as) [] s.heap [] lsr := ⟨hP, hD, va_S.rf, hl, hw, mm_args_w as 0 hwas, fun v hv9 => by cases hv9⟩
    refine ih p l e (mm_room d c' z') s m (as.map (mm_v b ad)).toArray below meth c _ D cy A b L xs me d mi 0 (lv_args 0 as) [] h 0 0 r h' c' z' ad s.heap [] lsr hmiA hev C Rp hd (Nat.le_refl _) (Nat.le_refl _) (Nat.le_refl _) (Nat.le_refl _) ?_ ?_ ?_
    · intro v pc' ad' H' locs' lsr' hr hag hP1 hD1 hS1 hw1 hret
      have hfin : ∀ t : State, t.heap = H' → ∀ v' : Option Value, v' = v.map (mm_v b ad') → (∀ w9, v = some w9 → ∃ x9, w9 = .int x9) → mm_Qc D cy A b ad h r h' (as.map (mm_v b ad)).toArray s (.returned v') t := fun t ht v' hv' hint => ⟨v, ad', hr, by rw [hv'], hint, hag, by rw [ht]; exact hP1, hD1, hw1, hS1.F ht⟩
      rcases hret with ⟨rfl, hrt, hdg⟩ | ⟨y, ty, rfl, hrt, hty, hnar, hdg⟩
      · exact vx_ret (W.vret B.exec B.bytes (B.returns.trans hrt) (fun t ht hW => hfin t ht none rfl (fun w9 h9 => by cases h9)) hS1.2.2 hdg B.notSynchronized)
      · exact vx_ret (W.zret B.exec B.bytes (B.returns.trans hrt) hnar (fun t ht hW => hfin t ht (some (.int y)) rfl (fun w9 h9 => by cases h9; exact ⟨y, rfl⟩)) hS1.2.2 hdg B.notSynchronized)
    · intro E pc' ad' H' locs' lsr' rest q ce hr hnil hag hP1 hD1 hS1 hw1 g1 g2 g3
      exact vx_out (fun x hx => (hno hnil x hx).elim) B.notSynchronized g1 g2 g3 (fun t ht _ => ⟨ad', hr, hag, by rw [ht]; exact hP1, hD1, hw1, hS1.F ht⟩) hS1.2.2 (Nat.le_refl _) (Nat.le_refl _)
    · intro E pc' ad' H' locs' lsr' ls' st' c0 z0 hr hc0 hz0 hd8 hag Rp1 hthr
      obtain ⟨t1, t2, ix, si, ic, t3, t4, t5, t6, t7, t8⟩ := hthr
      subst hr; subst hc0; subst hz0
      exact mm_throw1 C Rp1 hag (hno t1) (by show 8 ≤ d; exact hd8) (by show 328 ≤ 41 * d; omega) (Nat.le_refl _) (Nat.le_refl _) t2 t3 t4 t5 t6 t7 t8
  by_cases htab : me.2.2.2.2.2.1 = []
  · refine vx_ofW (cc := me.2.2.1) (maxL := me.2.2.2.1) (ret := me.2.2.2.2.1) (by rw [o6]; exact o7) (by unfold mm_wsM; rw [mm_codeW_nil htab]) ?_
    intro p e s m args below meth c s₁ B hml hno hv
    exact main p e s m args below meth c s₁ B hml (fun _ => hno) (fun h9 => absurd htab h9) hv
  · refine vx_ofWH (cc := me.2.2.1) (maxL := me.2.2.2.1) (ret := me.2.2.2.2.1) (hh := me.2.2.2.2.2.1) (by rw [o6]; exact o7) (by unfold mm_wsM; rw [mm_codeW_tab htab]) ?_
    intro p e s m args below meth c s₁ B hml hv
    have hts0 := atoms_spec (ws := mm_wsM me) B.pre
    have hcw : (Cond.codeWith me.2.1 me.2.2.1 me.2.2.2.1 me.2.2.2.2.1 me.2.2.2.2.2.1).before args s = true := by
      rw [← mm_codeW_tab htab]
      exact hts0 _ List.mem_cons_self
    exact main p e s m args below meth c s₁ B hml (fun h9 => absurd h9 htab) (fun _ => vx_table (x := me.2.1) B hcw) hv
theorem mm_steps : ∀ n, mm_Step n := by
  intro n
  induction n with
  | zero => exact mm_step_zero
  | succ n ih => exact mm_step_succ ih (mm_sound_of ih)
end
section
/-! THE CLAIM OUT OF ONE WALK OF THE LAW'S BODY. Your part is whole_start (and what it stands on); all else here is the same for every law, but numbers. -/
def R_law : String := "TreeBuilderLaw"
def lw_P (b : Addr) (xs : List Int32) (args : Array Value) (s : State) : Prop := args = #[.ref b] ∧ s.IntsAt b xs ∧ xs.length ≤ 1536 ∧ (Jvm.Cond.and given_1 narrow_1).before args s = true
def lw_Q (_ : Array Value) (s : State) (o : Outcome) (t : State) : Prop := o = .returned (some (.int 1)) ∧ Framed s o t [] 601024 7293034
def lw_Z (below : List Frame) (a : Array Value) (s : State) : State → Prop := fun t => ∃ o, t.status = .running ∧ Ended t below o ∧ lw_Q a s o t
/-- the law's own end, with 1 on the stack, nothing written that was there before, its room as the claim has it -/
theorem lw_ret {p : Program} {l : Launch} {e : Env} {s : State} {m : MethodId} {below : List Frame} {meth : Method} {c : Code} {b : Nat} (hx : p.tables.exec = Jvm.exec) (hb : c.code = code) (hr : meth.sig.returnType = ret) (hlocks : meth.locks = false) {pc : Nat} {H : Heap} {ls : Array Slot} (hdg : decode code pc = .ok (.ireturn, 1)) : W p l e room_1 s m #[Value.ref b] below meth c H [] 601024 7293034 (lw_Z below #[Value.ref b] s) (F0 m pc ls [.int 1]) := by
  intro T hT X
  obtain ⟨fs, hret, hrun, hended, hW, hframe⟩ := X.leave (v := some (.int 1)) (hlocks := hlocks) (fun h => by rw [hr] at h; cases h)
  have hmeth' : T.vm.method? m = some meth := X.method'
  refine ⟨T.setFrames fs, ?_, .returned (some (.int 1)), hrun, hended, rfl, ⟨_, rfl⟩, hW, hframe⟩
  jvm_step X.here [X.here.top, hx, hb, hdg, hmeth', hr, ret, narrow_b1]
  (try refine ⟨rfl, ?_⟩); (try refine ⟨rfl, ?_⟩)
  first | (intro acts; rw [hret _ acts rfl rfl rfl]) | rw [hret _ _ rfl rfl rfl]
  exact Steps.refl _
/-- what holds at the law's entry: the machine, the code, the tables' words (any of lw_tbl by 'hts w (by decide +kernel)'), the script of L ints xs at the cell b, what the Statement gives of the start (any of its parts by flat_of_before) -/
def lw_At (p : Program) (s : State) (m : MethodId) (meth : Method) (c : Code) (b L : Nat) (xs : Nat → Int32) : Prop :=
  p.tables.exec = Jvm.exec ∧ c.code = code ∧ meth.sig.returnType = ret ∧ c.maxLocals = 7 ∧ s.vm.findClass R_law = some m.cls ∧ (∀ w ∈ lw_tbl, w.before #[Value.ref b] s = true) ∧ va_X b L xs s s.heap ∧ b < s.heap.size ∧ meth.locks = false ∧ (Jvm.Cond.and given_1 narrow_1).before #[Value.ref b] s = true
-- ===== YOUR PART BEGINS =====
theorem mm_len : mm_MT.length = 224 := by decide +kernel
theorem mm_lawAt : mm_all[224]? = some mm_law := by
  unfold mm_all
  rw [List.getElem?_append_right (by rw [mm_len]; exact Nat.le_refl _), mm_len]
  rfl
/-- what is left: pure Lean about the small machine -/
def mm_Pure : Prop := ∀ (xs : Nat → Int32) (L : Nat), L ≤ 1536 → ∃ (n : Nat) (h' : mm_H) (c' z' : Nat), mm_ev xs L n 2048 224 0 [(0, .retAddr 0)] [] [] 0 0 = some (.inl (some (.int 1)), h', c', z') ∧ c' ≤ 601024 ∧ z' ≤ 7293034
theorem mm_strs : mm_at 396 (.stringRef RX1 38 "no program has this token here") = true ∧ mm_at 826 (.stringRef RX5 71 "there is no such node") = true ∧ mm_at 848 (.stringRef RX5 92 "there is no such what") = true ∧ mm_at 856 (.stringRef RX5 94 "there is no such child") = true := by decide +kernel
theorem mm_iniT : mm_at 195 (.initialized Bundle.tN) = true := by decide +kernel
theorem mm_stat1 : mm_at 383 (.laysStatic Bundle.tN "UNASSIGNED_STACK" Bundle.steD) = true := by decide +kernel
theorem mm_stat2 : mm_at 385 (.laysStatic Bundle.tN "SUPPRESSED_SENTINEL" Bundle.listD) = true := by decide +kernel
theorem mm_arrOf {args : Array Value} {s : State} {ty : FieldType} (hty : ty = .int ∨ ty = .byte ∨ ty = .boolean ∨ ty = .long) (h : (Cond.arrayClass ty).before args s = true) : ∃ cA, ArrOfT s cA ty ∧ va_RA s cA ty := by
  obtain ⟨cA, kA, comp, h1, h2, h3⟩ := Cond.arrayClass_spec h
  refine ⟨cA, fun n z => ⟨fun k h => (by cases h), kA, h2, comp, h3⟩, ?_⟩
  rcases hty with rfl | rfl | rfl | rfl <;> exact h1
set_option maxHeartbeats 4000000 in
set_option maxRecDepth 100000 in
theorem whole_start (hpure : mm_Pure) {p : Program} {e : Env} {s : State} {m : MethodId} {below : List Frame} {meth : Method} {c : Code} (l : Launch) (hfl : l.flags = flags0) {b L : Nat} {xs : Nat → Int32} (hL : L ≤ 1536) (C0 : lw_At p s m meth c b L xs) : W p l e room_1 s m #[Value.ref b] below meth c s.heap [] 0 0 (lw_Z below #[Value.ref b] s) (entryFrame m ([Value.ref b] : List Value).toArray 7) := by
  obtain ⟨hx, hb, hr, hml, hown, hts, hX, hbl, hlocks, hgv⟩ := id C0
  obtain ⟨n, h', c', z', hev, hc, hz⟩ := hpure xs L hL
  have hgw : ∀ w ∈ mm_gw, w.before #[Value.ref b] s = true := fun w hw => hts w (mm_gw_in hw)
  have hflat := flat_of_before _ hgv
  have hA : ∀ q : Nat, s.heap.size ≤ q → (fun q : Nat => s.heap.size ≤ q) q := fun _ h => h
  have hnA : ∀ a : Nat, a < s.heap.size → ¬ (fun q : Nat => s.heap.size ≤ q) a := fun _ h => Nat.not_le.mpr h
  have htr : l.stackTraces = false := by
    unfold Launch.stackTraces
    rw [hfl]
    decide +kernel
  have kn : ∀ (ci : Nat) (C : String) (T : u_T) (N : Nat), mm_cl[ci]? = some (C, T, N) → ∃ (cC : ClassId) (iS : Nat → Nat), u_Kn s C T N cC iS := by
    intro ci C T N h
    obtain ⟨k1, k2, k3, k4, k5⟩ := mm_cl_spec h
    exact u_known hgw k1 (hgw _ k4)
  obtain ⟨c0, i0, K0⟩ := kn 0 _ _ _ rfl
  obtain ⟨c1, i1, K1⟩ := kn 1 _ _ _ rfl
  obtain ⟨c2, i2, K2⟩ := kn 2 _ _ _ rfl
  obtain ⟨c3, i3, K3⟩ := kn 3 _ _ _ rfl
  obtain ⟨c4, i4, K4⟩ := kn 4 _ _ _ rfl
  obtain ⟨a0, A0, B0⟩ := mm_arrOf (Or.inl rfl) (hgw _ (mm_at_gw mm_arr_int rfl))
  obtain ⟨a1, A1, B1⟩ := mm_arrOf (Or.inr (Or.inl rfl)) (hgw _ (mm_at_gw mm_arr_byte rfl))
  obtain ⟨a2, A2, B2⟩ := mm_arrOf (Or.inr (Or.inr (Or.inl rfl))) (hgw _ (mm_at_gw mm_arr_boolean rfl))
  obtain ⟨a3, A3, B3⟩ := mm_arrOf (Or.inr (Or.inr (Or.inr rfl))) (hgw _ (mm_at_gw mm_arr_long rfl))
  obtain ⟨D, cy, hK⟩ : ∃ (D : va_G) (cy : Nat → ClassId), va_K D mm_cl (mm_tys cy) s := by
    refine ⟨(fun k => if k = 0 then c0 else if k = 1 then c1 else if k = 2 then c2 else if k = 3 then c3 else c4, fun k => if k = 0 then i0 else if k = 1 then i1 else if k = 2 then i2 else if k = 3 then i3 else i4), fun k => if k = 0 then a0 else if k = 1 then a1 else if k = 2 then a2 else a3, ?_, ?_⟩
    · intro k q hq
      match k, hq with
      | 0, hq => cases hq; exact K0
      | 1, hq => cases hq; exact K1
      | 2, hq => cases hq; exact K2
      | 3, hq => cases hq; exact K3
      | 4, hq => cases hq; exact K4
      | k + 5, hq => simp [mm_cl] at hq
    · intro k q hq
      match k, hq with
      | 0, hq => cases hq; exact ⟨A0, B0⟩
      | 1, hq => cases hq; exact ⟨A1, B1⟩
      | 2, hq => cases hq; exact ⟨A2, B2⟩
      | 3, hq => cases hq; exact ⟨A3, B3⟩
      | k + 4, hq => simp at hq
  have hnest : ∀ w ∈ mm_nest, va_Nw w s := by
    intro w hw
    obtain ⟨hw1, hw2⟩ := List.mem_filter.mp hw
    have h9 := hts w hw1
    cases w with
    | methodLinkNest a i x h' => exact va_Nw.of rfl h9
    | fieldLinkNest a i b' n d h' => exact va_Nw.of rfl h9
    | declares x => exact va_Nw.of rfl h9
    | castable X Y => exact va_Nw.of rfl h9
    | _ => cases hw2
  have hstr : ∀ q ∈ mm_str, ∃ a, vk_R q.1 q.2.1 q.2.2 a s := by
    obtain ⟨s1, s2, s3, s4⟩ := mm_strs
    intro q hq
    simp only [mm_str, List.mem_cons, List.not_mem_nil, or_false] at hq
    rcases hq with rfl | rfl | rfl | rfl
    · obtain ⟨a, _, _, _, h9, _⟩ := Cond.exactly_spec (hflat (.exactly (.string RX1 38) "java/lang/String") (by decide +kernel))
      exact ⟨a, vk_R.of (hts _ (mm_at_in s1)) h9⟩
    · obtain ⟨a, _, _, _, h9, _⟩ := Cond.exactly_spec (hflat (.exactly (.string RX5 71) "java/lang/String") (by decide +kernel))
      exact ⟨a, vk_R.of (hts _ (mm_at_in s2)) h9⟩
    · obtain ⟨a, _, _, _, h9, _⟩ := Cond.exactly_spec (hflat (.exactly (.string RX5 92) "java/lang/String") (by decide +kernel))
      exact ⟨a, vk_R.of (hts _ (mm_at_in s3)) h9⟩
    · obtain ⟨a, _, _, _, h9, _⟩ := Cond.exactly_spec (hflat (.exactly (.string RX5 94) "java/lang/String") (by decide +kernel))
      exact ⟨a, vk_R.of (hts _ (mm_at_in s4)) h9⟩
  have hiniT : (Cond.initialized Bundle.tN).before #[Value.ref b] s = true := hts _ (mm_at_in mm_iniT)
  have hZ1 : vx_Zq Bundle.tN "UNASSIGNED_STACK" Bundle.steD (fun q : Nat => s.heap.size ≤ q) s s.heap := vx_Zqof (hts _ (mm_at_in mm_stat1)) hiniT (hflat _ (by decide +kernel)) hnA
  have hZ2 : vx_Zq Bundle.tN "SUPPRESSED_SENTINEL" Bundle.listD (fun q : Nat => s.heap.size ≤ q) s s.heap := vx_Zqof (hts _ (mm_at_in mm_stat2)) hiniT (hflat _ (by decide +kernel)) hnA
  have hG : mm_G D cy (fun q : Nat => s.heap.size ≤ q) b L xs s s.heap := ⟨hK, hnest, hstr, hZ1, hZ2, hX, hnA b hbl, hbl⟩
  have C : mm_Cx D cy (fun q : Nat => s.heap.size ≤ q) b L xs p l s m #[Value.ref b] meth c mm_law := ⟨hx, hb, hml, hown, hgw, hr, hlocks, fun h9 => absurd h9 (by decide +kernel), fun h9 => absurd rfl h9, hA, hG, htr⟩
  have hl := lv_entry ([.ref b]) (n := 7) (Nat.le_of_ble_eq_true rfl)
  rw [lg_entry_eq]
  generalize (lg_sl ([.ref b]) ++ List.replicate (7 - (lg_sl ([.ref b])).length) Slot.unset).toArray = lsr at hl ⊢
  have hl : lv_has lsr 7 [(0, .ref b)] := hl
  have Rp : mm_Rp D cy (fun q : Nat => s.heap.size ≤ q) b s.heap mm_law.2.2.2.1 (fun _ => 0) [] [(0, .retAddr 0)] [] s.heap [] lsr :=
    ⟨fun k q hq => (by simp [mm_W] at hq), ⟨fun i j p q h9 => (by simp [mm_W] at h9), fun k q h9 => (by simp [mm_W] at h9)⟩, va_S.rf, hl, fun o ho => (by cases ho), fun q hq => (by rw [List.mem_singleton.mp hq]; exact mm_wv_ret), fun v hv => (by cases hv)⟩
  refine mm_steps n p l e room_1 s m #[Value.ref b] below meth c (lw_Z below #[Value.ref b] s) D cy (fun q : Nat => s.heap.size ≤ q) b L xs mm_law 2048 224 0 [(0, .retAddr 0)] [] [] 0 0 (.inl (some (.int 1))) h' c' z' (fun _ => 0) s.heap [] lsr mm_lawAt hev C Rp (by decide) (Nat.le_refl _) (by decide) hc hz ?_ ?_ ?_
  · intro v pc' ad' H' locs' lsr' hv hag hP1 hD1 hS1 hw1 hret
    cases hv
    rcases hret with ⟨h9, -⟩ | ⟨y, ty, hy, -, -, -, hdg⟩
    · cases h9
    · cases hy
      refine va_forget (fun q hq => hS1.2.2 q hq) ?_
      refine W.widen (k := 601024) (n := 7293034) hc hz ?_
      exact lw_ret hx hb hr hlocks hdg
  · intro E pc' ad' H' locs' lsr' rest q ce h9
    cases h9
  · intro E pc' ad' H' locs' lsr' ls' st' c0 z0 h9
    cases h9
-- ===== YOUR PART ENDS =====
set_option maxHeartbeats 4000000 in
theorem lw_walk (hpure : mm_Pure) (l : Launch) (hfl : l.flags = flags0) (b : Addr) (xs : List Int32) : MetFree l x (headSpec (Jvm.Cond.code x code maxLocals ret :: tables_1) room_1) (lw_P b xs) (fun _ _ _ _ _ => True) lw_Q := by
  refine MetFree.of_bodyS (code := code) (maxLocals := maxLocals) (ret := ret) (by decide) ?_ ?_
  · intro args s m h hn
    obtain ⟨meth, c, h1, h2, h3, h4, h5, h6, -, -⟩ := Cond.code_spec hn (atoms_spec (ws := Jvm.Cond.code x code maxLocals ret :: tables_1) h _ List.mem_cons_self)
    exact ⟨meth, c, h1, h2, h3, h4, h5, h6⟩
  · intro p e s m args below meth c s₁ B hml0 hP _
    obtain ⟨rfl, hx, hbd, hgv⟩ := hP
    obtain ⟨scr, harrAt, hlist, hof, hsmall⟩ := hx
    obtain ⟨hcb, hkn, -, -⟩ := State.arrayAt?_spec harrAt
    have hown : s.vm.findClass R_law = some m.cls := findClass_of_methodNamed B.named
    have hts0 : ∀ c ∈ (Jvm.Cond.code x code maxLocals ret :: tables_1), c.before #[Value.ref b] s = true := atoms_spec (ws := Jvm.Cond.code x code maxLocals ret :: tables_1) B.pre
    have hts : ∀ w ∈ lw_tbl, w.before #[Value.ref b] s = true := k2_hts_sels lw_privs (fun w hw => hts0 w (List.mem_cons_of_mem _ hw)) lw_privs_ok
    have hml : c.maxLocals = 7 := B.maxLocals_eq (hts0 _ List.mem_cons_self)
    have X₀ : Stand p l e room_1 s m #[Value.ref b] below meth c s₁ [] 0 0 := Stand.of_body B
    have hh0 : s₁.heap = s.heap := by rw [B.state]; rfl
    have hsz : scr.slots.size = xs.length := by rw [← Array.length_toList, hlist, List.length_map]
    have hval : ∀ j : Nat, j < xs.length → scr.slots[j]? = some (.int (xs.getD j 0)) := fun j hj => by
      rw [← Array.getElem?_toList, hlist]
      simp [hj]
    have hbl : b < s.heap.size := (Array.getElem?_eq_some_iff.mp hcb).1
    have hX : va_X b xs.length (fun j => xs.getD j 0) s s.heap := ⟨scr, hcb, hof, hkn, hsz, hval⟩
    have K : W p l e room_1 s m #[Value.ref b] below meth c s₁.heap [] 0 0 (lw_Z below #[Value.ref b] s) (entryFrame m ([Value.ref b] : List Value).toArray 7) := by
      rw [hh0]
      exact whole_start hpure l hfl hbd ⟨B.exec, B.bytes, B.returns, hml, hown, hts, hX, hbl, B.notSynchronized, hgv⟩
    obtain ⟨t, a1, o, b1, b2, b3⟩ := K s₁ rfl X₀
    exact ⟨t, o, a1, b1, b2, b3⟩
theorem lw_pre_spec {args : Array Value} {s : State} (h : (Jvm.Cond.and given_1 narrow_1).before args s = true) (hr : rest_1_c.before args s = true) : ∃ (b : Addr) (xs : List Int32), lw_P b xs args s := by
  have hs := flat_of_before _ h
  have hq := flat_of_before _ hr
  have hc : (Cond.count 1).before args s = true := hs _ (by decide +kernel)
  have harr : (Cond.arrayOf (.arg 0) .int).before args s = true := hs _ (by decide +kernel)
  have hle : (Cond.le (.length (.arg 0)) (.int 1536)).before args s = true := hs _ (by decide +kernel)
  have hlen : (Cond.isInt (.length (.arg 0))).before args s = true := hq _ (by decide +kernel)
  have hall : (Cond.all (.arg 0) (.isInt (.elem (.arg 0) (.index 0)))).before args s = true := hq _ (by decide +kernel)
  obtain ⟨b, xs, hb, hx⟩ := State.ints_of_pre rfl harr hlen hall
  have hsm : xs.length < 2 ^ 31 := hx.choose_spec.2.2.2
  have hev : (Term.length (.arg 0)).eval args s none [] s = some (.int xs.length.toInt32) := hx.length_eval hb
  have hv := Cond.le_ints hev (show (Term.int 1536).eval args s none [] s = some (.int 1536) from rfl)
  have hd : xs.length.toInt32 ≤ 1536 := by
    simpa [Cond.before, Cond.holds, hv] using hle
  have hN : xs.length ≤ 1536 := (Int32.ofNat_le_ofNat hsm (by decide)).mp (show Int32.ofNat xs.length ≤ Int32.ofNat 1536 from hd)
  exact ⟨b, xs, Cond.one_arg hc (show args[0]? = some (.ref b) from hb), hx, hN, h⟩
theorem lw_comes (hpure : mm_Pure) (l : Launch) (hfl : l.flags = flags0) : Comes l x (Jvm.Cond.code x code maxLocals ret :: tables_1) room_1 (fun tb e args s => Calls_1 tb e args s ∧ rest_1 tb e args s ∧ Pre_1 tb e args s)
    (fun _ _ args s o t => lw_Q args s o t) := by
  intro p e ha hc hk s m args below hf hfit hheap happ hpre
  obtain ⟨b, xs, hP⟩ := lw_pre_spec hpre.2.2 hpre.2.1
  obtain ⟨k, o, h1, h2, h3, hQ⟩ := lw_walk hpure l hfl b xs p e ha hc hk s m args below hf ((Spec.applies_iff_loose hf).mp happ).1 hP trivial
  exact ⟨k, o, h1, h2, h3, hQ⟩
theorem lw_frame {s t : State} {o : Outcome} {args : Array Value} (h : Framed s o t [] 601024 7293034) :
    Framed s o t (fieldLocs frame_1_writes args s ++ arrayLocs frame_1_arrays args s ++ staticLocs frame_1_statics s) 601024 7293034 := h
theorem lw_limb (hpure : mm_Pure) (L : Cond) (hL : ∀ (args : Array Value) (s t : State), L.after args s (.returned (some (.int 1))) t = true) :
    ArmFor flags0 classFile x code maxLocals ret World_1 tables_1 room_1 Calls_1 rest_1 Pre_1
      (fun tb e a s o t => postC L tb e a s o t ∧ Framed s o t (fieldLocs frame_1_writes a s ++ arrayLocs frame_1_arrays a s ++ staticLocs frame_1_statics s) 601024 7293034) := by
  intro l hfl _ _ p e ha hc hk s m args below hf hfit hheap happ hpre
  obtain ⟨k, o, h1, h2, h3, rfl, hF⟩ := lw_comes hpure l hfl p e ha hc hk s m args below hf hfit hheap happ hpre
  exact ⟨k, _, h1, h2, h3, hL args s _, lw_frame hF⟩
theorem mm_vc_open (hpure : mm_Pure) : Claimed_1_1 ∧ Claimed_1_2 := ⟨lw_limb hpure limb_1_1 (fun args s t => by simp [limb_1_1, Cond.after, Cond.holds, Cond.value]), lw_limb hpure limb_1_2 (fun args s t => Cond.after_iff.mpr (by
  first | (rw [show limb_1_2 = Cond.eq .result (.int 1) from rfl, Cond.eq_ints (x := 1) (y := 1) rfl rfl]; simp; done) | (simp [limb_1_2, Cond.value, Term.eval]; done)))⟩
end
section
/-! Runs of the small machine, without fuel; a rule an instruction. -/
theorem mm_ev_mono {xs : Nat → Int32} {L : Nat} : ∀ (n d mi pc : Nat) (ls : mm_L) (st : List Value) (h : mm_H) (c z : Nat) (o : mm_R), mm_ev xs L n d mi pc ls st h c z = some o → mm_ev xs L (n + 1) d mi pc ls st h c z = some o := by
  intro n
  induction n with
  | zero => intro d mi pc ls st h c z o ha; cases ha
  | succ n ih =>
    intro d mi pc ls st h c z o ha
    rw [mm_ev] at ha
    rw [mm_ev]
    split at ha
    · cases ha
    · rename_i me hme
      split at ha
      · cases ha
      · rename_i i len hdg
        split at ha
        · cases ha
        · rename_i hact
          exact ih _ _ _ _ _ _ _ _ _ ha
        · rename_i hact
          exact ha
        · rename_i hact
          exact ha
        · rename_i mj as r thr hact
          split at ha
          · cases ha
          · rename_i hd2
            try rw [if_neg hd2]
            split at ha
            · cases ha
            · rename_i v h1 c1 z1 hc
              have hc' := ih _ _ _ _ _ _ _ _ _ hc
              simp only [hc']
              exact ih _ _ _ _ _ _ _ _ _ ha
            · rename_i E h1 c1 z1 hc
              have hc' := ih _ _ _ _ _ _ _ _ _ hc
              simp only [hc']
              split at ha
              · cases ha
              · rename_i ht
                try rw [if_neg ht]
                split at ha
                · rename_i htab
                  (try simp only [htab])
                  exact ha
                · rename_i htab
                  split at ha
                  · cases ha
                  · rename_i pc1 k hh
                    (try simp only [hh])
                    exact ih _ _ _ _ _ _ _ _ _ ha
theorem mm_ev_up {xs : Nat → Int32} {L n d mi pc : Nat} {ls : mm_L} {st : List Value} {h : mm_H} {c z : Nat} {o : mm_R} (ha : mm_ev xs L n d mi pc ls st h c z = some o) (k : Nat) : mm_ev xs L (n + k) d mi pc ls st h c z = some o := by
  induction k with
  | zero => exact ha
  | succ k ih => exact mm_ev_mono _ _ _ _ _ _ _ _ _ _ ih
def Ev (xs : Nat → Int32) (L d mi pc : Nat) (ls : mm_L) (st : List Value) (h : mm_H) (c z : Nat) (o : mm_R) : Prop := ∃ n, mm_ev xs L n d mi pc ls st h c z = some o
/-- a method's run: from its arguments and the cells to its end -/
def Rn (xs : Nat → Int32) (L d mi : Nat) (as : List Value) (h : mm_H) (o : mm_R) : Prop := Ev xs L d mi 0 (lv_args 0 as) [] h 0 0 o
/-- the method of number mi: own class, code, locals, answer, table, name -/
def Is (mi : Nat) (own : String) (cc : ByteArray) (nL : Nat) (rt : Option FieldType) (nm : String) : Prop := ∃ me : mm_Me, mm_all[mi]? = some me ∧ me.1 = own ∧ me.2.2.1 = cc ∧ me.2.2.2.1 = nL ∧ me.2.2.2.2.1 = rt ∧ me.2.1.name = nm ∧ me.2.2.2.2.2.1 = []
section EVR
variable {xs : Nat → Int32} {L d mi pc : Nat} {ls : mm_L} {st : List Value} {h : mm_H} {c z : Nat} {o : mm_R} {own nm : String} {cc : ByteArray} {nL : Nat} {rt : Option FieldType}
theorem Ev.act {me : mm_Me} {i : Instr} {len pc' : Nat} {ls' : mm_L} {st' : List Value} {h' : mm_H} {c' z' : Nat} (hm : mm_all[mi]? = some me) (hd : decode me.2.2.1 pc = .ok (i, len)) (ha : mm_act me xs L i len pc ls st h c z = some (.inl (pc', ls', st', h', c', z'))) (K : Ev xs L d mi pc' ls' st' h' c' z' o) : Ev xs L d mi pc ls st h c z o := by
  obtain ⟨n, hn⟩ := K
  refine ⟨n + 1, ?_⟩
  unfold mm_ev
  simp only [hm, hd, ha]
  exact hn
theorem e_iconst {n : Int} (hm : Is mi own cc nL rt nm) (hd : decode cc pc = .ok (.iconst n, 1)) {v : Int32} (hv : Int32.ofInt n = v) (K : Ev xs L d mi (pc + 1) ls (.int v :: st) h c z o) : Ev xs L d mi pc ls st h c z o := by
  obtain ⟨me, h1, rfl, rfl, rfl, rfl, rfl, h7⟩ := hm
  subst hv
  exact Ev.act h1 hd rfl K
theorem e_bipush {n : Int} (hm : Is mi own cc nL rt nm) (hd : decode cc pc = .ok (.bipush n, 2)) {v : Int32} (hv : (Int8.ofInt n).toInt32 = v) (K : Ev xs L d mi (pc + 2) ls (.int v :: st) h c z o) : Ev xs L d mi pc ls st h c z o := by
  obtain ⟨me, h1, rfl, rfl, rfl, rfl, rfl, h7⟩ := hm
  subst hv
  exact Ev.act h1 hd rfl K
theorem e_sipush {n : Int} (hm : Is mi own cc nL rt nm) (hd : decode cc pc = .ok (.sipush n, 3)) {v : Int32} (hv : (Int16.ofInt n).toInt32 = v) (K : Ev xs L d mi (pc + 3) ls (.int v :: st) h c z o) : Ev xs L d mi pc ls st h c z o := by
  obtain ⟨me, h1, rfl, rfl, rfl, rfl, rfl, h7⟩ := hm
  subst hv
  exact Ev.act h1 hd rfl K
theorem e_iload_n {k : Fin 4} {i : Nat} {v : Int32} (hm : Is mi own cc nL rt nm) (hd : decode cc pc = .ok (.iload_n k, 1)) (hi : (k : Nat) = i) (hl : mm_lk ls i = some (.int v)) (K : Ev xs L d mi (pc + 1) ls (.int v :: st) h c z o) : Ev xs L d mi pc ls st h c z o := by
  obtain ⟨me, h1, rfl, rfl, rfl, rfl, rfl, h7⟩ := hm
  subst hi
  exact Ev.act h1 hd (by simp only [mm_act, if_true, mm_load, hl, mm_go]) K
theorem e_iload {i : Nat} {v : Int32} (hm : Is mi own cc nL rt nm) (hd : decode cc pc = .ok (.iload i, 2)) (hl : mm_lk ls i = some (.int v)) (K : Ev xs L d mi (pc + 2) ls (.int v :: st) h c z o) : Ev xs L d mi pc ls st h c z o := by
  obtain ⟨me, h1, rfl, rfl, rfl, rfl, rfl, h7⟩ := hm
  exact Ev.act h1 hd (by simp only [mm_act, if_true, mm_load, hl, mm_go]) K
theorem e_lload_n {k : Fin 4} {i : Nat} {v : Int64} (hm : Is mi own cc nL rt nm) (hd : decode cc pc = .ok (.lload_n k, 1)) (hi : (k : Nat) = i) (hl : mm_lk ls i = some (.long v)) (K : Ev xs L d mi (pc + 1) ls (.long v :: st) h c z o) : Ev xs L d mi pc ls st h c z o := by
  obtain ⟨me, h1, rfl, rfl, rfl, rfl, rfl, h7⟩ := hm
  subst hi
  exact Ev.act h1 hd (by simp only [mm_act, if_true, mm_load, hl, mm_go]) K
theorem e_aload_n {k : Fin 4} {i : Nat} {v : Value} (hm : Is mi own cc nL rt nm) (hd : decode cc pc = .ok (.aload_n k, 1)) (hi : (k : Nat) = i) (hl : mm_lk ls i = some v) (hv : mm_isA v = true) (K : Ev xs L d mi (pc + 1) ls (v :: st) h c z o) : Ev xs L d mi pc ls st h c z o := by
  obtain ⟨me, h1, rfl, rfl, rfl, rfl, rfl, h7⟩ := hm
  subst hi
  cases v with
  | ref a => exact Ev.act h1 hd (by simp only [mm_act, if_true, mm_load, hl, mm_go]) K
  | retAddr a => exact Ev.act h1 hd (by simp only [mm_act, if_true, mm_load, hl, mm_go]) K
  | _ => cases hv
theorem e_aload {i : Nat} {v : Value} (hm : Is mi own cc nL rt nm) (hd : decode cc pc = .ok (.aload i, 2)) (hl : mm_lk ls i = some v) (hv : mm_isA v = true) (K : Ev xs L d mi (pc + 2) ls (v :: st) h c z o) : Ev xs L d mi pc ls st h c z o := by
  obtain ⟨me, h1, rfl, rfl, rfl, rfl, rfl, h7⟩ := hm
  cases v with
  | ref a => exact Ev.act h1 hd (by simp only [mm_act, if_true, mm_load, hl, mm_go]) K
  | retAddr a => exact Ev.act h1 hd (by simp only [mm_act, if_true, mm_load, hl, mm_go]) K
  | _ => cases hv
theorem e_istore_n {k : Fin 4} {i : Nat} {v : Int32} {ls' : mm_L} (hm : Is mi own cc nL rt nm) (hd : decode cc pc = .ok (.istore_n k, 1)) (hi : (k : Nat) = i) (hn : i < nL) (hl : mm_s1 ls i (.int v) = ls') (K : Ev xs L d mi (pc + 1) ls' st h c z o) : Ev xs L d mi pc ls (.int v :: st) h c z o := by
  obtain ⟨me, h1, rfl, rfl, rfl, rfl, rfl, h7⟩ := hm
  subst hi; subst hl
  exact Ev.act h1 hd (by simp only [mm_act, if_true, mm_store, hn, mm_go]) K
theorem e_istore {i : Nat} {v : Int32} {ls' : mm_L} (hm : Is mi own cc nL rt nm) (hd : decode cc pc = .ok (.istore i, 2)) (hn : i < nL) (hl : mm_s1 ls i (.int v) = ls') (K : Ev xs L d mi (pc + 2) ls' st h c z o) : Ev xs L d mi pc ls (.int v :: st) h c z o := by
  obtain ⟨me, h1, rfl, rfl, rfl, rfl, rfl, h7⟩ := hm
  subst hl
  exact Ev.act h1 hd (by simp only [mm_act, if_true, mm_store, hn, mm_go]) K
theorem e_astore_n {k : Fin 4} {i a : Nat} {ls' : mm_L} (hm : Is mi own cc nL rt nm) (hd : decode cc pc = .ok (.astore_n k, 1)) (hi : (k : Nat) = i) (hn : i < nL) (hl : mm_s1 ls i (.ref a) = ls') (K : Ev xs L d mi (pc + 1) ls' st h c z o) : Ev xs L d mi pc ls (.ref a :: st) h c z o := by
  obtain ⟨me, h1, rfl, rfl, rfl, rfl, rfl, h7⟩ := hm
  subst hi; subst hl
  exact Ev.act h1 hd (by simp only [mm_act, if_true, mm_store, hn, mm_go]) K
theorem e_astore {i a : Nat} {ls' : mm_L} (hm : Is mi own cc nL rt nm) (hd : decode cc pc = .ok (.astore i, 2)) (hn : i < nL) (hl : mm_s1 ls i (.ref a) = ls') (K : Ev xs L d mi (pc + 2) ls' st h c z o) : Ev xs L d mi pc ls (.ref a :: st) h c z o := by
  obtain ⟨me, h1, rfl, rfl, rfl, rfl, rfl, h7⟩ := hm
  subst hl
  exact Ev.act h1 hd (by simp only [mm_act, if_true, mm_store, hn, mm_go]) K
theorem e_iinc {i : Nat} {n : Int} {v w : Int32} {ls' : mm_L} (hm : Is mi own cc nL rt nm) (hd : decode cc pc = .ok (.iinc i n, 3)) (hn : i < nL) (hk : mm_lk ls i = some (.int v)) (hw : v + Int32.ofInt n = w) (hl : mm_s1 ls i (.int w) = ls') (K : Ev xs L d mi (pc + 3) ls' st h c z o) : Ev xs L d mi pc ls st h c z o := by
  obtain ⟨me, h1, rfl, rfl, rfl, rfl, rfl, h7⟩ := hm
  subst hw; subst hl
  exact Ev.act h1 hd (by simp only [mm_act, true_and, hn, if_true, hk, mm_go]) K
theorem e_iadd {v w : Int32} (hm : Is mi own cc nL rt nm) (hd : decode cc pc = .ok (.iadd, 1)) (K : Ev xs L d mi (pc + 1) ls (.int (w + v) :: st) h c z o) : Ev xs L d mi pc ls (.int v :: .int w :: st) h c z o := by
  obtain ⟨me, h1, rfl, rfl, rfl, rfl, rfl, h7⟩ := hm
  exact Ev.act h1 hd rfl K
theorem e_isub {v w : Int32} (hm : Is mi own cc nL rt nm) (hd : decode cc pc = .ok (.isub, 1)) (K : Ev xs L d mi (pc + 1) ls (.int (w - v) :: st) h c z o) : Ev xs L d mi pc ls (.int v :: .int w :: st) h c z o := by
  obtain ⟨me, h1, rfl, rfl, rfl, rfl, rfl, h7⟩ := hm
  exact Ev.act h1 hd rfl K
theorem e_imul {v w : Int32} (hm : Is mi own cc nL rt nm) (hd : decode cc pc = .ok (.imul, 1)) (K : Ev xs L d mi (pc + 1) ls (.int (w * v) :: st) h c z o) : Ev xs L d mi pc ls (.int v :: .int w :: st) h c z o := by
  obtain ⟨me, h1, rfl, rfl, rfl, rfl, rfl, h7⟩ := hm
  exact Ev.act h1 hd rfl K
theorem e_iand {v w : Int32} (hm : Is mi own cc nL rt nm) (hd : decode cc pc = .ok (.iand, 1)) (K : Ev xs L d mi (pc + 1) ls (.int (w &&& v) :: st) h c z o) : Ev xs L d mi pc ls (.int v :: .int w :: st) h c z o := by
  obtain ⟨me, h1, rfl, rfl, rfl, rfl, rfl, h7⟩ := hm
  exact Ev.act h1 hd rfl K
theorem e_ior {v w : Int32} (hm : Is mi own cc nL rt nm) (hd : decode cc pc = .ok (.ior, 1)) (K : Ev xs L d mi (pc + 1) ls (.int (w ||| v) :: st) h c z o) : Ev xs L d mi pc ls (.int v :: .int w :: st) h c z o := by
  obtain ⟨me, h1, rfl, rfl, rfl, rfl, rfl, h7⟩ := hm
  exact Ev.act h1 hd rfl K
theorem e_ishl {v w : Int32} (hm : Is mi own cc nL rt nm) (hd : decode cc pc = .ok (.ishl, 1)) (K : Ev xs L d mi (pc + 1) ls (.int (w <<< (v &&& 31)) :: st) h c z o) : Ev xs L d mi pc ls (.int v :: .int w :: st) h c z o := by
  obtain ⟨me, h1, rfl, rfl, rfl, rfl, rfl, h7⟩ := hm
  exact Ev.act h1 hd rfl K
theorem e_ishr {v w : Int32} (hm : Is mi own cc nL rt nm) (hd : decode cc pc = .ok (.ishr, 1)) (K : Ev xs L d mi (pc + 1) ls (.int (w >>> (v &&& 31)) :: st) h c z o) : Ev xs L d mi pc ls (.int v :: .int w :: st) h c z o := by
  obtain ⟨me, h1, rfl, rfl, rfl, rfl, rfl, h7⟩ := hm
  exact Ev.act h1 hd rfl K
theorem e_land {v w : Int64} (hm : Is mi own cc nL rt nm) (hd : decode cc pc = .ok (.land, 1)) (K : Ev xs L d mi (pc + 1) ls (.long (w &&& v) :: st) h c z o) : Ev xs L d mi pc ls (.long v :: .long w :: st) h c z o := by
  obtain ⟨me, h1, rfl, rfl, rfl, rfl, rfl, h7⟩ := hm
  exact Ev.act h1 hd rfl K
theorem e_lor {v w : Int64} (hm : Is mi own cc nL rt nm) (hd : decode cc pc = .ok (.lor, 1)) (K : Ev xs L d mi (pc + 1) ls (.long (w ||| v) :: st) h c z o) : Ev xs L d mi pc ls (.long v :: .long w :: st) h c z o := by
  obtain ⟨me, h1, rfl, rfl, rfl, rfl, rfl, h7⟩ := hm
  exact Ev.act h1 hd rfl K
theorem e_lshl {v : Int32} {w : Int64} (hm : Is mi own cc nL rt nm) (hd : decode cc pc = .ok (.lshl, 1)) (K : Ev xs L d mi (pc + 1) ls (.long (w <<< (v.toInt64 &&& 63)) :: st) h c z o) : Ev xs L d mi pc ls (.int v :: .long w :: st) h c z o := by
  obtain ⟨me, h1, rfl, rfl, rfl, rfl, rfl, h7⟩ := hm
  exact Ev.act h1 hd rfl K
theorem e_lshr {v : Int32} {w : Int64} (hm : Is mi own cc nL rt nm) (hd : decode cc pc = .ok (.lshr, 1)) (K : Ev xs L d mi (pc + 1) ls (.long (w >>> (v.toInt64 &&& 63)) :: st) h c z o) : Ev xs L d mi pc ls (.int v :: .long w :: st) h c z o := by
  obtain ⟨me, h1, rfl, rfl, rfl, rfl, rfl, h7⟩ := hm
  exact Ev.act h1 hd rfl K
theorem e_lushr {v : Int32} {w : Int64} (hm : Is mi own cc nL rt nm) (hd : decode cc pc = .ok (.lushr, 1)) (K : Ev xs L d mi (pc + 1) ls (.long ((w.toUInt64 >>> (v.toInt64.toUInt64 &&& Int64.toUInt64 63)).toInt64) :: st) h c z o) : Ev xs L d mi pc ls (.int v :: .long w :: st) h c z o := by
  obtain ⟨me, h1, rfl, rfl, rfl, rfl, rfl, h7⟩ := hm
  exact Ev.act h1 hd rfl K
theorem e_lcmp {v w : Int64} (hm : Is mi own cc nL rt nm) (hd : decode cc pc = .ok (.lcmp, 1)) (K : Ev xs L d mi (pc + 1) ls (.int (lg_cmp w v) :: st) h c z o) : Ev xs L d mi pc ls (.long v :: .long w :: st) h c z o := by
  obtain ⟨me, h1, rfl, rfl, rfl, rfl, rfl, h7⟩ := hm
  exact Ev.act h1 hd rfl K
theorem e_i2l {w : Int32} (hm : Is mi own cc nL rt nm) (hd : decode cc pc = .ok (.i2l, 1)) (K : Ev xs L d mi (pc + 1) ls (.long w.toInt64 :: st) h c z o) : Ev xs L d mi pc ls (.int w :: st) h c z o := by
  obtain ⟨me, h1, rfl, rfl, rfl, rfl, rfl, h7⟩ := hm
  exact Ev.act h1 hd rfl K
theorem e_i2b {w : Int32} (hm : Is mi own cc nL rt nm) (hd : decode cc pc = .ok (.i2b, 1)) (K : Ev xs L d mi (pc + 1) ls (.int w.toInt8.toInt32 :: st) h c z o) : Ev xs L d mi pc ls (.int w :: st) h c z o := by
  obtain ⟨me, h1, rfl, rfl, rfl, rfl, rfl, h7⟩ := hm
  exact Ev.act h1 hd rfl K
theorem e_l2i {w : Int64} (hm : Is mi own cc nL rt nm) (hd : decode cc pc = .ok (.l2i, 1)) (K : Ev xs L d mi (pc + 1) ls (.int w.toInt32 :: st) h c z o) : Ev xs L d mi pc ls (.long w :: st) h c z o := by
  obtain ⟨me, h1, rfl, rfl, rfl, rfl, rfl, h7⟩ := hm
  exact Ev.act h1 hd rfl K
theorem e_dup {v : Value} (hm : Is mi own cc nL rt nm) (hd : decode cc pc = .ok (.dup, 1)) (hv : v.category = 1) (K : Ev xs L d mi (pc + 1) ls (v :: v :: st) h c z o) : Ev xs L d mi pc ls (v :: st) h c z o := by
  obtain ⟨me, h1, rfl, rfl, rfl, rfl, rfl, h7⟩ := hm
  exact Ev.act h1 hd (by simp only [mm_act, if_true, hv, mm_go]) K
theorem e_dup2 {v w : Value} (hm : Is mi own cc nL rt nm) (hd : decode cc pc = .ok (.dup2, 1)) (hv : v.category = 1) (hw : w.category = 1) (K : Ev xs L d mi (pc + 1) ls (v :: w :: v :: w :: st) h c z o) : Ev xs L d mi pc ls (v :: w :: st) h c z o := by
  obtain ⟨me, h1, rfl, rfl, rfl, rfl, rfl, h7⟩ := hm
  exact Ev.act h1 hd (by simp only [mm_act, if_true, hv, hw, and_self, mm_go]) K
theorem e_pop {v : Value} (hm : Is mi own cc nL rt nm) (hd : decode cc pc = .ok (.pop, 1)) (hv : v.category = 1) (K : Ev xs L d mi (pc + 1) ls st h c z o) : Ev xs L d mi pc ls (v :: st) h c z o := by
  obtain ⟨me, h1, rfl, rfl, rfl, rfl, rfl, h7⟩ := hm
  exact Ev.act h1 hd (by simp only [mm_act, if_true, hv, mm_go]) K
theorem e_goto {off : Int} {t : Nat} (hm : Is mi own cc nL rt nm) (hd : decode cc pc = .ok (.goto off, 3)) (ht : mm_jump pc off = some t) (K : Ev xs L d mi t ls st h c z o) : Ev xs L d mi pc ls st h c z o := by
  obtain ⟨me, h1, rfl, rfl, rfl, rfl, rfl, h7⟩ := hm
  exact Ev.act h1 hd (by simp only [mm_act, if_true, ht, mm_go]) K
/-- a branch: both ways -/
theorem e_if {cd : ClassFile.Cond} {off : Int} {t : Nat} {w : Int32} (hm : Is mi own cc nL rt nm) (hd : decode cc pc = .ok (.ifCond cd off, 3)) (ht : mm_jump pc off = some t) (K1 : mm_cond cd w 0 = true → Ev xs L d mi t ls st h c z o) (K2 : mm_cond cd w 0 = false → Ev xs L d mi (pc + 3) ls st h c z o) : Ev xs L d mi pc ls (.int w :: st) h c z o := by
  obtain ⟨me, h1, rfl, rfl, rfl, rfl, rfl, h7⟩ := hm
  cases hb : mm_cond cd w 0 with
  | true => exact Ev.act h1 hd (by simp only [mm_act, if_true, mm_br, ht, hb, mm_go]) (K1 hb)
  | false => exact Ev.act h1 hd (by simp only [mm_act, if_true, mm_br, ht, hb, mm_go]; rfl) (K2 hb)
theorem e_icmp {cd : ClassFile.Cond} {off : Int} {t : Nat} {w v : Int32} (hm : Is mi own cc nL rt nm) (hd : decode cc pc = .ok (.if_icmp cd off, 3)) (ht : mm_jump pc off = some t) (K1 : mm_cond cd w v = true → Ev xs L d mi t ls st h c z o) (K2 : mm_cond cd w v = false → Ev xs L d mi (pc + 3) ls st h c z o) : Ev xs L d mi pc ls (.int v :: .int w :: st) h c z o := by
  obtain ⟨me, h1, rfl, rfl, rfl, rfl, rfl, h7⟩ := hm
  cases hb : mm_cond cd w v with
  | true => exact Ev.act h1 hd (by simp only [mm_act, if_true, mm_br, ht, hb, mm_go]) (K1 hb)
  | false => exact Ev.act h1 hd (by simp only [mm_act, if_true, mm_br, ht, hb, mm_go]; rfl) (K2 hb)
theorem e_lookup {dflt : Int} {ps : Array (Int × Int)} {len t : Nat} {w : Int32} (hm : Is mi own cc nL rt nm) (hd : decode cc pc = .ok (.lookupswitch dflt ps, len)) (hs : (ps.toList.zip (ps.toList.drop 1)).all (fun (a, next) => a.1 < next.1) = true) (ht : mm_jump pc (Op.lookupswitch.offset ps.toList dflt w.toInt) = some t) (K : Ev xs L d mi t ls st h c z o) : Ev xs L d mi pc ls (.int w :: st) h c z o := by
  obtain ⟨me, h1, rfl, rfl, rfl, rfl, rfl, h7⟩ := hm
  refine Ev.act h1 hd ?_ K
  simp only [mm_act]
  rw [if_pos hs]
  simp only [ht, mm_go]
theorem e_table {dflt lo hi : Int} {offs : Array Int} {len t : Nat} {w : Int32} (hm : Is mi own cc nL rt nm) (hd : decode cc pc = .ok (.tableswitch dflt lo hi offs, len)) (ht : mm_jump pc (mm_table dflt lo hi offs w) = some t) (hi9 : (w.toInt < lo ∨ hi < w.toInt) ∨ (offs[(w.toInt - lo).toNat]?).isSome = true) (K : Ev xs L d mi t ls st h c z o) : Ev xs L d mi pc ls (.int w :: st) h c z o := by
  obtain ⟨me, h1, rfl, rfl, rfl, rfl, rfl, h7⟩ := hm
  refine Ev.act h1 hd ?_ K
  simp only [mm_act, ht]
  rw [if_pos hi9]
  rfl
theorem e_getf {ix a ci k i ps : Nat} {ow : String} {ns : Bool} {fs : List Value} {v : Value} (hm : Is mi own cc nL rt nm) (hd : decode cc pc = .ok (.getfield ix, 3)) (hF : mm_F own ix = some (ow, i, ns, ci, k, ps)) (hc : h[a]? = some (.inr (ci, fs))) (hv : fs[k]? = some v) (K : Ev xs L d mi (pc + 3) ls (v :: st) h c z o) : Ev xs L d mi pc ls (.ref a :: st) h c z o := by
  obtain ⟨me, h1, rfl, rfl, rfl, rfl, rfl, h7⟩ := hm
  exact Ev.act h1 hd (by simp only [mm_act, if_true, mm_getf, hF, hc, hv, mm_go]) K
theorem e_putf {ix a ci k i ps : Nat} {ow : String} {ns : Bool} {fs : List Value} {v : Value} {h' : mm_H} (hm : Is mi own cc nL rt nm) (hd : decode cc pc = .ok (.putfield ix, 3)) (hF : mm_F own ix = some (ow, i, ns, ci, k, ps)) (hc : h[a]? = some (.inr (ci, fs))) (hk : k < fs.length) (hf : mm_fits ci k v = true) (hfin : mm_final ci k = false) (hh : h.set a (.inr (ci, fs.set k v)) = h') (K : Ev xs L d mi (pc + 3) ls st h' c z o) : Ev xs L d mi pc ls (v :: .ref a :: st) h c z o := by
  obtain ⟨me, h1, rfl, rfl, rfl, rfl, rfl, h7⟩ := hm
  subst hh
  refine Ev.act h1 hd ?_ K
  simp only [mm_act, if_true, mm_putf, hF, hc]
  rw [if_pos ⟨trivial, hk, hf, Or.inl hfin⟩]
  rfl
theorem e_putF {ix a ci k i ps : Nat} {ow : String} {fs : List Value} {v : Value} {h' : mm_H} (hm : Is mi own cc nL rt "<init>") (hd : decode cc pc = .ok (.putfield ix, 3)) (hF : mm_F own ix = some (ow, i, false, ci, k, ps)) (hc : h[a]? = some (.inr (ci, fs))) (hk : k < fs.length) (hf : mm_fits ci k v = true) (hfin : mm_final ci k = true) (hcl : (mm_cl[ci]?).map (fun q => q.1) = some own) (hh : h.set a (.inr (ci, fs.set k v)) = h') (K : Ev xs L d mi (pc + 3) ls st h' c z o) : Ev xs L d mi pc ls (v :: .ref a :: st) h c z o := by
  obtain ⟨me, h1, rfl, rfl, rfl, rfl, hn, h7⟩ := hm
  subst hh
  refine Ev.act h1 hd ?_ K
  simp only [mm_act, if_true, mm_putf, hF, hc]
  rw [if_pos ⟨trivial, hk, hf, Or.inr ⟨hfin, trivial, hn, hcl⟩⟩]
  rfl
theorem e_iald {a n t : Nat} {f : Nat → Int32} {i : Int32} {ins : Instr} (hins : (ins = .iaload ∧ t = 0) ∨ (ins = .baload ∧ (t = 1 ∨ t = 2))) (hm : Is mi own cc nL rt nm) (hd : decode cc pc = .ok (ins, 1)) (hc : h[a]? = some (.inl (t, n, .inl f))) (hi : vp_in i n) (K : Ev xs L d mi (pc + 1) ls (.int (f i.toNatClampNeg) :: st) h c z o) : Ev xs L d mi pc ls (.int i :: .ref a :: st) h c z o := by
  obtain ⟨me, h1, rfl, rfl, rfl, rfl, rfl, h7⟩ := hm
  refine Ev.act h1 hd ?_ K
  rcases hins with ⟨rfl, rfl⟩ | ⟨rfl, rfl | rfl⟩
  · simp only [mm_act, if_true, mm_ald, hc]
    rw [if_pos ⟨rfl, trivial, hi⟩]
    rfl
  · simp only [mm_act, if_true, mm_ald, hc]
    rw [if_pos ⟨rfl, trivial, hi⟩]
    rfl
  · simp only [mm_act, if_true, mm_ald, hc]
    rw [if_pos ⟨rfl, trivial, hi⟩]
    rfl
theorem e_iast {a n t : Nat} {f : Nat → Int32} {i v : Int32} {ins : Instr} {h' : mm_H} (hins : (ins = .iastore ∧ t = 0) ∨ (ins = .bastore ∧ (t = 1 ∨ t = 2))) (hm : Is mi own cc nL rt nm) (hd : decode cc pc = .ok (ins, 1)) (hc : h[a]? = some (.inl (t, n, .inl f))) (hi : vp_in i n) (hh : h.set a (.inl (t, n, .inl (upd f i.toNatClampNeg (vp_nar (mm_ty t) v)))) = h') (K : Ev xs L d mi (pc + 1) ls st h' c z o) : Ev xs L d mi pc ls (.int v :: .int i :: .ref a :: st) h c z o := by
  obtain ⟨me, h1, rfl, rfl, rfl, rfl, rfl, h7⟩ := hm
  subst hh
  refine Ev.act h1 hd ?_ K
  rcases hins with ⟨rfl, rfl⟩ | ⟨rfl, rfl | rfl⟩
  · simp only [mm_act, if_true, mm_ast, hc]
    rw [if_pos ⟨rfl, by decide, hi⟩]
    rfl
  · simp only [mm_act, if_true, mm_ast, hc]
    rw [if_pos ⟨rfl, by decide, hi⟩]
    rfl
  · simp only [mm_act, if_true, mm_ast, hc]
    rw [if_pos ⟨rfl, by decide, hi⟩]
    rfl
theorem e_alen {a n t : Nat} {y : (Nat → Int32) ⊕ (Nat → Int64) ⊕ (Nat → UInt32) ⊕ (Nat → UInt64) ⊕ (Nat → Option Nat)} (hm : Is mi own cc nL rt nm) (hd : decode cc pc = .ok (.arraylength, 1)) (hc : h[a]? = some (.inl (t, n, y))) (ht : t < 4) (K : Ev xs L d mi (pc + 1) ls (.int (Int32.ofNat n) :: st) h c z o) : Ev xs L d mi pc ls (.ref a :: st) h c z o := by
  obtain ⟨me, h1, rfl, rfl, rfl, rfl, rfl, h7⟩ := hm
  refine Ev.act h1 hd ?_ K
  simp only [mm_act, if_true, mm_alen, hc]
  rw [if_pos ht]
  rfl
theorem e_ret0 (hm : Is mi own cc nL none nm) (hd : decode cc pc = .ok (.return_, 1)) : Ev xs L d mi pc ls [] h c z (.inl none, h, c, z) := by
  obtain ⟨me, h1, rfl, rfl, rfl, h5, rfl, h7⟩ := hm
  refine ⟨1, ?_⟩
  unfold mm_ev
  have ha : mm_act me xs L .return_ 1 pc ls [] h c z = some (.inr (.inl none)) := by simp only [mm_act, if_true, mm_ret0, h5]
  simp only [h1, hd, ha]
theorem e_reti {ty : FieldType} {v : Int32} (hm : Is mi own cc nL (some ty) nm) (hd : decode cc pc = .ok (.ireturn, 1)) (hty : ty = .int ∨ (ty = .boolean ∧ (v = 0 ∨ v = 1))) : Ev xs L d mi pc ls [.int v] h c z (.inl (some (.int v)), h, c, z) := by
  obtain ⟨me, h1, rfl, rfl, rfl, h5, rfl, h7⟩ := hm
  refine ⟨1, ?_⟩
  unfold mm_ev
  have hn : (ty = .int ∨ ty = .boolean) ∧ narrow ty (.int v) = .int v := by
    rcases hty with rfl | ⟨rfl, rfl | rfl⟩
    · exact ⟨Or.inl rfl, rfl⟩
    · exact ⟨Or.inr rfl, by decide +kernel⟩
    · exact ⟨Or.inr rfl, by decide +kernel⟩
  have ha : mm_act me xs L .ireturn 1 pc ls [.int v] h c z = some (.inr (.inl (some (.int v)))) := by
    simp only [mm_act, if_true, mm_retv, h5]
    rw [if_pos hn]
  simp only [h1, hd, ha]
/-- a call that returns -/
theorem Ev.call {me : mm_Me} {i : Instr} {len mj : Nat} {as r : List Value} {thr : Bool} {v : Option Value} {h1 : mm_H} {c1 z1 : Nat} (hm : mm_all[mi]? = some me) (hd : decode me.2.2.1 pc = .ok (i, len)) (ha : mm_act me xs L i len pc ls st h c z = some (.inr (.inr (.inr (mj, as, r, thr))))) (hd2 : 1 ≤ d) (hr : Rn xs L d mj as h (.inl v, h1, c1, z1)) (K : Ev xs L (d + 1) mi (pc + 3) ls (v.toList ++ r) h1 (c + c1) (z + z1) o) : Ev xs L (d + 1) mi pc ls st h c z o := by
  obtain ⟨n1, e1⟩ := hr
  obtain ⟨n2, e2⟩ := K
  refine ⟨n1 + n2 + 1, ?_⟩
  have f1 := mm_ev_up e1 n2
  have f2 := mm_ev_up e2 n1
  rw [Nat.add_comm n2 n1] at f2
  unfold mm_ev
  simp only [hm, hd, ha]
  rw [if_neg (by omega), Nat.add_sub_cancel]
  simp only [f1]
  exact f2
theorem Ev.callX {me : mm_Me} {i : Instr} {len mj : Nat} {as r : List Value} {E : String} {h1 : mm_H} {c1 z1 : Nat} (hm : mm_all[mi]? = some me) (hd : decode me.2.2.1 pc = .ok (i, len)) (ha : mm_act me xs L i len pc ls st h c z = some (.inr (.inr (.inr (mj, as, r, true))))) (hd2 : 1 ≤ d) (htab : me.2.2.2.2.2.1 = []) (hr : Rn xs L d mj as h (.inr E, h1, c1, z1)) : Ev xs L (d + 1) mi pc ls st h c z (.inr E, h1, c + c1, z + z1) := by
  obtain ⟨n1, e1⟩ := hr
  refine ⟨n1 + 1, ?_⟩
  unfold mm_ev
  simp only [hm, hd, ha]
  rw [if_neg (by omega), Nat.add_sub_cancel]
  simp only [e1, htab]
  rfl
end EVR
end
