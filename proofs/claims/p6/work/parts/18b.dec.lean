theorem dX6_init_0 : decode cX6_init 0 = .ok (.aload_n 0, 1) := by decide +kernel
theorem dX6_init_1 : decode cX6_init 1 = .ok (.invokespecial 1, 3) := by decide +kernel
theorem dX6_init_4 : decode cX6_init 4 = .ok (.aload_n 0, 1) := by decide +kernel
theorem dX6_init_5 : decode cX6_init 5 = .ok (.sipush 16385, 3) := by decide +kernel
theorem dX6_init_8 : decode cX6_init 8 = .ok (.newarray .byte, 2) := by decide +kernel
theorem dX6_init_10 : decode cX6_init 10 = .ok (.putfield 7, 3) := by decide +kernel
theorem dX6_init_13 : decode cX6_init 13 = .ok (.aload_n 0, 1) := by decide +kernel
theorem dX6_init_14 : decode cX6_init 14 = .ok (.ldc 13, 2) := by decide +kernel
theorem dX6_init_16 : decode cX6_init 16 = .ok (.newarray .int, 2) := by decide +kernel
theorem dX6_init_18 : decode cX6_init 18 = .ok (.putfield 14, 3) := by decide +kernel
theorem dX6_init_21 : decode cX6_init 21 = .ok (.aload_n 0, 1) := by decide +kernel
theorem dX6_init_22 : decode cX6_init 22 = .ok (.ldc 13, 2) := by decide +kernel
theorem dX6_init_24 : decode cX6_init 24 = .ok (.newarray .int, 2) := by decide +kernel
theorem dX6_init_26 : decode cX6_init 26 = .ok (.putfield 18, 3) := by decide +kernel
theorem dX6_init_29 : decode cX6_init 29 = .ok (.aload_n 0, 1) := by decide +kernel
theorem dX6_init_30 : decode cX6_init 30 = .ok (.ldc 13, 2) := by decide +kernel
theorem dX6_init_32 : decode cX6_init 32 = .ok (.newarray .int, 2) := by decide +kernel
theorem dX6_init_34 : decode cX6_init 34 = .ok (.putfield 21, 3) := by decide +kernel
theorem dX6_init_37 : decode cX6_init 37 = .ok (.aload_n 0, 1) := by decide +kernel
theorem dX6_init_38 : decode cX6_init 38 = .ok (.ldc 13, 2) := by decide +kernel
theorem dX6_init_40 : decode cX6_init 40 = .ok (.newarray .int, 2) := by decide +kernel
theorem dX6_init_42 : decode cX6_init 42 = .ok (.putfield 24, 3) := by decide +kernel
theorem dX6_init_45 : decode cX6_init 45 = .ok (.aload_n 0, 1) := by decide +kernel
theorem dX6_init_46 : decode cX6_init 46 = .ok (.ldc 13, 2) := by decide +kernel
theorem dX6_init_48 : decode cX6_init 48 = .ok (.newarray .int, 2) := by decide +kernel
theorem dX6_init_50 : decode cX6_init 50 = .ok (.putfield 27, 3) := by decide +kernel
theorem dX6_init_53 : decode cX6_init 53 = .ok (.aload_n 0, 1) := by decide +kernel
theorem dX6_init_54 : decode cX6_init 54 = .ok (.ldc 13, 2) := by decide +kernel
theorem dX6_init_56 : decode cX6_init 56 = .ok (.newarray .int, 2) := by decide +kernel
theorem dX6_init_58 : decode cX6_init 58 = .ok (.putfield 30, 3) := by decide +kernel
theorem dX6_init_61 : decode cX6_init 61 = .ok (.aload_n 0, 1) := by decide +kernel
theorem dX6_init_62 : decode cX6_init 62 = .ok (.ldc 13, 2) := by decide +kernel
theorem dX6_init_64 : decode cX6_init 64 = .ok (.newarray .int, 2) := by decide +kernel
theorem dX6_init_66 : decode cX6_init 66 = .ok (.putfield 33, 3) := by decide +kernel
theorem dX6_init_69 : decode cX6_init 69 = .ok (.aload_n 0, 1) := by decide +kernel
theorem dX6_init_70 : decode cX6_init 70 = .ok (.ldc 13, 2) := by decide +kernel
theorem dX6_init_72 : decode cX6_init 72 = .ok (.newarray .int, 2) := by decide +kernel
theorem dX6_init_74 : decode cX6_init 74 = .ok (.putfield 36, 3) := by decide +kernel
theorem dX6_init_77 : decode cX6_init 77 = .ok (.aload_n 0, 1) := by decide +kernel
theorem dX6_init_78 : decode cX6_init 78 = .ok (.ldc 13, 2) := by decide +kernel
theorem dX6_init_80 : decode cX6_init 80 = .ok (.newarray .int, 2) := by decide +kernel
theorem dX6_init_82 : decode cX6_init 82 = .ok (.putfield 39, 3) := by decide +kernel
theorem dX6_init_85 : decode cX6_init 85 = .ok (.aload_n 0, 1) := by decide +kernel
theorem dX6_init_86 : decode cX6_init 86 = .ok (.sipush 4096, 3) := by decide +kernel
theorem dX6_init_89 : decode cX6_init 89 = .ok (.newarray .int, 2) := by decide +kernel
theorem dX6_init_91 : decode cX6_init 91 = .ok (.putfield 42, 3) := by decide +kernel
theorem dX6_init_94 : decode cX6_init 94 = .ok (.aload_n 0, 1) := by decide +kernel
theorem dX6_init_95 : decode cX6_init 95 = .ok (.sipush 4096, 3) := by decide +kernel
theorem dX6_init_98 : decode cX6_init 98 = .ok (.newarray .int, 2) := by decide +kernel
theorem dX6_init_100 : decode cX6_init 100 = .ok (.putfield 45, 3) := by decide +kernel
theorem dX6_init_103 : decode cX6_init 103 = .ok (.aload_n 0, 1) := by decide +kernel
theorem dX6_init_104 : decode cX6_init 104 = .ok (.sipush 4096, 3) := by decide +kernel
theorem dX6_init_107 : decode cX6_init 107 = .ok (.newarray .int, 2) := by decide +kernel
theorem dX6_init_109 : decode cX6_init 109 = .ok (.putfield 48, 3) := by decide +kernel
theorem dX6_init_112 : decode cX6_init 112 = .ok (.aload_n 0, 1) := by decide +kernel
theorem dX6_init_113 : decode cX6_init 113 = .ok (.bipush 64, 2) := by decide +kernel
theorem dX6_init_115 : decode cX6_init 115 = .ok (.newarray .boolean, 2) := by decide +kernel
theorem dX6_init_117 : decode cX6_init 117 = .ok (.putfield 51, 3) := by decide +kernel
theorem dX6_init_120 : decode cX6_init 120 = .ok (.aload_n 0, 1) := by decide +kernel
theorem dX6_init_121 : decode cX6_init 121 = .ok (.bipush 64, 2) := by decide +kernel
theorem dX6_init_123 : decode cX6_init 123 = .ok (.newarray .boolean, 2) := by decide +kernel
theorem dX6_init_125 : decode cX6_init 125 = .ok (.putfield 55, 3) := by decide +kernel
theorem dX6_init_128 : decode cX6_init 128 = .ok (.aload_n 0, 1) := by decide +kernel
theorem dX6_init_129 : decode cX6_init 129 = .ok (.bipush 64, 2) := by decide +kernel
theorem dX6_init_131 : decode cX6_init 131 = .ok (.newarray .int, 2) := by decide +kernel
theorem dX6_init_133 : decode cX6_init 133 = .ok (.putfield 58, 3) := by decide +kernel
theorem dX6_init_136 : decode cX6_init 136 = .ok (.aload_n 0, 1) := by decide +kernel
theorem dX6_init_137 : decode cX6_init 137 = .ok (.bipush 64, 2) := by decide +kernel
theorem dX6_init_139 : decode cX6_init 139 = .ok (.newarray .boolean, 2) := by decide +kernel
theorem dX6_init_141 : decode cX6_init 141 = .ok (.putfield 61, 3) := by decide +kernel
theorem dX6_init_144 : decode cX6_init 144 = .ok (.return_, 1) := by decide +kernel
theorem dX6_fail_0 : decode cX6_fail 0 = .ok (.aload_n 0, 1) := by decide +kernel
theorem dX6_fail_1 : decode cX6_fail 1 = .ok (.iconst 1, 1) := by decide +kernel
theorem dX6_fail_2 : decode cX6_fail 2 = .ok (.putfield 64, 3) := by decide +kernel
theorem dX6_fail_5 : decode cX6_fail 5 = .ok (.iconst 0, 1) := by decide +kernel
theorem dX6_fail_6 : decode cX6_fail 6 = .ok (.ireturn, 1) := by decide +kernel
theorem dX6_isKind_0 : decode cX6_isKind 0 = .ok (.iload_n 0, 1) := by decide +kernel
theorem dX6_isKind_1 : decode cX6_isKind 1 = .ok (.iconst 1, 1) := by decide +kernel
theorem dX6_isKind_2 : decode cX6_isKind 2 = .ok (.if_icmp .lt 8, 3) := by decide +kernel
theorem dX6_isKind_5 : decode cX6_isKind 5 = .ok (.iload_n 0, 1) := by decide +kernel
theorem dX6_isKind_6 : decode cX6_isKind 6 = .ok (.iconst 5, 1) := by decide +kernel
theorem dX6_isKind_7 : decode cX6_isKind 7 = .ok (.if_icmp .le 27, 3) := by decide +kernel
theorem dX6_isKind_10 : decode cX6_isKind 10 = .ok (.iload_n 0, 1) := by decide +kernel
theorem dX6_isKind_11 : decode cX6_isKind 11 = .ok (.bipush 10, 2) := by decide +kernel
theorem dX6_isKind_13 : decode cX6_isKind 13 = .ok (.if_icmp .lt 9, 3) := by decide +kernel
theorem dX6_isKind_16 : decode cX6_isKind 16 = .ok (.iload_n 0, 1) := by decide +kernel
theorem dX6_isKind_17 : decode cX6_isKind 17 = .ok (.bipush 34, 2) := by decide +kernel
theorem dX6_isKind_19 : decode cX6_isKind 19 = .ok (.if_icmp .le 15, 3) := by decide +kernel
theorem dX6_isKind_22 : decode cX6_isKind 22 = .ok (.iload_n 0, 1) := by decide +kernel
theorem dX6_isKind_23 : decode cX6_isKind 23 = .ok (.bipush 40, 2) := by decide +kernel
theorem dX6_isKind_25 : decode cX6_isKind 25 = .ok (.if_icmp .lt 13, 3) := by decide +kernel
theorem dX6_isKind_28 : decode cX6_isKind 28 = .ok (.iload_n 0, 1) := by decide +kernel
theorem dX6_isKind_29 : decode cX6_isKind 29 = .ok (.bipush 87, 2) := by decide +kernel
theorem dX6_isKind_31 : decode cX6_isKind 31 = .ok (.if_icmp .gt 7, 3) := by decide +kernel
theorem dX6_isKind_34 : decode cX6_isKind 34 = .ok (.iconst 1, 1) := by decide +kernel
theorem dX6_isKind_35 : decode cX6_isKind 35 = .ok (.goto 4, 3) := by decide +kernel
theorem dX6_isKind_38 : decode cX6_isKind 38 = .ok (.iconst 0, 1) := by decide +kernel
theorem dX6_isKind_39 : decode cX6_isKind 39 = .ok (.ireturn, 1) := by decide +kernel
theorem dX6_add_0 : decode cX6_add 0 = .ok (.aload_n 0, 1) := by decide +kernel
theorem dX6_add_1 : decode cX6_add 1 = .ok (.iconst 0, 1) := by decide +kernel
theorem dX6_add_2 : decode cX6_add 2 = .ok (.putfield 64, 3) := by decide +kernel
theorem dX6_add_5 : decode cX6_add 5 = .ok (.iload_n 1, 1) := by decide +kernel
theorem dX6_add_6 : decode cX6_add 6 = .ok (.invokestatic 68, 3) := by decide +kernel
theorem dX6_add_9 : decode cX6_add 9 = .ok (.ifCond .eq 13, 3) := by decide +kernel
theorem dX6_add_12 : decode cX6_add 12 = .ok (.aload_n 0, 1) := by decide +kernel
theorem dX6_add_13 : decode cX6_add 13 = .ok (.getfield 72, 3) := by decide +kernel
theorem dX6_add_16 : decode cX6_add 16 = .ok (.sipush 16384, 3) := by decide +kernel
theorem dX6_add_19 : decode cX6_add 19 = .ok (.if_icmp .ne 5, 3) := by decide +kernel
theorem dX6_add_22 : decode cX6_add 22 = .ok (.iconst 0, 1) := by decide +kernel
theorem dX6_add_23 : decode cX6_add 23 = .ok (.ireturn, 1) := by decide +kernel
theorem dX6_add_24 : decode cX6_add 24 = .ok (.aload_n 0, 1) := by decide +kernel
theorem dX6_add_25 : decode cX6_add 25 = .ok (.getfield 7, 3) := by decide +kernel
theorem dX6_add_28 : decode cX6_add 28 = .ok (.aload_n 0, 1) := by decide +kernel
theorem dX6_add_29 : decode cX6_add 29 = .ok (.getfield 72, 3) := by decide +kernel
theorem dX6_add_32 : decode cX6_add 32 = .ok (.iload_n 1, 1) := by decide +kernel
theorem dX6_add_33 : decode cX6_add 33 = .ok (.i2b, 1) := by decide +kernel
theorem dX6_add_34 : decode cX6_add 34 = .ok (.bastore, 1) := by decide +kernel
theorem dX6_add_35 : decode cX6_add 35 = .ok (.aload_n 0, 1) := by decide +kernel
theorem dX6_add_36 : decode cX6_add 36 = .ok (.dup, 1) := by decide +kernel
theorem dX6_add_37 : decode cX6_add 37 = .ok (.getfield 72, 3) := by decide +kernel
theorem dX6_add_40 : decode cX6_add 40 = .ok (.iconst 1, 1) := by decide +kernel
theorem dX6_add_41 : decode cX6_add 41 = .ok (.iadd, 1) := by decide +kernel
theorem dX6_add_42 : decode cX6_add 42 = .ok (.putfield 72, 3) := by decide +kernel
theorem dX6_add_45 : decode cX6_add 45 = .ok (.iconst 1, 1) := by decide +kernel
theorem dX6_add_46 : decode cX6_add 46 = .ok (.ireturn, 1) := by decide +kernel
theorem dX6_addAll_0 : decode cX6_addAll 0 = .ok (.aload_n 0, 1) := by decide +kernel
theorem dX6_addAll_1 : decode cX6_addAll 1 = .ok (.iconst 0, 1) := by decide +kernel
theorem dX6_addAll_2 : decode cX6_addAll 2 = .ok (.putfield 64, 3) := by decide +kernel
theorem dX6_addAll_5 : decode cX6_addAll 5 = .ok (.iconst 0, 1) := by decide +kernel
theorem dX6_addAll_6 : decode cX6_addAll 6 = .ok (.istore_n 3, 1) := by decide +kernel
theorem dX6_addAll_7 : decode cX6_addAll 7 = .ok (.bipush 7, 2) := by decide +kernel
theorem dX6_addAll_9 : decode cX6_addAll 9 = .ok (.istore 4, 2) := by decide +kernel
theorem dX6_addAll_11 : decode cX6_addAll 11 = .ok (.iload 4, 2) := by decide +kernel
theorem dX6_addAll_13 : decode cX6_addAll 13 = .ok (.ifCond .lt 51, 3) := by decide +kernel
theorem dX6_addAll_16 : decode cX6_addAll 16 = .ok (.lload_n 1, 1) := by decide +kernel
theorem dX6_addAll_17 : decode cX6_addAll 17 = .ok (.bipush 8, 2) := by decide +kernel
theorem dX6_addAll_19 : decode cX6_addAll 19 = .ok (.iload 4, 2) := by decide +kernel
theorem dX6_addAll_21 : decode cX6_addAll 21 = .ok (.imul, 1) := by decide +kernel
theorem dX6_addAll_22 : decode cX6_addAll 22 = .ok (.lshr, 1) := by decide +kernel
theorem dX6_addAll_23 : decode cX6_addAll 23 = .ok (.ldc2_w 75, 3) := by decide +kernel
theorem dX6_addAll_26 : decode cX6_addAll 26 = .ok (.land, 1) := by decide +kernel
theorem dX6_addAll_27 : decode cX6_addAll 27 = .ok (.l2i, 1) := by decide +kernel
theorem dX6_addAll_28 : decode cX6_addAll 28 = .ok (.istore 5, 2) := by decide +kernel
theorem dX6_addAll_30 : decode cX6_addAll 30 = .ok (.iload 5, 2) := by decide +kernel
theorem dX6_addAll_32 : decode cX6_addAll 32 = .ok (.ifCond .eq 13, 3) := by decide +kernel
theorem dX6_addAll_35 : decode cX6_addAll 35 = .ok (.iload 5, 2) := by decide +kernel
theorem dX6_addAll_37 : decode cX6_addAll 37 = .ok (.invokestatic 68, 3) := by decide +kernel
theorem dX6_addAll_40 : decode cX6_addAll 40 = .ok (.ifCond .ne 5, 3) := by decide +kernel
theorem dX6_addAll_43 : decode cX6_addAll 43 = .ok (.iconst 0, 1) := by decide +kernel
theorem dX6_addAll_44 : decode cX6_addAll 44 = .ok (.ireturn, 1) := by decide +kernel
theorem dX6_addAll_45 : decode cX6_addAll 45 = .ok (.iload_n 3, 1) := by decide +kernel
theorem dX6_addAll_46 : decode cX6_addAll 46 = .ok (.iload 5, 2) := by decide +kernel
theorem dX6_addAll_48 : decode cX6_addAll 48 = .ok (.ifCond .ne 7, 3) := by decide +kernel
theorem dX6_addAll_51 : decode cX6_addAll 51 = .ok (.iconst 0, 1) := by decide +kernel
theorem dX6_addAll_52 : decode cX6_addAll 52 = .ok (.goto 4, 3) := by decide +kernel
theorem dX6_addAll_55 : decode cX6_addAll 55 = .ok (.iconst 1, 1) := by decide +kernel
theorem dX6_addAll_56 : decode cX6_addAll 56 = .ok (.iadd, 1) := by decide +kernel
theorem dX6_addAll_57 : decode cX6_addAll 57 = .ok (.istore_n 3, 1) := by decide +kernel
theorem dX6_addAll_58 : decode cX6_addAll 58 = .ok (.iinc 4 (-1), 3) := by decide +kernel
theorem dX6_addAll_61 : decode cX6_addAll 61 = .ok (.goto (-50), 3) := by decide +kernel
theorem dX6_addAll_64 : decode cX6_addAll 64 = .ok (.aload_n 0, 1) := by decide +kernel
theorem dX6_addAll_65 : decode cX6_addAll 65 = .ok (.getfield 72, 3) := by decide +kernel
theorem dX6_addAll_68 : decode cX6_addAll 68 = .ok (.iload_n 3, 1) := by decide +kernel
theorem dX6_addAll_69 : decode cX6_addAll 69 = .ok (.iadd, 1) := by decide +kernel
theorem dX6_addAll_70 : decode cX6_addAll 70 = .ok (.sipush 16384, 3) := by decide +kernel
theorem dX6_addAll_73 : decode cX6_addAll 73 = .ok (.if_icmp .le 5, 3) := by decide +kernel
theorem dX6_addAll_76 : decode cX6_addAll 76 = .ok (.iconst 0, 1) := by decide +kernel
theorem dX6_addAll_77 : decode cX6_addAll 77 = .ok (.ireturn, 1) := by decide +kernel
theorem dX6_addAll_78 : decode cX6_addAll 78 = .ok (.bipush 7, 2) := by decide +kernel
theorem dX6_addAll_80 : decode cX6_addAll 80 = .ok (.istore 4, 2) := by decide +kernel
theorem dX6_addAll_82 : decode cX6_addAll 82 = .ok (.iload 4, 2) := by decide +kernel
theorem dX6_addAll_84 : decode cX6_addAll 84 = .ok (.ifCond .lt 53, 3) := by decide +kernel
theorem dX6_addAll_87 : decode cX6_addAll 87 = .ok (.lload_n 1, 1) := by decide +kernel
theorem dX6_addAll_88 : decode cX6_addAll 88 = .ok (.bipush 8, 2) := by decide +kernel
theorem dX6_addAll_90 : decode cX6_addAll 90 = .ok (.iload 4, 2) := by decide +kernel
theorem dX6_addAll_92 : decode cX6_addAll 92 = .ok (.imul, 1) := by decide +kernel
theorem dX6_addAll_93 : decode cX6_addAll 93 = .ok (.lshr, 1) := by decide +kernel
theorem dX6_addAll_94 : decode cX6_addAll 94 = .ok (.ldc2_w 75, 3) := by decide +kernel
theorem dX6_addAll_97 : decode cX6_addAll 97 = .ok (.land, 1) := by decide +kernel
theorem dX6_addAll_98 : decode cX6_addAll 98 = .ok (.l2i, 1) := by decide +kernel
theorem dX6_addAll_99 : decode cX6_addAll 99 = .ok (.istore 5, 2) := by decide +kernel
theorem dX6_addAll_101 : decode cX6_addAll 101 = .ok (.iload 5, 2) := by decide +kernel
theorem dX6_addAll_103 : decode cX6_addAll 103 = .ok (.ifCond .ne 6, 3) := by decide +kernel
theorem dX6_addAll_106 : decode cX6_addAll 106 = .ok (.goto 25, 3) := by decide +kernel
theorem dX6_addAll_109 : decode cX6_addAll 109 = .ok (.aload_n 0, 1) := by decide +kernel
theorem dX6_addAll_110 : decode cX6_addAll 110 = .ok (.getfield 7, 3) := by decide +kernel
theorem dX6_addAll_113 : decode cX6_addAll 113 = .ok (.aload_n 0, 1) := by decide +kernel
theorem dX6_addAll_114 : decode cX6_addAll 114 = .ok (.getfield 72, 3) := by decide +kernel
theorem dX6_addAll_117 : decode cX6_addAll 117 = .ok (.iload 5, 2) := by decide +kernel
theorem dX6_addAll_119 : decode cX6_addAll 119 = .ok (.i2b, 1) := by decide +kernel
theorem dX6_addAll_120 : decode cX6_addAll 120 = .ok (.bastore, 1) := by decide +kernel
theorem dX6_addAll_121 : decode cX6_addAll 121 = .ok (.aload_n 0, 1) := by decide +kernel
theorem dX6_addAll_122 : decode cX6_addAll 122 = .ok (.dup, 1) := by decide +kernel
theorem dX6_addAll_123 : decode cX6_addAll 123 = .ok (.getfield 72, 3) := by decide +kernel
theorem dX6_addAll_126 : decode cX6_addAll 126 = .ok (.iconst 1, 1) := by decide +kernel
theorem dX6_addAll_127 : decode cX6_addAll 127 = .ok (.iadd, 1) := by decide +kernel
theorem dX6_addAll_128 : decode cX6_addAll 128 = .ok (.putfield 72, 3) := by decide +kernel
theorem dX6_addAll_131 : decode cX6_addAll 131 = .ok (.iinc 4 (-1), 3) := by decide +kernel
theorem dX6_addAll_134 : decode cX6_addAll 134 = .ok (.goto (-52), 3) := by decide +kernel
theorem dX6_addAll_137 : decode cX6_addAll 137 = .ok (.iconst 1, 1) := by decide +kernel
theorem dX6_addAll_138 : decode cX6_addAll 138 = .ok (.ireturn, 1) := by decide +kernel
theorem dX6_size_0 : decode cX6_size 0 = .ok (.aload_n 0, 1) := by decide +kernel
theorem dX6_size_1 : decode cX6_size 1 = .ok (.iconst 0, 1) := by decide +kernel
theorem dX6_size_2 : decode cX6_size 2 = .ok (.putfield 64, 3) := by decide +kernel
theorem dX6_size_5 : decode cX6_size 5 = .ok (.aload_n 0, 1) := by decide +kernel
theorem dX6_size_6 : decode cX6_size 6 = .ok (.getfield 72, 3) := by decide +kernel
theorem dX6_size_9 : decode cX6_size 9 = .ok (.ireturn, 1) := by decide +kernel
theorem dX6_look_0 : decode cX6_look 0 = .ok (.aload_n 0, 1) := by decide +kernel
theorem dX6_look_1 : decode cX6_look 1 = .ok (.getfield 77, 3) := by decide +kernel
theorem dX6_look_4 : decode cX6_look 4 = .ok (.aload_n 0, 1) := by decide +kernel
theorem dX6_look_5 : decode cX6_look 5 = .ok (.getfield 72, 3) := by decide +kernel
theorem dX6_look_8 : decode cX6_look 8 = .ok (.if_icmp .ge 15, 3) := by decide +kernel
theorem dX6_look_11 : decode cX6_look 11 = .ok (.aload_n 0, 1) := by decide +kernel
theorem dX6_look_12 : decode cX6_look 12 = .ok (.getfield 7, 3) := by decide +kernel
theorem dX6_look_15 : decode cX6_look 15 = .ok (.aload_n 0, 1) := by decide +kernel
theorem dX6_look_16 : decode cX6_look 16 = .ok (.getfield 77, 3) := by decide +kernel
theorem dX6_look_19 : decode cX6_look 19 = .ok (.baload, 1) := by decide +kernel
theorem dX6_look_20 : decode cX6_look 20 = .ok (.goto 4, 3) := by decide +kernel
theorem dX6_look_23 : decode cX6_look 23 = .ok (.iconst 0, 1) := by decide +kernel
theorem dX6_look_24 : decode cX6_look 24 = .ok (.ireturn, 1) := by decide +kernel
theorem dX6_ahead_0 : decode cX6_ahead 0 = .ok (.aload_n 0, 1) := by decide +kernel
theorem dX6_ahead_1 : decode cX6_ahead 1 = .ok (.getfield 77, 3) := by decide +kernel
theorem dX6_ahead_4 : decode cX6_ahead 4 = .ok (.iconst 1, 1) := by decide +kernel
theorem dX6_ahead_5 : decode cX6_ahead 5 = .ok (.iadd, 1) := by decide +kernel
theorem dX6_ahead_6 : decode cX6_ahead 6 = .ok (.aload_n 0, 1) := by decide +kernel
theorem dX6_ahead_7 : decode cX6_ahead 7 = .ok (.getfield 72, 3) := by decide +kernel
theorem dX6_ahead_10 : decode cX6_ahead 10 = .ok (.if_icmp .ge 17, 3) := by decide +kernel
theorem dX6_ahead_13 : decode cX6_ahead 13 = .ok (.aload_n 0, 1) := by decide +kernel
theorem dX6_ahead_14 : decode cX6_ahead 14 = .ok (.getfield 7, 3) := by decide +kernel
theorem dX6_ahead_17 : decode cX6_ahead 17 = .ok (.aload_n 0, 1) := by decide +kernel
theorem dX6_ahead_18 : decode cX6_ahead 18 = .ok (.getfield 77, 3) := by decide +kernel
theorem dX6_ahead_21 : decode cX6_ahead 21 = .ok (.iconst 1, 1) := by decide +kernel
theorem dX6_ahead_22 : decode cX6_ahead 22 = .ok (.iadd, 1) := by decide +kernel
theorem dX6_ahead_23 : decode cX6_ahead 23 = .ok (.baload, 1) := by decide +kernel
theorem dX6_ahead_24 : decode cX6_ahead 24 = .ok (.goto 4, 3) := by decide +kernel
theorem dX6_ahead_27 : decode cX6_ahead 27 = .ok (.iconst 0, 1) := by decide +kernel
theorem dX6_ahead_28 : decode cX6_ahead 28 = .ok (.ireturn, 1) := by decide +kernel
theorem dX6_error_0 : decode cX6_error 0 = .ok (.aload_n 0, 1) := by decide +kernel
theorem dX6_error_1 : decode cX6_error 1 = .ok (.getfield 80, 3) := by decide +kernel
theorem dX6_error_4 : decode cX6_error 4 = .ok (.ifCond .ge 11, 3) := by decide +kernel
theorem dX6_error_7 : decode cX6_error 7 = .ok (.aload_n 0, 1) := by decide +kernel
theorem dX6_error_8 : decode cX6_error 8 = .ok (.aload_n 0, 1) := by decide +kernel
theorem dX6_error_9 : decode cX6_error 9 = .ok (.getfield 77, 3) := by decide +kernel
theorem dX6_error_12 : decode cX6_error 12 = .ok (.putfield 80, 3) := by decide +kernel
theorem dX6_error_15 : decode cX6_error 15 = .ok (.return_, 1) := by decide +kernel
theorem dX6_pass_0 : decode cX6_pass 0 = .ok (.aload_n 0, 1) := by decide +kernel
theorem dX6_pass_1 : decode cX6_pass 1 = .ok (.invokevirtual 83, 3) := by decide +kernel
theorem dX6_pass_4 : decode cX6_pass 4 = .ok (.iload_n 1, 1) := by decide +kernel
theorem dX6_pass_5 : decode cX6_pass 5 = .ok (.if_icmp .eq 7, 3) := by decide +kernel
theorem dX6_pass_8 : decode cX6_pass 8 = .ok (.aload_n 0, 1) := by decide +kernel
theorem dX6_pass_9 : decode cX6_pass 9 = .ok (.invokevirtual 87, 3) := by decide +kernel
theorem dX6_pass_12 : decode cX6_pass 12 = .ok (.aload_n 0, 1) := by decide +kernel
theorem dX6_pass_13 : decode cX6_pass 13 = .ok (.dup, 1) := by decide +kernel
theorem dX6_pass_14 : decode cX6_pass 14 = .ok (.getfield 77, 3) := by decide +kernel
theorem dX6_pass_17 : decode cX6_pass 17 = .ok (.iconst 1, 1) := by decide +kernel
theorem dX6_pass_18 : decode cX6_pass 18 = .ok (.iadd, 1) := by decide +kernel
theorem dX6_pass_19 : decode cX6_pass 19 = .ok (.putfield 77, 3) := by decide +kernel
theorem dX6_pass_22 : decode cX6_pass 22 = .ok (.return_, 1) := by decide +kernel
theorem dX6_more_0 : decode cX6_more 0 = .ok (.aload_n 0, 1) := by decide +kernel
theorem dX6_more_1 : decode cX6_more 1 = .ok (.dup, 1) := by decide +kernel
theorem dX6_more_2 : decode cX6_more 2 = .ok (.getfield 90, 3) := by decide +kernel
theorem dX6_more_5 : decode cX6_more 5 = .ok (.iconst 1, 1) := by decide +kernel
theorem dX6_more_6 : decode cX6_more 6 = .ok (.iadd, 1) := by decide +kernel
theorem dX6_more_7 : decode cX6_more 7 = .ok (.putfield 90, 3) := by decide +kernel
theorem dX6_more_10 : decode cX6_more 10 = .ok (.aload_n 0, 1) := by decide +kernel
theorem dX6_more_11 : decode cX6_more 11 = .ok (.getfield 90, 3) := by decide +kernel
theorem dX6_more_14 : decode cX6_more 14 = .ok (.bipush 30, 2) := by decide +kernel
theorem dX6_more_16 : decode cX6_more 16 = .ok (.if_icmp .le 7, 3) := by decide +kernel
theorem dX6_more_19 : decode cX6_more 19 = .ok (.aload_n 0, 1) := by decide +kernel
theorem dX6_more_20 : decode cX6_more 20 = .ok (.invokevirtual 87, 3) := by decide +kernel
theorem dX6_more_23 : decode cX6_more 23 = .ok (.return_, 1) := by decide +kernel
theorem dX6_child_0 : decode cX6_child 0 = .ok (.aload_n 0, 1) := by decide +kernel
theorem dX6_child_1 : decode cX6_child 1 = .ok (.getfield 14, 3) := by decide +kernel
theorem dX6_child_4 : decode cX6_child 4 = .ok (.aload_n 0, 1) := by decide +kernel
theorem dX6_child_5 : decode cX6_child 5 = .ok (.getfield 93, 3) := by decide +kernel
theorem dX6_child_8 : decode cX6_child 8 = .ok (.iload_n 2, 1) := by decide +kernel
theorem dX6_child_9 : decode cX6_child 9 = .ok (.iastore, 1) := by decide +kernel
theorem dX6_child_10 : decode cX6_child 10 = .ok (.aload_n 0, 1) := by decide +kernel
theorem dX6_child_11 : decode cX6_child 11 = .ok (.getfield 18, 3) := by decide +kernel
theorem dX6_child_14 : decode cX6_child 14 = .ok (.aload_n 0, 1) := by decide +kernel
theorem dX6_child_15 : decode cX6_child 15 = .ok (.getfield 93, 3) := by decide +kernel
theorem dX6_child_18 : decode cX6_child 18 = .ok (.iload_n 3, 1) := by decide +kernel
theorem dX6_child_19 : decode cX6_child 19 = .ok (.iastore, 1) := by decide +kernel
theorem dX6_child_20 : decode cX6_child 20 = .ok (.aload_n 0, 1) := by decide +kernel
theorem dX6_child_21 : decode cX6_child 21 = .ok (.getfield 21, 3) := by decide +kernel
theorem dX6_child_24 : decode cX6_child 24 = .ok (.aload_n 0, 1) := by decide +kernel
theorem dX6_child_25 : decode cX6_child 25 = .ok (.getfield 93, 3) := by decide +kernel
theorem dX6_child_28 : decode cX6_child 28 = .ok (.iload_n 1, 1) := by decide +kernel
theorem dX6_child_29 : decode cX6_child 29 = .ok (.iastore, 1) := by decide +kernel
theorem dX6_child_30 : decode cX6_child 30 = .ok (.aload_n 0, 1) := by decide +kernel
theorem dX6_child_31 : decode cX6_child 31 = .ok (.getfield 24, 3) := by decide +kernel
theorem dX6_child_34 : decode cX6_child 34 = .ok (.aload_n 0, 1) := by decide +kernel
theorem dX6_child_35 : decode cX6_child 35 = .ok (.getfield 93, 3) := by decide +kernel
theorem dX6_child_38 : decode cX6_child 38 = .ok (.iconst (-1), 1) := by decide +kernel
theorem dX6_child_39 : decode cX6_child 39 = .ok (.iastore, 1) := by decide +kernel
theorem dX6_child_40 : decode cX6_child 40 = .ok (.aload_n 0, 1) := by decide +kernel
theorem dX6_child_41 : decode cX6_child 41 = .ok (.getfield 27, 3) := by decide +kernel
theorem dX6_child_44 : decode cX6_child 44 = .ok (.aload_n 0, 1) := by decide +kernel
theorem dX6_child_45 : decode cX6_child 45 = .ok (.getfield 93, 3) := by decide +kernel
theorem dX6_child_48 : decode cX6_child 48 = .ok (.iconst (-1), 1) := by decide +kernel
theorem dX6_child_49 : decode cX6_child 49 = .ok (.iastore, 1) := by decide +kernel
theorem dX6_child_50 : decode cX6_child 50 = .ok (.aload_n 0, 1) := by decide +kernel
theorem dX6_child_51 : decode cX6_child 51 = .ok (.getfield 30, 3) := by decide +kernel
theorem dX6_child_54 : decode cX6_child 54 = .ok (.aload_n 0, 1) := by decide +kernel
theorem dX6_child_55 : decode cX6_child 55 = .ok (.getfield 93, 3) := by decide +kernel
theorem dX6_child_58 : decode cX6_child 58 = .ok (.iconst (-1), 1) := by decide +kernel
theorem dX6_child_59 : decode cX6_child 59 = .ok (.iastore, 1) := by decide +kernel
theorem dX6_child_60 : decode cX6_child 60 = .ok (.iload_n 1, 1) := by decide +kernel
theorem dX6_child_61 : decode cX6_child 61 = .ok (.ifCond .lt 25, 3) := by decide +kernel
theorem dX6_child_64 : decode cX6_child 64 = .ok (.aload_n 0, 1) := by decide +kernel
theorem dX6_child_65 : decode cX6_child 65 = .ok (.getfield 24, 3) := by decide +kernel
theorem dX6_child_68 : decode cX6_child 68 = .ok (.iload_n 1, 1) := by decide +kernel
theorem dX6_child_69 : decode cX6_child 69 = .ok (.iaload, 1) := by decide +kernel
theorem dX6_child_70 : decode cX6_child 70 = .ok (.ifCond .ge 16, 3) := by decide +kernel
theorem dX6_child_73 : decode cX6_child 73 = .ok (.aload_n 0, 1) := by decide +kernel
theorem dX6_child_74 : decode cX6_child 74 = .ok (.getfield 24, 3) := by decide +kernel
theorem dX6_child_77 : decode cX6_child 77 = .ok (.iload_n 1, 1) := by decide +kernel
theorem dX6_child_78 : decode cX6_child 78 = .ok (.aload_n 0, 1) := by decide +kernel
theorem dX6_child_79 : decode cX6_child 79 = .ok (.getfield 93, 3) := by decide +kernel
theorem dX6_child_82 : decode cX6_child 82 = .ok (.iastore, 1) := by decide +kernel
theorem dX6_child_83 : decode cX6_child 83 = .ok (.goto 22, 3) := by decide +kernel
theorem dX6_child_86 : decode cX6_child 86 = .ok (.iload_n 1, 1) := by decide +kernel
theorem dX6_child_87 : decode cX6_child 87 = .ok (.ifCond .lt 18, 3) := by decide +kernel
theorem dX6_child_90 : decode cX6_child 90 = .ok (.aload_n 0, 1) := by decide +kernel
theorem dX6_child_91 : decode cX6_child 91 = .ok (.getfield 30, 3) := by decide +kernel
theorem dX6_child_94 : decode cX6_child 94 = .ok (.aload_n 0, 1) := by decide +kernel
theorem dX6_child_95 : decode cX6_child 95 = .ok (.getfield 27, 3) := by decide +kernel
theorem dX6_child_98 : decode cX6_child 98 = .ok (.iload_n 1, 1) := by decide +kernel
theorem dX6_child_99 : decode cX6_child 99 = .ok (.iaload, 1) := by decide +kernel
theorem dX6_child_100 : decode cX6_child 100 = .ok (.aload_n 0, 1) := by decide +kernel
theorem dX6_child_101 : decode cX6_child 101 = .ok (.getfield 93, 3) := by decide +kernel
theorem dX6_child_104 : decode cX6_child 104 = .ok (.iastore, 1) := by decide +kernel
theorem dX6_child_105 : decode cX6_child 105 = .ok (.iload_n 1, 1) := by decide +kernel
theorem dX6_child_106 : decode cX6_child 106 = .ok (.ifCond .lt 13, 3) := by decide +kernel
theorem dX6_child_109 : decode cX6_child 109 = .ok (.aload_n 0, 1) := by decide +kernel
theorem dX6_child_110 : decode cX6_child 110 = .ok (.getfield 27, 3) := by decide +kernel
theorem dX6_child_113 : decode cX6_child 113 = .ok (.iload_n 1, 1) := by decide +kernel
theorem dX6_child_114 : decode cX6_child 114 = .ok (.aload_n 0, 1) := by decide +kernel
theorem dX6_child_115 : decode cX6_child 115 = .ok (.getfield 93, 3) := by decide +kernel
theorem dX6_child_118 : decode cX6_child 118 = .ok (.iastore, 1) := by decide +kernel
theorem dX6_child_119 : decode cX6_child 119 = .ok (.aload_n 0, 1) := by decide +kernel
theorem dX6_child_120 : decode cX6_child 120 = .ok (.dup, 1) := by decide +kernel
theorem dX6_child_121 : decode cX6_child 121 = .ok (.getfield 93, 3) := by decide +kernel
theorem dX6_child_124 : decode cX6_child 124 = .ok (.iconst 1, 1) := by decide +kernel
theorem dX6_child_125 : decode cX6_child 125 = .ok (.iadd, 1) := by decide +kernel
theorem dX6_child_126 : decode cX6_child 126 = .ok (.putfield 93, 3) := by decide +kernel
theorem dX6_child_129 : decode cX6_child 129 = .ok (.aload_n 0, 1) := by decide +kernel
theorem dX6_child_130 : decode cX6_child 130 = .ok (.getfield 93, 3) := by decide +kernel
theorem dX6_child_133 : decode cX6_child 133 = .ok (.iconst 1, 1) := by decide +kernel
theorem dX6_child_134 : decode cX6_child 134 = .ok (.isub, 1) := by decide +kernel
theorem dX6_child_135 : decode cX6_child 135 = .ok (.ireturn, 1) := by decide +kernel
theorem dX6_wrap_0 : decode cX6_wrap 0 = .ok (.aload_n 0, 1) := by decide +kernel
theorem dX6_wrap_1 : decode cX6_wrap 1 = .ok (.getfield 27, 3) := by decide +kernel
theorem dX6_wrap_4 : decode cX6_wrap 4 = .ok (.iload_n 1, 1) := by decide +kernel
theorem dX6_wrap_5 : decode cX6_wrap 5 = .ok (.iaload, 1) := by decide +kernel
theorem dX6_wrap_6 : decode cX6_wrap 6 = .ok (.istore 4, 2) := by decide +kernel
theorem dX6_wrap_8 : decode cX6_wrap 8 = .ok (.aload_n 0, 1) := by decide +kernel
theorem dX6_wrap_9 : decode cX6_wrap 9 = .ok (.getfield 24, 3) := by decide +kernel
theorem dX6_wrap_12 : decode cX6_wrap 12 = .ok (.iload_n 1, 1) := by decide +kernel
theorem dX6_wrap_13 : decode cX6_wrap 13 = .ok (.iaload, 1) := by decide +kernel
theorem dX6_wrap_14 : decode cX6_wrap 14 = .ok (.istore 5, 2) := by decide +kernel
theorem dX6_wrap_16 : decode cX6_wrap 16 = .ok (.iconst (-1), 1) := by decide +kernel
theorem dX6_wrap_17 : decode cX6_wrap 17 = .ok (.istore 6, 2) := by decide +kernel
theorem dX6_wrap_19 : decode cX6_wrap 19 = .ok (.iload 5, 2) := by decide +kernel
theorem dX6_wrap_21 : decode cX6_wrap 21 = .ok (.iload 4, 2) := by decide +kernel
theorem dX6_wrap_23 : decode cX6_wrap 23 = .ok (.if_icmp .eq 19, 3) := by decide +kernel
theorem dX6_wrap_26 : decode cX6_wrap 26 = .ok (.iload 5, 2) := by decide +kernel
theorem dX6_wrap_28 : decode cX6_wrap 28 = .ok (.istore 6, 2) := by decide +kernel
theorem dX6_wrap_30 : decode cX6_wrap 30 = .ok (.aload_n 0, 1) := by decide +kernel
theorem dX6_wrap_31 : decode cX6_wrap 31 = .ok (.getfield 30, 3) := by decide +kernel
theorem dX6_wrap_34 : decode cX6_wrap 34 = .ok (.iload 5, 2) := by decide +kernel
theorem dX6_wrap_36 : decode cX6_wrap 36 = .ok (.iaload, 1) := by decide +kernel
theorem dX6_wrap_37 : decode cX6_wrap 37 = .ok (.istore 5, 2) := by decide +kernel
theorem dX6_wrap_39 : decode cX6_wrap 39 = .ok (.goto (-20), 3) := by decide +kernel
theorem dX6_wrap_42 : decode cX6_wrap 42 = .ok (.aload_n 0, 1) := by decide +kernel
theorem dX6_wrap_43 : decode cX6_wrap 43 = .ok (.getfield 93, 3) := by decide +kernel
theorem dX6_wrap_46 : decode cX6_wrap 46 = .ok (.istore 7, 2) := by decide +kernel
theorem dX6_wrap_48 : decode cX6_wrap 48 = .ok (.aload_n 0, 1) := by decide +kernel
theorem dX6_wrap_49 : decode cX6_wrap 49 = .ok (.dup, 1) := by decide +kernel
theorem dX6_wrap_50 : decode cX6_wrap 50 = .ok (.getfield 93, 3) := by decide +kernel
theorem dX6_wrap_53 : decode cX6_wrap 53 = .ok (.iconst 1, 1) := by decide +kernel
theorem dX6_wrap_54 : decode cX6_wrap 54 = .ok (.iadd, 1) := by decide +kernel
theorem dX6_wrap_55 : decode cX6_wrap 55 = .ok (.putfield 93, 3) := by decide +kernel
theorem dX6_wrap_58 : decode cX6_wrap 58 = .ok (.aload_n 0, 1) := by decide +kernel
theorem dX6_wrap_59 : decode cX6_wrap 59 = .ok (.getfield 14, 3) := by decide +kernel
theorem dX6_wrap_62 : decode cX6_wrap 62 = .ok (.iload 7, 2) := by decide +kernel
theorem dX6_wrap_64 : decode cX6_wrap 64 = .ok (.iload_n 2, 1) := by decide +kernel
theorem dX6_wrap_65 : decode cX6_wrap 65 = .ok (.iastore, 1) := by decide +kernel
theorem dX6_wrap_66 : decode cX6_wrap 66 = .ok (.aload_n 0, 1) := by decide +kernel
theorem dX6_wrap_67 : decode cX6_wrap 67 = .ok (.getfield 18, 3) := by decide +kernel
theorem dX6_wrap_70 : decode cX6_wrap 70 = .ok (.iload 7, 2) := by decide +kernel
theorem dX6_wrap_72 : decode cX6_wrap 72 = .ok (.iload_n 3, 1) := by decide +kernel
theorem dX6_wrap_73 : decode cX6_wrap 73 = .ok (.iastore, 1) := by decide +kernel
theorem dX6_wrap_74 : decode cX6_wrap 74 = .ok (.aload_n 0, 1) := by decide +kernel
theorem dX6_wrap_75 : decode cX6_wrap 75 = .ok (.getfield 21, 3) := by decide +kernel
theorem dX6_wrap_78 : decode cX6_wrap 78 = .ok (.iload 7, 2) := by decide +kernel
theorem dX6_wrap_80 : decode cX6_wrap 80 = .ok (.iload_n 1, 1) := by decide +kernel
theorem dX6_wrap_81 : decode cX6_wrap 81 = .ok (.iastore, 1) := by decide +kernel
theorem dX6_wrap_82 : decode cX6_wrap 82 = .ok (.aload_n 0, 1) := by decide +kernel
theorem dX6_wrap_83 : decode cX6_wrap 83 = .ok (.getfield 24, 3) := by decide +kernel
theorem dX6_wrap_86 : decode cX6_wrap 86 = .ok (.iload 7, 2) := by decide +kernel
theorem dX6_wrap_88 : decode cX6_wrap 88 = .ok (.iload 4, 2) := by decide +kernel
theorem dX6_wrap_90 : decode cX6_wrap 90 = .ok (.iastore, 1) := by decide +kernel
theorem dX6_wrap_91 : decode cX6_wrap 91 = .ok (.aload_n 0, 1) := by decide +kernel
theorem dX6_wrap_92 : decode cX6_wrap 92 = .ok (.getfield 27, 3) := by decide +kernel
theorem dX6_wrap_95 : decode cX6_wrap 95 = .ok (.iload 7, 2) := by decide +kernel
theorem dX6_wrap_97 : decode cX6_wrap 97 = .ok (.iload 4, 2) := by decide +kernel
theorem dX6_wrap_99 : decode cX6_wrap 99 = .ok (.iastore, 1) := by decide +kernel
theorem dX6_wrap_100 : decode cX6_wrap 100 = .ok (.aload_n 0, 1) := by decide +kernel
theorem dX6_wrap_101 : decode cX6_wrap 101 = .ok (.getfield 30, 3) := by decide +kernel
theorem dX6_wrap_104 : decode cX6_wrap 104 = .ok (.iload 7, 2) := by decide +kernel
theorem dX6_wrap_106 : decode cX6_wrap 106 = .ok (.iconst (-1), 1) := by decide +kernel
theorem dX6_wrap_107 : decode cX6_wrap 107 = .ok (.iastore, 1) := by decide +kernel
theorem dX6_wrap_108 : decode cX6_wrap 108 = .ok (.aload_n 0, 1) := by decide +kernel
theorem dX6_wrap_109 : decode cX6_wrap 109 = .ok (.getfield 21, 3) := by decide +kernel
theorem dX6_wrap_112 : decode cX6_wrap 112 = .ok (.iload 4, 2) := by decide +kernel
theorem dX6_wrap_114 : decode cX6_wrap 114 = .ok (.iload 7, 2) := by decide +kernel
theorem dX6_wrap_116 : decode cX6_wrap 116 = .ok (.iastore, 1) := by decide +kernel
theorem dX6_wrap_117 : decode cX6_wrap 117 = .ok (.iload 6, 2) := by decide +kernel
theorem dX6_wrap_119 : decode cX6_wrap 119 = .ok (.ifCond .ge 14, 3) := by decide +kernel
theorem dX6_wrap_122 : decode cX6_wrap 122 = .ok (.aload_n 0, 1) := by decide +kernel
theorem dX6_wrap_123 : decode cX6_wrap 123 = .ok (.getfield 24, 3) := by decide +kernel
theorem dX6_wrap_126 : decode cX6_wrap 126 = .ok (.iload_n 1, 1) := by decide +kernel
theorem dX6_wrap_127 : decode cX6_wrap 127 = .ok (.iload 7, 2) := by decide +kernel
theorem dX6_wrap_129 : decode cX6_wrap 129 = .ok (.iastore, 1) := by decide +kernel
theorem dX6_wrap_130 : decode cX6_wrap 130 = .ok (.goto 12, 3) := by decide +kernel
theorem dX6_wrap_133 : decode cX6_wrap 133 = .ok (.aload_n 0, 1) := by decide +kernel
theorem dX6_wrap_134 : decode cX6_wrap 134 = .ok (.getfield 30, 3) := by decide +kernel
theorem dX6_wrap_137 : decode cX6_wrap 137 = .ok (.iload 6, 2) := by decide +kernel
theorem dX6_wrap_139 : decode cX6_wrap 139 = .ok (.iload 7, 2) := by decide +kernel
theorem dX6_wrap_141 : decode cX6_wrap 141 = .ok (.iastore, 1) := by decide +kernel
theorem dX6_wrap_142 : decode cX6_wrap 142 = .ok (.aload_n 0, 1) := by decide +kernel
theorem dX6_wrap_143 : decode cX6_wrap 143 = .ok (.getfield 27, 3) := by decide +kernel
theorem dX6_wrap_146 : decode cX6_wrap 146 = .ok (.iload_n 1, 1) := by decide +kernel
theorem dX6_wrap_147 : decode cX6_wrap 147 = .ok (.iload 7, 2) := by decide +kernel
theorem dX6_wrap_149 : decode cX6_wrap 149 = .ok (.iastore, 1) := by decide +kernel
theorem dX6_wrap_150 : decode cX6_wrap 150 = .ok (.iload 7, 2) := by decide +kernel
theorem dX6_wrap_152 : decode cX6_wrap 152 = .ok (.ireturn, 1) := by decide +kernel
theorem dX6_unwrap_0 : decode cX6_unwrap 0 = .ok (.aload_n 0, 1) := by decide +kernel
theorem dX6_unwrap_1 : decode cX6_unwrap 1 = .ok (.getfield 27, 3) := by decide +kernel
theorem dX6_unwrap_4 : decode cX6_unwrap 4 = .ok (.iload_n 1, 1) := by decide +kernel
theorem dX6_unwrap_5 : decode cX6_unwrap 5 = .ok (.iaload, 1) := by decide +kernel
theorem dX6_unwrap_6 : decode cX6_unwrap 6 = .ok (.istore_n 2, 1) := by decide +kernel
theorem dX6_unwrap_7 : decode cX6_unwrap 7 = .ok (.aload_n 0, 1) := by decide +kernel
theorem dX6_unwrap_8 : decode cX6_unwrap 8 = .ok (.getfield 24, 3) := by decide +kernel
theorem dX6_unwrap_11 : decode cX6_unwrap 11 = .ok (.iload_n 2, 1) := by decide +kernel
theorem dX6_unwrap_12 : decode cX6_unwrap 12 = .ok (.iaload, 1) := by decide +kernel
theorem dX6_unwrap_13 : decode cX6_unwrap 13 = .ok (.istore_n 3, 1) := by decide +kernel
theorem dX6_unwrap_14 : decode cX6_unwrap 14 = .ok (.aload_n 0, 1) := by decide +kernel
theorem dX6_unwrap_15 : decode cX6_unwrap 15 = .ok (.getfield 24, 3) := by decide +kernel
theorem dX6_unwrap_18 : decode cX6_unwrap 18 = .ok (.iload_n 1, 1) := by decide +kernel
theorem dX6_unwrap_19 : decode cX6_unwrap 19 = .ok (.iaload, 1) := by decide +kernel
theorem dX6_unwrap_20 : decode cX6_unwrap 20 = .ok (.istore 4, 2) := by decide +kernel
theorem dX6_unwrap_22 : decode cX6_unwrap 22 = .ok (.iconst (-1), 1) := by decide +kernel
theorem dX6_unwrap_23 : decode cX6_unwrap 23 = .ok (.istore 5, 2) := by decide +kernel
theorem dX6_unwrap_25 : decode cX6_unwrap 25 = .ok (.iload 4, 2) := by decide +kernel
theorem dX6_unwrap_27 : decode cX6_unwrap 27 = .ok (.iload_n 2, 1) := by decide +kernel
theorem dX6_unwrap_28 : decode cX6_unwrap 28 = .ok (.if_icmp .eq 19, 3) := by decide +kernel
theorem dX6_unwrap_31 : decode cX6_unwrap 31 = .ok (.iload 4, 2) := by decide +kernel
theorem dX6_unwrap_33 : decode cX6_unwrap 33 = .ok (.istore 5, 2) := by decide +kernel
theorem dX6_unwrap_35 : decode cX6_unwrap 35 = .ok (.aload_n 0, 1) := by decide +kernel
theorem dX6_unwrap_36 : decode cX6_unwrap 36 = .ok (.getfield 30, 3) := by decide +kernel
theorem dX6_unwrap_39 : decode cX6_unwrap 39 = .ok (.iload 4, 2) := by decide +kernel
theorem dX6_unwrap_41 : decode cX6_unwrap 41 = .ok (.iaload, 1) := by decide +kernel
theorem dX6_unwrap_42 : decode cX6_unwrap 42 = .ok (.istore 4, 2) := by decide +kernel
theorem dX6_unwrap_44 : decode cX6_unwrap 44 = .ok (.goto (-19), 3) := by decide +kernel
theorem dX6_unwrap_47 : decode cX6_unwrap 47 = .ok (.aload_n 0, 1) := by decide +kernel
theorem dX6_unwrap_48 : decode cX6_unwrap 48 = .ok (.getfield 21, 3) := by decide +kernel
theorem dX6_unwrap_51 : decode cX6_unwrap 51 = .ok (.iload_n 3, 1) := by decide +kernel
theorem dX6_unwrap_52 : decode cX6_unwrap 52 = .ok (.iload_n 1, 1) := by decide +kernel
theorem dX6_unwrap_53 : decode cX6_unwrap 53 = .ok (.iastore, 1) := by decide +kernel
theorem dX6_unwrap_54 : decode cX6_unwrap 54 = .ok (.aload_n 0, 1) := by decide +kernel
theorem dX6_unwrap_55 : decode cX6_unwrap 55 = .ok (.getfield 30, 3) := by decide +kernel
theorem dX6_unwrap_58 : decode cX6_unwrap 58 = .ok (.iload_n 3, 1) := by decide +kernel
theorem dX6_unwrap_59 : decode cX6_unwrap 59 = .ok (.iconst (-1), 1) := by decide +kernel
theorem dX6_unwrap_60 : decode cX6_unwrap 60 = .ok (.iastore, 1) := by decide +kernel
theorem dX6_unwrap_61 : decode cX6_unwrap 61 = .ok (.iload 5, 2) := by decide +kernel
theorem dX6_unwrap_63 : decode cX6_unwrap 63 = .ok (.ifCond .ge 13, 3) := by decide +kernel
theorem dX6_unwrap_66 : decode cX6_unwrap 66 = .ok (.aload_n 0, 1) := by decide +kernel
theorem dX6_unwrap_67 : decode cX6_unwrap 67 = .ok (.getfield 24, 3) := by decide +kernel
theorem dX6_unwrap_70 : decode cX6_unwrap 70 = .ok (.iload_n 1, 1) := by decide +kernel
theorem dX6_unwrap_71 : decode cX6_unwrap 71 = .ok (.iload_n 3, 1) := by decide +kernel
theorem dX6_unwrap_72 : decode cX6_unwrap 72 = .ok (.iastore, 1) := by decide +kernel
theorem dX6_unwrap_73 : decode cX6_unwrap 73 = .ok (.goto 11, 3) := by decide +kernel
theorem dX6_unwrap_76 : decode cX6_unwrap 76 = .ok (.aload_n 0, 1) := by decide +kernel
theorem dX6_unwrap_77 : decode cX6_unwrap 77 = .ok (.getfield 30, 3) := by decide +kernel
theorem dX6_unwrap_80 : decode cX6_unwrap 80 = .ok (.iload 5, 2) := by decide +kernel
theorem dX6_unwrap_82 : decode cX6_unwrap 82 = .ok (.iload_n 3, 1) := by decide +kernel
theorem dX6_unwrap_83 : decode cX6_unwrap 83 = .ok (.iastore, 1) := by decide +kernel
theorem dX6_unwrap_84 : decode cX6_unwrap 84 = .ok (.aload_n 0, 1) := by decide +kernel
theorem dX6_unwrap_85 : decode cX6_unwrap 85 = .ok (.getfield 27, 3) := by decide +kernel
theorem dX6_unwrap_88 : decode cX6_unwrap 88 = .ok (.iload_n 1, 1) := by decide +kernel
theorem dX6_unwrap_89 : decode cX6_unwrap 89 = .ok (.iload_n 3, 1) := by decide +kernel
theorem dX6_unwrap_90 : decode cX6_unwrap 90 = .ok (.iastore, 1) := by decide +kernel
theorem dX6_unwrap_91 : decode cX6_unwrap 91 = .ok (.return_, 1) := by decide +kernel
theorem dX6_push_0 : decode cX6_push 0 = .ok (.aload_n 0, 1) := by decide +kernel
theorem dX6_push_1 : decode cX6_push 1 = .ok (.getfield 42, 3) := by decide +kernel
theorem dX6_push_4 : decode cX6_push 4 = .ok (.aload_n 0, 1) := by decide +kernel
theorem dX6_push_5 : decode cX6_push 5 = .ok (.getfield 96, 3) := by decide +kernel
theorem dX6_push_8 : decode cX6_push 8 = .ok (.iload_n 1, 1) := by decide +kernel
theorem dX6_push_9 : decode cX6_push 9 = .ok (.iastore, 1) := by decide +kernel
theorem dX6_push_10 : decode cX6_push 10 = .ok (.aload_n 0, 1) := by decide +kernel
theorem dX6_push_11 : decode cX6_push 11 = .ok (.getfield 45, 3) := by decide +kernel
theorem dX6_push_14 : decode cX6_push 14 = .ok (.aload_n 0, 1) := by decide +kernel
theorem dX6_push_15 : decode cX6_push 15 = .ok (.getfield 96, 3) := by decide +kernel
theorem dX6_push_18 : decode cX6_push 18 = .ok (.iload_n 2, 1) := by decide +kernel
theorem dX6_push_19 : decode cX6_push 19 = .ok (.iastore, 1) := by decide +kernel
theorem dX6_push_20 : decode cX6_push 20 = .ok (.aload_n 0, 1) := by decide +kernel
theorem dX6_push_21 : decode cX6_push 21 = .ok (.getfield 48, 3) := by decide +kernel
theorem dX6_push_24 : decode cX6_push 24 = .ok (.aload_n 0, 1) := by decide +kernel
theorem dX6_push_25 : decode cX6_push 25 = .ok (.getfield 96, 3) := by decide +kernel
theorem dX6_push_28 : decode cX6_push 28 = .ok (.iload_n 3, 1) := by decide +kernel
theorem dX6_push_29 : decode cX6_push 29 = .ok (.iastore, 1) := by decide +kernel
theorem dX6_push_30 : decode cX6_push 30 = .ok (.aload_n 0, 1) := by decide +kernel
theorem dX6_push_31 : decode cX6_push 31 = .ok (.dup, 1) := by decide +kernel
theorem dX6_push_32 : decode cX6_push 32 = .ok (.getfield 96, 3) := by decide +kernel
theorem dX6_push_35 : decode cX6_push 35 = .ok (.iconst 1, 1) := by decide +kernel
theorem dX6_push_36 : decode cX6_push 36 = .ok (.iadd, 1) := by decide +kernel
theorem dX6_push_37 : decode cX6_push 37 = .ok (.putfield 96, 3) := by decide +kernel
theorem dX6_push_40 : decode cX6_push 40 = .ok (.return_, 1) := by decide +kernel
theorem dX6_name_0 : decode cX6_name 0 = .ok (.aload_n 0, 1) := by decide +kernel
theorem dX6_name_1 : decode cX6_name 1 = .ok (.invokevirtual 83, 3) := by decide +kernel
theorem dX6_name_4 : decode cX6_name 4 = .ok (.iconst 1, 1) := by decide +kernel
theorem dX6_name_5 : decode cX6_name 5 = .ok (.if_icmp .eq 7, 3) := by decide +kernel
theorem dX6_name_8 : decode cX6_name 8 = .ok (.aload_n 0, 1) := by decide +kernel
theorem dX6_name_9 : decode cX6_name 9 = .ok (.invokevirtual 87, 3) := by decide +kernel
theorem dX6_name_12 : decode cX6_name 12 = .ok (.aload_n 0, 1) := by decide +kernel
theorem dX6_name_13 : decode cX6_name 13 = .ok (.iload_n 1, 1) := by decide +kernel
theorem dX6_name_14 : decode cX6_name 14 = .ok (.iconst 5, 1) := by decide +kernel
theorem dX6_name_15 : decode cX6_name 15 = .ok (.aload_n 0, 1) := by decide +kernel
theorem dX6_name_16 : decode cX6_name 16 = .ok (.getfield 77, 3) := by decide +kernel
theorem dX6_name_19 : decode cX6_name 19 = .ok (.invokevirtual 99, 3) := by decide +kernel
theorem dX6_name_22 : decode cX6_name 22 = .ok (.istore_n 2, 1) := by decide +kernel
theorem dX6_name_23 : decode cX6_name 23 = .ok (.aload_n 0, 1) := by decide +kernel
theorem dX6_name_24 : decode cX6_name 24 = .ok (.dup, 1) := by decide +kernel
theorem dX6_name_25 : decode cX6_name 25 = .ok (.getfield 77, 3) := by decide +kernel
theorem dX6_name_28 : decode cX6_name 28 = .ok (.iconst 1, 1) := by decide +kernel
theorem dX6_name_29 : decode cX6_name 29 = .ok (.iadd, 1) := by decide +kernel
theorem dX6_name_30 : decode cX6_name 30 = .ok (.putfield 77, 3) := by decide +kernel
theorem dX6_name_33 : decode cX6_name 33 = .ok (.iload_n 2, 1) := by decide +kernel
theorem dX6_name_34 : decode cX6_name 34 = .ok (.ireturn, 1) := by decide +kernel
theorem dX6_has_0 : decode cX6_has 0 = .ok (.iload_n 0, 1) := by decide +kernel
theorem dX6_has_1 : decode cX6_has 1 = .ok (.iload_n 1, 1) := by decide +kernel
theorem dX6_has_2 : decode cX6_has 2 = .ok (.iand, 1) := by decide +kernel
theorem dX6_has_3 : decode cX6_has 3 = .ok (.ifCond .eq 7, 3) := by decide +kernel
theorem dX6_has_6 : decode cX6_has 6 = .ok (.iconst 1, 1) := by decide +kernel
theorem dX6_has_7 : decode cX6_has 7 = .ok (.goto 4, 3) := by decide +kernel
theorem dX6_has_10 : decode cX6_has 10 = .ok (.iconst 0, 1) := by decide +kernel
theorem dX6_has_11 : decode cX6_has 11 = .ok (.ireturn, 1) := by decide +kernel
theorem dX6_beginsType_0 : decode cX6_beginsType 0 = .ok (.iload_n 0, 1) := by decide +kernel
theorem dX6_beginsType_1 : decode cX6_beginsType 1 = .ok (.iconst 1, 1) := by decide +kernel
theorem dX6_beginsType_2 : decode cX6_beginsType 2 = .ok (.if_icmp .eq 57, 3) := by decide +kernel
theorem dX6_beginsType_5 : decode cX6_beginsType 5 = .ok (.iload_n 0, 1) := by decide +kernel
theorem dX6_beginsType_6 : decode cX6_beginsType 6 = .ok (.bipush 78, 2) := by decide +kernel
theorem dX6_beginsType_8 : decode cX6_beginsType 8 = .ok (.if_icmp .eq 51, 3) := by decide +kernel
theorem dX6_beginsType_11 : decode cX6_beginsType 11 = .ok (.iload_n 0, 1) := by decide +kernel
theorem dX6_beginsType_12 : decode cX6_beginsType 12 = .ok (.bipush 80, 2) := by decide +kernel
theorem dX6_beginsType_14 : decode cX6_beginsType 14 = .ok (.if_icmp .eq 45, 3) := by decide +kernel
theorem dX6_beginsType_17 : decode cX6_beginsType 17 = .ok (.iload_n 0, 1) := by decide +kernel
theorem dX6_beginsType_18 : decode cX6_beginsType 18 = .ok (.bipush 26, 2) := by decide +kernel
theorem dX6_beginsType_20 : decode cX6_beginsType 20 = .ok (.if_icmp .eq 39, 3) := by decide +kernel
theorem dX6_beginsType_23 : decode cX6_beginsType 23 = .ok (.iload_n 0, 1) := by decide +kernel
theorem dX6_beginsType_24 : decode cX6_beginsType 24 = .ok (.bipush 12, 2) := by decide +kernel
theorem dX6_beginsType_26 : decode cX6_beginsType 26 = .ok (.if_icmp .eq 33, 3) := by decide +kernel
theorem dX6_beginsType_29 : decode cX6_beginsType 29 = .ok (.iload_n 0, 1) := by decide +kernel
theorem dX6_beginsType_30 : decode cX6_beginsType 30 = .ok (.bipush 64, 2) := by decide +kernel
theorem dX6_beginsType_32 : decode cX6_beginsType 32 = .ok (.if_icmp .eq 27, 3) := by decide +kernel
theorem dX6_beginsType_35 : decode cX6_beginsType 35 = .ok (.iload_n 0, 1) := by decide +kernel
theorem dX6_beginsType_36 : decode cX6_beginsType 36 = .ok (.bipush 42, 2) := by decide +kernel
theorem dX6_beginsType_38 : decode cX6_beginsType 38 = .ok (.if_icmp .eq 21, 3) := by decide +kernel
theorem dX6_beginsType_41 : decode cX6_beginsType 41 = .ok (.iload_n 0, 1) := by decide +kernel
theorem dX6_beginsType_42 : decode cX6_beginsType 42 = .ok (.bipush 31, 2) := by decide +kernel
theorem dX6_beginsType_44 : decode cX6_beginsType 44 = .ok (.if_icmp .eq 15, 3) := by decide +kernel
theorem dX6_beginsType_47 : decode cX6_beginsType 47 = .ok (.iload_n 0, 1) := by decide +kernel
theorem dX6_beginsType_48 : decode cX6_beginsType 48 = .ok (.bipush 20, 2) := by decide +kernel
theorem dX6_beginsType_50 : decode cX6_beginsType 50 = .ok (.if_icmp .eq 9, 3) := by decide +kernel
theorem dX6_beginsType_53 : decode cX6_beginsType 53 = .ok (.iload_n 0, 1) := by decide +kernel
theorem dX6_beginsType_54 : decode cX6_beginsType 54 = .ok (.bipush 25, 2) := by decide +kernel
theorem dX6_beginsType_56 : decode cX6_beginsType 56 = .ok (.if_icmp .ne 7, 3) := by decide +kernel
theorem dX6_beginsType_59 : decode cX6_beginsType 59 = .ok (.iconst 1, 1) := by decide +kernel
theorem dX6_beginsType_60 : decode cX6_beginsType 60 = .ok (.goto 4, 3) := by decide +kernel
theorem dX6_beginsType_63 : decode cX6_beginsType 63 = .ok (.iconst 0, 1) := by decide +kernel
theorem dX6_beginsType_64 : decode cX6_beginsType 64 = .ok (.ireturn, 1) := by decide +kernel
theorem dX6_isUnary_0 : decode cX6_isUnary 0 = .ok (.iload_n 0, 1) := by decide +kernel
theorem dX6_isUnary_1 : decode cX6_isUnary 1 = .ok (.bipush 40, 2) := by decide +kernel
theorem dX6_isUnary_3 : decode cX6_isUnary 3 = .ok (.if_icmp .eq 39, 3) := by decide +kernel
theorem dX6_isUnary_6 : decode cX6_isUnary 6 = .ok (.iload_n 0, 1) := by decide +kernel
theorem dX6_isUnary_7 : decode cX6_isUnary 7 = .ok (.bipush 41, 2) := by decide +kernel
theorem dX6_isUnary_9 : decode cX6_isUnary 9 = .ok (.if_icmp .eq 33, 3) := by decide +kernel
theorem dX6_isUnary_12 : decode cX6_isUnary 12 = .ok (.iload_n 0, 1) := by decide +kernel
theorem dX6_isUnary_13 : decode cX6_isUnary 13 = .ok (.bipush 71, 2) := by decide +kernel
theorem dX6_isUnary_15 : decode cX6_isUnary 15 = .ok (.if_icmp .eq 27, 3) := by decide +kernel
theorem dX6_isUnary_18 : decode cX6_isUnary 18 = .ok (.iload_n 0, 1) := by decide +kernel
theorem dX6_isUnary_19 : decode cX6_isUnary 19 = .ok (.bipush 47, 2) := by decide +kernel
theorem dX6_isUnary_21 : decode cX6_isUnary 21 = .ok (.if_icmp .eq 21, 3) := by decide +kernel
theorem dX6_isUnary_24 : decode cX6_isUnary 24 = .ok (.iload_n 0, 1) := by decide +kernel
theorem dX6_isUnary_25 : decode cX6_isUnary 25 = .ok (.bipush 42, 2) := by decide +kernel
theorem dX6_isUnary_27 : decode cX6_isUnary 27 = .ok (.if_icmp .eq 15, 3) := by decide +kernel
theorem dX6_isUnary_30 : decode cX6_isUnary 30 = .ok (.iload_n 0, 1) := by decide +kernel
theorem dX6_isUnary_31 : decode cX6_isUnary 31 = .ok (.bipush 45, 2) := by decide +kernel
theorem dX6_isUnary_33 : decode cX6_isUnary 33 = .ok (.if_icmp .eq 9, 3) := by decide +kernel
theorem dX6_isUnary_36 : decode cX6_isUnary 36 = .ok (.iload_n 0, 1) := by decide +kernel
theorem dX6_isUnary_37 : decode cX6_isUnary 37 = .ok (.bipush 64, 2) := by decide +kernel
theorem dX6_isUnary_39 : decode cX6_isUnary 39 = .ok (.if_icmp .ne 7, 3) := by decide +kernel
theorem dX6_isUnary_42 : decode cX6_isUnary 42 = .ok (.iconst 1, 1) := by decide +kernel
theorem dX6_isUnary_43 : decode cX6_isUnary 43 = .ok (.goto 4, 3) := by decide +kernel
theorem dX6_isUnary_46 : decode cX6_isUnary 46 = .ok (.iconst 0, 1) := by decide +kernel
theorem dX6_isUnary_47 : decode cX6_isUnary 47 = .ok (.ireturn, 1) := by decide +kernel
theorem dX6_beginsExpr_0 : decode cX6_beginsExpr 0 = .ok (.iload_n 0, 1) := by decide +kernel
theorem dX6_beginsExpr_1 : decode cX6_beginsExpr 1 = .ok (.iconst 1, 1) := by decide +kernel
theorem dX6_beginsExpr_2 : decode cX6_beginsExpr 2 = .ok (.if_icmp .lt 8, 3) := by decide +kernel
theorem dX6_beginsExpr_5 : decode cX6_beginsExpr 5 = .ok (.iload_n 0, 1) := by decide +kernel
theorem dX6_beginsExpr_6 : decode cX6_beginsExpr 6 = .ok (.iconst 5, 1) := by decide +kernel
theorem dX6_beginsExpr_7 : decode cX6_beginsExpr 7 = .ok (.if_icmp .le 52, 3) := by decide +kernel
theorem dX6_beginsExpr_10 : decode cX6_beginsExpr 10 = .ok (.iload_n 0, 1) := by decide +kernel
theorem dX6_beginsExpr_11 : decode cX6_beginsExpr 11 = .ok (.invokestatic 103, 3) := by decide +kernel
theorem dX6_beginsExpr_14 : decode cX6_beginsExpr 14 = .ok (.ifCond .ne 45, 3) := by decide +kernel
theorem dX6_beginsExpr_17 : decode cX6_beginsExpr 17 = .ok (.iload_n 0, 1) := by decide +kernel
theorem dX6_beginsExpr_18 : decode cX6_beginsExpr 18 = .ok (.bipush 78, 2) := by decide +kernel
theorem dX6_beginsExpr_20 : decode cX6_beginsExpr 20 = .ok (.if_icmp .eq 39, 3) := by decide +kernel
theorem dX6_beginsExpr_23 : decode cX6_beginsExpr 23 = .ok (.iload_n 0, 1) := by decide +kernel
theorem dX6_beginsExpr_24 : decode cX6_beginsExpr 24 = .ok (.bipush 80, 2) := by decide +kernel
theorem dX6_beginsExpr_26 : decode cX6_beginsExpr 26 = .ok (.if_icmp .eq 33, 3) := by decide +kernel
theorem dX6_beginsExpr_29 : decode cX6_beginsExpr 29 = .ok (.iload_n 0, 1) := by decide +kernel
theorem dX6_beginsExpr_30 : decode cX6_beginsExpr 30 = .ok (.bipush 26, 2) := by decide +kernel
theorem dX6_beginsExpr_32 : decode cX6_beginsExpr 32 = .ok (.if_icmp .eq 27, 3) := by decide +kernel
theorem dX6_beginsExpr_35 : decode cX6_beginsExpr 35 = .ok (.iload_n 0, 1) := by decide +kernel
theorem dX6_beginsExpr_36 : decode cX6_beginsExpr 36 = .ok (.bipush 12, 2) := by decide +kernel
theorem dX6_beginsExpr_38 : decode cX6_beginsExpr 38 = .ok (.if_icmp .eq 21, 3) := by decide +kernel
theorem dX6_beginsExpr_41 : decode cX6_beginsExpr 41 = .ok (.iload_n 0, 1) := by decide +kernel
theorem dX6_beginsExpr_42 : decode cX6_beginsExpr 42 = .ok (.bipush 31, 2) := by decide +kernel
theorem dX6_beginsExpr_44 : decode cX6_beginsExpr 44 = .ok (.if_icmp .eq 15, 3) := by decide +kernel
theorem dX6_beginsExpr_47 : decode cX6_beginsExpr 47 = .ok (.iload_n 0, 1) := by decide +kernel
theorem dX6_beginsExpr_48 : decode cX6_beginsExpr 48 = .ok (.bipush 20, 2) := by decide +kernel
theorem dX6_beginsExpr_50 : decode cX6_beginsExpr 50 = .ok (.if_icmp .eq 9, 3) := by decide +kernel
theorem dX6_beginsExpr_53 : decode cX6_beginsExpr 53 = .ok (.iload_n 0, 1) := by decide +kernel
theorem dX6_beginsExpr_54 : decode cX6_beginsExpr 54 = .ok (.bipush 25, 2) := by decide +kernel
theorem dX6_beginsExpr_56 : decode cX6_beginsExpr 56 = .ok (.if_icmp .ne 7, 3) := by decide +kernel
theorem dX6_beginsExpr_59 : decode cX6_beginsExpr 59 = .ok (.iconst 1, 1) := by decide +kernel
theorem dX6_beginsExpr_60 : decode cX6_beginsExpr 60 = .ok (.goto 4, 3) := by decide +kernel
theorem dX6_beginsExpr_63 : decode cX6_beginsExpr 63 = .ok (.iconst 0, 1) := by decide +kernel
theorem dX6_beginsExpr_64 : decode cX6_beginsExpr 64 = .ok (.ireturn, 1) := by decide +kernel
theorem dX6_strength_0 : decode cX6_strength 0 = .ok (.iload_n 0, 1) := by decide +kernel
theorem dX6_strength_1 : decode cX6_strength 1 = .ok (.bipush 63, 2) := by decide +kernel
theorem dX6_strength_3 : decode cX6_strength 3 = .ok (.if_icmp .ne 5, 3) := by decide +kernel
theorem dX6_strength_6 : decode cX6_strength 6 = .ok (.iconst 1, 1) := by decide +kernel
theorem dX6_strength_7 : decode cX6_strength 7 = .ok (.ireturn, 1) := by decide +kernel
theorem dX6_strength_8 : decode cX6_strength 8 = .ok (.iload_n 0, 1) := by decide +kernel
theorem dX6_strength_9 : decode cX6_strength 9 = .ok (.bipush 62, 2) := by decide +kernel
theorem dX6_strength_11 : decode cX6_strength 11 = .ok (.if_icmp .ne 5, 3) := by decide +kernel
theorem dX6_strength_14 : decode cX6_strength 14 = .ok (.iconst 2, 1) := by decide +kernel
theorem dX6_strength_15 : decode cX6_strength 15 = .ok (.ireturn, 1) := by decide +kernel
theorem dX6_strength_16 : decode cX6_strength 16 = .ok (.iload_n 0, 1) := by decide +kernel
theorem dX6_strength_17 : decode cX6_strength 17 = .ok (.bipush 67, 2) := by decide +kernel
theorem dX6_strength_19 : decode cX6_strength 19 = .ok (.if_icmp .eq 27, 3) := by decide +kernel
theorem dX6_strength_22 : decode cX6_strength 22 = .ok (.iload_n 0, 1) := by decide +kernel
theorem dX6_strength_23 : decode cX6_strength 23 = .ok (.bipush 68, 2) := by decide +kernel
theorem dX6_strength_25 : decode cX6_strength 25 = .ok (.if_icmp .eq 21, 3) := by decide +kernel
theorem dX6_strength_28 : decode cX6_strength 28 = .ok (.iload_n 0, 1) := by decide +kernel
theorem dX6_strength_29 : decode cX6_strength 29 = .ok (.bipush 69, 2) := by decide +kernel
theorem dX6_strength_31 : decode cX6_strength 31 = .ok (.if_icmp .eq 15, 3) := by decide +kernel
theorem dX6_strength_34 : decode cX6_strength 34 = .ok (.iload_n 0, 1) := by decide +kernel
theorem dX6_strength_35 : decode cX6_strength 35 = .ok (.bipush 73, 2) := by decide +kernel
theorem dX6_strength_37 : decode cX6_strength 37 = .ok (.if_icmp .lt 11, 3) := by decide +kernel
theorem dX6_strength_40 : decode cX6_strength 40 = .ok (.iload_n 0, 1) := by decide +kernel
theorem dX6_strength_41 : decode cX6_strength 41 = .ok (.bipush 75, 2) := by decide +kernel
theorem dX6_strength_43 : decode cX6_strength 43 = .ok (.if_icmp .gt 5, 3) := by decide +kernel
theorem dX6_strength_46 : decode cX6_strength 46 = .ok (.iconst 3, 1) := by decide +kernel
theorem dX6_strength_47 : decode cX6_strength 47 = .ok (.ireturn, 1) := by decide +kernel
theorem dX6_strength_48 : decode cX6_strength 48 = .ok (.iload_n 0, 1) := by decide +kernel
theorem dX6_strength_49 : decode cX6_strength 49 = .ok (.bipush 40, 2) := by decide +kernel
theorem dX6_strength_51 : decode cX6_strength 51 = .ok (.if_icmp .eq 21, 3) := by decide +kernel
theorem dX6_strength_54 : decode cX6_strength 54 = .ok (.iload_n 0, 1) := by decide +kernel
theorem dX6_strength_55 : decode cX6_strength 55 = .ok (.bipush 41, 2) := by decide +kernel
theorem dX6_strength_57 : decode cX6_strength 57 = .ok (.if_icmp .eq 15, 3) := by decide +kernel
theorem dX6_strength_60 : decode cX6_strength 60 = .ok (.iload_n 0, 1) := by decide +kernel
theorem dX6_strength_61 : decode cX6_strength 61 = .ok (.bipush 46, 2) := by decide +kernel
theorem dX6_strength_63 : decode cX6_strength 63 = .ok (.if_icmp .eq 9, 3) := by decide +kernel
theorem dX6_strength_66 : decode cX6_strength 66 = .ok (.iload_n 0, 1) := by decide +kernel
theorem dX6_strength_67 : decode cX6_strength 67 = .ok (.bipush 47, 2) := by decide +kernel
theorem dX6_strength_69 : decode cX6_strength 69 = .ok (.if_icmp .ne 5, 3) := by decide +kernel
theorem dX6_strength_72 : decode cX6_strength 72 = .ok (.iconst 4, 1) := by decide +kernel
theorem dX6_strength_73 : decode cX6_strength 73 = .ok (.ireturn, 1) := by decide +kernel
theorem dX6_strength_74 : decode cX6_strength 74 = .ok (.iload_n 0, 1) := by decide +kernel
theorem dX6_strength_75 : decode cX6_strength 75 = .ok (.bipush 42, 2) := by decide +kernel
theorem dX6_strength_77 : decode cX6_strength 77 = .ok (.if_icmp .eq 39, 3) := by decide +kernel
theorem dX6_strength_80 : decode cX6_strength 80 = .ok (.iload_n 0, 1) := by decide +kernel
theorem dX6_strength_81 : decode cX6_strength 81 = .ok (.bipush 43, 2) := by decide +kernel
theorem dX6_strength_83 : decode cX6_strength 83 = .ok (.if_icmp .eq 33, 3) := by decide +kernel
theorem dX6_strength_86 : decode cX6_strength 86 = .ok (.iload_n 0, 1) := by decide +kernel
theorem dX6_strength_87 : decode cX6_strength 87 = .ok (.bipush 44, 2) := by decide +kernel
theorem dX6_strength_89 : decode cX6_strength 89 = .ok (.if_icmp .eq 27, 3) := by decide +kernel
theorem dX6_strength_92 : decode cX6_strength 92 = .ok (.iload_n 0, 1) := by decide +kernel
theorem dX6_strength_93 : decode cX6_strength 93 = .ok (.bipush 48, 2) := by decide +kernel
theorem dX6_strength_95 : decode cX6_strength 95 = .ok (.if_icmp .eq 21, 3) := by decide +kernel
theorem dX6_strength_98 : decode cX6_strength 98 = .ok (.iload_n 0, 1) := by decide +kernel
theorem dX6_strength_99 : decode cX6_strength 99 = .ok (.bipush 49, 2) := by decide +kernel
theorem dX6_strength_101 : decode cX6_strength 101 = .ok (.if_icmp .eq 15, 3) := by decide +kernel
theorem dX6_strength_104 : decode cX6_strength 104 = .ok (.iload_n 0, 1) := by decide +kernel
theorem dX6_strength_105 : decode cX6_strength 105 = .ok (.bipush 45, 2) := by decide +kernel
theorem dX6_strength_107 : decode cX6_strength 107 = .ok (.if_icmp .eq 9, 3) := by decide +kernel
theorem dX6_strength_110 : decode cX6_strength 110 = .ok (.iload_n 0, 1) := by decide +kernel
theorem dX6_strength_111 : decode cX6_strength 111 = .ok (.bipush 50, 2) := by decide +kernel
theorem dX6_strength_113 : decode cX6_strength 113 = .ok (.if_icmp .ne 7, 3) := by decide +kernel
theorem dX6_strength_116 : decode cX6_strength 116 = .ok (.iconst 5, 1) := by decide +kernel
theorem dX6_strength_117 : decode cX6_strength 117 = .ok (.goto 4, 3) := by decide +kernel
theorem dX6_strength_120 : decode cX6_strength 120 = .ok (.iconst 0, 1) := by decide +kernel
theorem dX6_strength_121 : decode cX6_strength 121 = .ok (.ireturn, 1) := by decide +kernel
theorem dX6_expression_0 : decode cX6_expression 0 = .ok (.aload_n 0, 1) := by decide +kernel
theorem dX6_expression_1 : decode cX6_expression 1 = .ok (.iconst 2, 1) := by decide +kernel
theorem dX6_expression_2 : decode cX6_expression 2 = .ok (.iload_n 1, 1) := by decide +kernel
theorem dX6_expression_3 : decode cX6_expression 3 = .ok (.iload_n 2, 1) := by decide +kernel
theorem dX6_expression_4 : decode cX6_expression 4 = .ok (.iload_n 3, 1) := by decide +kernel
theorem dX6_expression_5 : decode cX6_expression 5 = .ok (.bipush 8, 2) := by decide +kernel
theorem dX6_expression_7 : decode cX6_expression 7 = .ok (.ishl, 1) := by decide +kernel
theorem dX6_expression_8 : decode cX6_expression 8 = .ok (.ior, 1) := by decide +kernel
theorem dX6_expression_9 : decode cX6_expression 9 = .ok (.invokevirtual 106, 3) := by decide +kernel
theorem dX6_expression_12 : decode cX6_expression 12 = .ok (.aload_n 0, 1) := by decide +kernel
theorem dX6_expression_13 : decode cX6_expression 13 = .ok (.iconst 3, 1) := by decide +kernel
theorem dX6_expression_14 : decode cX6_expression 14 = .ok (.iload_n 1, 1) := by decide +kernel
theorem dX6_expression_15 : decode cX6_expression 15 = .ok (.iload_n 2, 1) := by decide +kernel
theorem dX6_expression_16 : decode cX6_expression 16 = .ok (.invokevirtual 106, 3) := by decide +kernel
theorem dX6_expression_19 : decode cX6_expression 19 = .ok (.return_, 1) := by decide +kernel
theorem dX6_binary_0 : decode cX6_binary 0 = .ok (.aload_n 0, 1) := by decide +kernel
theorem dX6_binary_1 : decode cX6_binary 1 = .ok (.invokevirtual 83, 3) := by decide +kernel
theorem dX6_binary_4 : decode cX6_binary 4 = .ok (.invokestatic 110, 3) := by decide +kernel
theorem dX6_binary_7 : decode cX6_binary 7 = .ok (.istore_n 3, 1) := by decide +kernel
theorem dX6_binary_8 : decode cX6_binary 8 = .ok (.iload_n 2, 1) := by decide +kernel
theorem dX6_binary_9 : decode cX6_binary 9 = .ok (.bipush 8, 2) := by decide +kernel
theorem dX6_binary_11 : decode cX6_binary 11 = .ok (.ishr, 1) := by decide +kernel
theorem dX6_binary_12 : decode cX6_binary 12 = .ok (.istore 4, 2) := by decide +kernel
theorem dX6_binary_14 : decode cX6_binary 14 = .ok (.iload_n 3, 1) := by decide +kernel
theorem dX6_binary_15 : decode cX6_binary 15 = .ok (.iload 4, 2) := by decide +kernel
theorem dX6_binary_17 : decode cX6_binary 17 = .ok (.if_icmp .lt 7, 3) := by decide +kernel
theorem dX6_binary_20 : decode cX6_binary 20 = .ok (.iload_n 3, 1) := by decide +kernel
theorem dX6_binary_21 : decode cX6_binary 21 = .ok (.ifCond .ne 4, 3) := by decide +kernel
theorem dX6_binary_24 : decode cX6_binary 24 = .ok (.return_, 1) := by decide +kernel
theorem dX6_binary_25 : decode cX6_binary 25 = .ok (.aload_n 0, 1) := by decide +kernel
theorem dX6_binary_26 : decode cX6_binary 26 = .ok (.iload_n 1, 1) := by decide +kernel
theorem dX6_binary_27 : decode cX6_binary 27 = .ok (.bipush 80, 2) := by decide +kernel
theorem dX6_binary_29 : decode cX6_binary 29 = .ok (.aload_n 0, 1) := by decide +kernel
theorem dX6_binary_30 : decode cX6_binary 30 = .ok (.getfield 77, 3) := by decide +kernel
theorem dX6_binary_33 : decode cX6_binary 33 = .ok (.invokevirtual 114, 3) := by decide +kernel
theorem dX6_binary_36 : decode cX6_binary 36 = .ok (.istore 5, 2) := by decide +kernel
theorem dX6_binary_38 : decode cX6_binary 38 = .ok (.aload_n 0, 1) := by decide +kernel
theorem dX6_binary_39 : decode cX6_binary 39 = .ok (.dup, 1) := by decide +kernel
theorem dX6_binary_40 : decode cX6_binary 40 = .ok (.getfield 77, 3) := by decide +kernel
theorem dX6_binary_43 : decode cX6_binary 43 = .ok (.iconst 1, 1) := by decide +kernel
theorem dX6_binary_44 : decode cX6_binary 44 = .ok (.iadd, 1) := by decide +kernel
theorem dX6_binary_45 : decode cX6_binary 45 = .ok (.putfield 77, 3) := by decide +kernel
theorem dX6_binary_48 : decode cX6_binary 48 = .ok (.aload_n 0, 1) := by decide +kernel
theorem dX6_binary_49 : decode cX6_binary 49 = .ok (.iconst 2, 1) := by decide +kernel
theorem dX6_binary_50 : decode cX6_binary 50 = .ok (.iload_n 1, 1) := by decide +kernel
theorem dX6_binary_51 : decode cX6_binary 51 = .ok (.iload_n 2, 1) := by decide +kernel
theorem dX6_binary_52 : decode cX6_binary 52 = .ok (.bipush (-3), 2) := by decide +kernel
theorem dX6_binary_54 : decode cX6_binary 54 = .ok (.iand, 1) := by decide +kernel
theorem dX6_binary_55 : decode cX6_binary 55 = .ok (.invokevirtual 106, 3) := by decide +kernel
theorem dX6_binary_58 : decode cX6_binary 58 = .ok (.aload_n 0, 1) := by decide +kernel
theorem dX6_binary_59 : decode cX6_binary 59 = .ok (.iload 5, 2) := by decide +kernel
theorem dX6_binary_61 : decode cX6_binary 61 = .ok (.iload_n 2, 1) := by decide +kernel
theorem dX6_binary_62 : decode cX6_binary 62 = .ok (.iconst 1, 1) := by decide +kernel
theorem dX6_binary_63 : decode cX6_binary 63 = .ok (.iand, 1) := by decide +kernel
theorem dX6_binary_64 : decode cX6_binary 64 = .ok (.iload_n 3, 1) := by decide +kernel
theorem dX6_binary_65 : decode cX6_binary 65 = .ok (.iconst 1, 1) := by decide +kernel
theorem dX6_binary_66 : decode cX6_binary 66 = .ok (.iadd, 1) := by decide +kernel
theorem dX6_binary_67 : decode cX6_binary 67 = .ok (.invokevirtual 117, 3) := by decide +kernel
theorem dX6_binary_70 : decode cX6_binary 70 = .ok (.return_, 1) := by decide +kernel
theorem dX6_unary_0 : decode cX6_unary 0 = .ok (.aload_n 0, 1) := by decide +kernel
theorem dX6_unary_1 : decode cX6_unary 1 = .ok (.invokevirtual 83, 3) := by decide +kernel
theorem dX6_unary_4 : decode cX6_unary 4 = .ok (.istore_n 3, 1) := by decide +kernel
theorem dX6_unary_5 : decode cX6_unary 5 = .ok (.iload_n 3, 1) := by decide +kernel
theorem dX6_unary_6 : decode cX6_unary 6 = .ok (.invokestatic 103, 3) := by decide +kernel
theorem dX6_unary_9 : decode cX6_unary 9 = .ok (.ifCond .eq 65, 3) := by decide +kernel
theorem dX6_unary_12 : decode cX6_unary 12 = .ok (.iload_n 3, 1) := by decide +kernel
theorem dX6_unary_13 : decode cX6_unary 13 = .ok (.bipush 64, 2) := by decide +kernel
theorem dX6_unary_15 : decode cX6_unary 15 = .ok (.if_icmp .ne 12, 3) := by decide +kernel
theorem dX6_unary_18 : decode cX6_unary 18 = .ok (.aload_n 0, 1) := by decide +kernel
theorem dX6_unary_19 : decode cX6_unary 19 = .ok (.invokevirtual 120, 3) := by decide +kernel
theorem dX6_unary_22 : decode cX6_unary 22 = .ok (.bipush 12, 2) := by decide +kernel
theorem dX6_unary_24 : decode cX6_unary 24 = .ok (.if_icmp .eq 50, 3) := by decide +kernel
theorem dX6_unary_27 : decode cX6_unary 27 = .ok (.aload_n 0, 1) := by decide +kernel
theorem dX6_unary_28 : decode cX6_unary 28 = .ok (.iload_n 1, 1) := by decide +kernel
theorem dX6_unary_29 : decode cX6_unary 29 = .ok (.bipush 81, 2) := by decide +kernel
theorem dX6_unary_31 : decode cX6_unary 31 = .ok (.aload_n 0, 1) := by decide +kernel
theorem dX6_unary_32 : decode cX6_unary 32 = .ok (.getfield 77, 3) := by decide +kernel
theorem dX6_unary_35 : decode cX6_unary 35 = .ok (.invokevirtual 99, 3) := by decide +kernel
theorem dX6_unary_38 : decode cX6_unary 38 = .ok (.istore 4, 2) := by decide +kernel
theorem dX6_unary_40 : decode cX6_unary 40 = .ok (.aload_n 0, 1) := by decide +kernel
theorem dX6_unary_41 : decode cX6_unary 41 = .ok (.invokevirtual 123, 3) := by decide +kernel
theorem dX6_unary_44 : decode cX6_unary 44 = .ok (.aload_n 0, 1) := by decide +kernel
theorem dX6_unary_45 : decode cX6_unary 45 = .ok (.dup, 1) := by decide +kernel
theorem dX6_unary_46 : decode cX6_unary 46 = .ok (.getfield 77, 3) := by decide +kernel
theorem dX6_unary_49 : decode cX6_unary 49 = .ok (.iconst 1, 1) := by decide +kernel
theorem dX6_unary_50 : decode cX6_unary 50 = .ok (.iadd, 1) := by decide +kernel
theorem dX6_unary_51 : decode cX6_unary 51 = .ok (.putfield 77, 3) := by decide +kernel
theorem dX6_unary_54 : decode cX6_unary 54 = .ok (.aload_n 0, 1) := by decide +kernel
theorem dX6_unary_55 : decode cX6_unary 55 = .ok (.bipush 6, 2) := by decide +kernel
theorem dX6_unary_57 : decode cX6_unary 57 = .ok (.iload 4, 2) := by decide +kernel
theorem dX6_unary_59 : decode cX6_unary 59 = .ok (.iconst 0, 1) := by decide +kernel
theorem dX6_unary_60 : decode cX6_unary 60 = .ok (.invokevirtual 106, 3) := by decide +kernel
theorem dX6_unary_63 : decode cX6_unary 63 = .ok (.aload_n 0, 1) := by decide +kernel
theorem dX6_unary_64 : decode cX6_unary 64 = .ok (.iconst 3, 1) := by decide +kernel
theorem dX6_unary_65 : decode cX6_unary 65 = .ok (.iload 4, 2) := by decide +kernel
theorem dX6_unary_67 : decode cX6_unary 67 = .ok (.iload_n 2, 1) := by decide +kernel
theorem dX6_unary_68 : decode cX6_unary 68 = .ok (.iconst 1, 1) := by decide +kernel
theorem dX6_unary_69 : decode cX6_unary 69 = .ok (.iand, 1) := by decide +kernel
theorem dX6_unary_70 : decode cX6_unary 70 = .ok (.invokevirtual 106, 3) := by decide +kernel
theorem dX6_unary_73 : decode cX6_unary 73 = .ok (.return_, 1) := by decide +kernel
theorem dX6_unary_74 : decode cX6_unary 74 = .ok (.aload_n 0, 1) := by decide +kernel
theorem dX6_unary_75 : decode cX6_unary 75 = .ok (.iconst 4, 1) := by decide +kernel
theorem dX6_unary_76 : decode cX6_unary 76 = .ok (.iload_n 1, 1) := by decide +kernel
theorem dX6_unary_77 : decode cX6_unary 77 = .ok (.iload_n 2, 1) := by decide +kernel
theorem dX6_unary_78 : decode cX6_unary 78 = .ok (.invokevirtual 106, 3) := by decide +kernel
theorem dX6_unary_81 : decode cX6_unary 81 = .ok (.aload_n 0, 1) := by decide +kernel
theorem dX6_unary_82 : decode cX6_unary 82 = .ok (.iload_n 1, 1) := by decide +kernel
theorem dX6_unary_83 : decode cX6_unary 83 = .ok (.iload_n 2, 1) := by decide +kernel
theorem dX6_unary_84 : decode cX6_unary 84 = .ok (.invokevirtual 126, 3) := by decide +kernel
theorem dX6_unary_87 : decode cX6_unary 87 = .ok (.return_, 1) := by decide +kernel
theorem dX6_operand_0 : decode cX6_operand 0 = .ok (.aload_n 0, 1) := by decide +kernel
theorem dX6_operand_1 : decode cX6_operand 1 = .ok (.invokevirtual 83, 3) := by decide +kernel
theorem dX6_operand_4 : decode cX6_operand 4 = .ok (.istore_n 3, 1) := by decide +kernel
theorem dX6_operand_5 : decode cX6_operand 5 = .ok (.iload_n 3, 1) := by decide +kernel
theorem dX6_operand_6 : decode cX6_operand 6 = .ok (.iconst 1, 1) := by decide +kernel
theorem dX6_operand_7 : decode cX6_operand 7 = .ok (.if_icmp .le 33, 3) := by decide +kernel
theorem dX6_operand_10 : decode cX6_operand 10 = .ok (.iload_n 3, 1) := by decide +kernel
theorem dX6_operand_11 : decode cX6_operand 11 = .ok (.iconst 5, 1) := by decide +kernel
theorem dX6_operand_12 : decode cX6_operand 12 = .ok (.if_icmp .gt 28, 3) := by decide +kernel
theorem dX6_operand_15 : decode cX6_operand 15 = .ok (.aload_n 0, 1) := by decide +kernel
theorem dX6_operand_16 : decode cX6_operand 16 = .ok (.iload_n 1, 1) := by decide +kernel
theorem dX6_operand_17 : decode cX6_operand 17 = .ok (.bipush 88, 2) := by decide +kernel
theorem dX6_operand_19 : decode cX6_operand 19 = .ok (.aload_n 0, 1) := by decide +kernel
theorem dX6_operand_20 : decode cX6_operand 20 = .ok (.getfield 77, 3) := by decide +kernel
theorem dX6_operand_23 : decode cX6_operand 23 = .ok (.invokevirtual 99, 3) := by decide +kernel
theorem dX6_operand_26 : decode cX6_operand 26 = .ok (.pop, 1) := by decide +kernel
theorem dX6_operand_27 : decode cX6_operand 27 = .ok (.aload_n 0, 1) := by decide +kernel
theorem dX6_operand_28 : decode cX6_operand 28 = .ok (.dup, 1) := by decide +kernel
theorem dX6_operand_29 : decode cX6_operand 29 = .ok (.getfield 77, 3) := by decide +kernel
theorem dX6_operand_32 : decode cX6_operand 32 = .ok (.iconst 1, 1) := by decide +kernel
theorem dX6_operand_33 : decode cX6_operand 33 = .ok (.iadd, 1) := by decide +kernel
theorem dX6_operand_34 : decode cX6_operand 34 = .ok (.putfield 77, 3) := by decide +kernel
theorem dX6_operand_37 : decode cX6_operand 37 = .ok (.goto 189, 3) := by decide +kernel
theorem dX6_operand_40 : decode cX6_operand 40 = .ok (.iload_n 3, 1) := by decide +kernel
theorem dX6_operand_41 : decode cX6_operand 41 = .ok (.iconst 1, 1) := by decide +kernel
theorem dX6_operand_42 : decode cX6_operand 42 = .ok (.if_icmp .ne 19, 3) := by decide +kernel
theorem dX6_operand_45 : decode cX6_operand 45 = .ok (.aload_n 0, 1) := by decide +kernel
theorem dX6_operand_46 : decode cX6_operand 46 = .ok (.iload_n 1, 1) := by decide +kernel
theorem dX6_operand_47 : decode cX6_operand 47 = .ok (.invokevirtual 130, 3) := by decide +kernel
theorem dX6_operand_50 : decode cX6_operand 50 = .ok (.pop, 1) := by decide +kernel
theorem dX6_operand_51 : decode cX6_operand 51 = .ok (.aload_n 0, 1) := by decide +kernel
theorem dX6_operand_52 : decode cX6_operand 52 = .ok (.iconst 5, 1) := by decide +kernel
theorem dX6_operand_53 : decode cX6_operand 53 = .ok (.iload_n 1, 1) := by decide +kernel
theorem dX6_operand_54 : decode cX6_operand 54 = .ok (.iload_n 2, 1) := by decide +kernel
theorem dX6_operand_55 : decode cX6_operand 55 = .ok (.invokevirtual 106, 3) := by decide +kernel
theorem dX6_operand_58 : decode cX6_operand 58 = .ok (.goto 168, 3) := by decide +kernel
theorem dX6_operand_61 : decode cX6_operand 61 = .ok (.iload_n 3, 1) := by decide +kernel
theorem dX6_operand_62 : decode cX6_operand 62 = .ok (.bipush 78, 2) := by decide +kernel
theorem dX6_operand_64 : decode cX6_operand 64 = .ok (.if_icmp .ne 50, 3) := by decide +kernel
theorem dX6_operand_67 : decode cX6_operand 67 = .ok (.aload_n 0, 1) := by decide +kernel
theorem dX6_operand_68 : decode cX6_operand 68 = .ok (.iload_n 1, 1) := by decide +kernel
theorem dX6_operand_69 : decode cX6_operand 69 = .ok (.bipush 89, 2) := by decide +kernel
theorem dX6_operand_71 : decode cX6_operand 71 = .ok (.aload_n 0, 1) := by decide +kernel
theorem dX6_operand_72 : decode cX6_operand 72 = .ok (.getfield 77, 3) := by decide +kernel
theorem dX6_operand_75 : decode cX6_operand 75 = .ok (.invokevirtual 99, 3) := by decide +kernel
theorem dX6_operand_78 : decode cX6_operand 78 = .ok (.istore 4, 2) := by decide +kernel
theorem dX6_operand_80 : decode cX6_operand 80 = .ok (.aload_n 0, 1) := by decide +kernel
theorem dX6_operand_81 : decode cX6_operand 81 = .ok (.invokevirtual 123, 3) := by decide +kernel
theorem dX6_operand_84 : decode cX6_operand 84 = .ok (.aload_n 0, 1) := by decide +kernel
theorem dX6_operand_85 : decode cX6_operand 85 = .ok (.dup, 1) := by decide +kernel
theorem dX6_operand_86 : decode cX6_operand 86 = .ok (.getfield 77, 3) := by decide +kernel
theorem dX6_operand_89 : decode cX6_operand 89 = .ok (.iconst 1, 1) := by decide +kernel
theorem dX6_operand_90 : decode cX6_operand 90 = .ok (.iadd, 1) := by decide +kernel
theorem dX6_operand_91 : decode cX6_operand 91 = .ok (.putfield 77, 3) := by decide +kernel
theorem dX6_operand_94 : decode cX6_operand 94 = .ok (.aload_n 0, 1) := by decide +kernel
theorem dX6_operand_95 : decode cX6_operand 95 = .ok (.bipush 8, 2) := by decide +kernel
theorem dX6_operand_97 : decode cX6_operand 97 = .ok (.bipush 79, 2) := by decide +kernel
theorem dX6_operand_99 : decode cX6_operand 99 = .ok (.iconst 0, 1) := by decide +kernel
theorem dX6_operand_100 : decode cX6_operand 100 = .ok (.invokevirtual 106, 3) := by decide +kernel
theorem dX6_operand_103 : decode cX6_operand 103 = .ok (.aload_n 0, 1) := by decide +kernel
theorem dX6_operand_104 : decode cX6_operand 104 = .ok (.iload 4, 2) := by decide +kernel
theorem dX6_operand_106 : decode cX6_operand 106 = .ok (.iconst 0, 1) := by decide +kernel
theorem dX6_operand_107 : decode cX6_operand 107 = .ok (.iconst 1, 1) := by decide +kernel
theorem dX6_operand_108 : decode cX6_operand 108 = .ok (.invokevirtual 117, 3) := by decide +kernel
theorem dX6_operand_111 : decode cX6_operand 111 = .ok (.goto 115, 3) := by decide +kernel
theorem dX6_operand_114 : decode cX6_operand 114 = .ok (.iload_n 3, 1) := by decide +kernel
theorem dX6_operand_115 : decode cX6_operand 115 = .ok (.bipush 20, 2) := by decide +kernel
theorem dX6_operand_117 : decode cX6_operand 117 = .ok (.if_icmp .ne 51, 3) := by decide +kernel
theorem dX6_operand_120 : decode cX6_operand 120 = .ok (.aload_n 0, 1) := by decide +kernel
theorem dX6_operand_121 : decode cX6_operand 121 = .ok (.iload_n 1, 1) := by decide +kernel
theorem dX6_operand_122 : decode cX6_operand 122 = .ok (.bipush 29, 2) := by decide +kernel
theorem dX6_operand_124 : decode cX6_operand 124 = .ok (.aload_n 0, 1) := by decide +kernel
theorem dX6_operand_125 : decode cX6_operand 125 = .ok (.getfield 77, 3) := by decide +kernel
theorem dX6_operand_128 : decode cX6_operand 128 = .ok (.invokevirtual 99, 3) := by decide +kernel
theorem dX6_operand_131 : decode cX6_operand 131 = .ok (.istore 4, 2) := by decide +kernel
theorem dX6_operand_133 : decode cX6_operand 133 = .ok (.aload_n 0, 1) := by decide +kernel
theorem dX6_operand_134 : decode cX6_operand 134 = .ok (.invokevirtual 123, 3) := by decide +kernel
theorem dX6_operand_137 : decode cX6_operand 137 = .ok (.aload_n 0, 1) := by decide +kernel
theorem dX6_operand_138 : decode cX6_operand 138 = .ok (.dup, 1) := by decide +kernel
theorem dX6_operand_139 : decode cX6_operand 139 = .ok (.getfield 77, 3) := by decide +kernel
theorem dX6_operand_142 : decode cX6_operand 142 = .ok (.iconst 1, 1) := by decide +kernel
theorem dX6_operand_143 : decode cX6_operand 143 = .ok (.iadd, 1) := by decide +kernel
theorem dX6_operand_144 : decode cX6_operand 144 = .ok (.putfield 77, 3) := by decide +kernel
theorem dX6_operand_147 : decode cX6_operand 147 = .ok (.aload_n 0, 1) := by decide +kernel
theorem dX6_operand_148 : decode cX6_operand 148 = .ok (.bipush 20, 2) := by decide +kernel
theorem dX6_operand_150 : decode cX6_operand 150 = .ok (.iload 4, 2) := by decide +kernel
theorem dX6_operand_152 : decode cX6_operand 152 = .ok (.iconst 0, 1) := by decide +kernel
theorem dX6_operand_153 : decode cX6_operand 153 = .ok (.invokevirtual 106, 3) := by decide +kernel
theorem dX6_operand_156 : decode cX6_operand 156 = .ok (.aload_n 0, 1) := by decide +kernel
theorem dX6_operand_157 : decode cX6_operand 157 = .ok (.bipush 21, 2) := by decide +kernel
theorem dX6_operand_159 : decode cX6_operand 159 = .ok (.iload 4, 2) := by decide +kernel
theorem dX6_operand_161 : decode cX6_operand 161 = .ok (.iconst 0, 1) := by decide +kernel
theorem dX6_operand_162 : decode cX6_operand 162 = .ok (.invokevirtual 106, 3) := by decide +kernel
theorem dX6_operand_165 : decode cX6_operand 165 = .ok (.goto 61, 3) := by decide +kernel
theorem dX6_operand_168 : decode cX6_operand 168 = .ok (.iload_n 3, 1) := by decide +kernel
theorem dX6_operand_169 : decode cX6_operand 169 = .ok (.bipush 80, 2) := by decide +kernel
theorem dX6_operand_171 : decode cX6_operand 171 = .ok (.if_icmp .eq 33, 3) := by decide +kernel
theorem dX6_operand_174 : decode cX6_operand 174 = .ok (.iload_n 3, 1) := by decide +kernel
theorem dX6_operand_175 : decode cX6_operand 175 = .ok (.bipush 26, 2) := by decide +kernel
theorem dX6_operand_177 : decode cX6_operand 177 = .ok (.if_icmp .eq 27, 3) := by decide +kernel
theorem dX6_operand_180 : decode cX6_operand 180 = .ok (.iload_n 3, 1) := by decide +kernel
theorem dX6_operand_181 : decode cX6_operand 181 = .ok (.bipush 12, 2) := by decide +kernel
theorem dX6_operand_183 : decode cX6_operand 183 = .ok (.if_icmp .eq 21, 3) := by decide +kernel
theorem dX6_operand_186 : decode cX6_operand 186 = .ok (.iload_n 3, 1) := by decide +kernel
theorem dX6_operand_187 : decode cX6_operand 187 = .ok (.bipush 31, 2) := by decide +kernel
theorem dX6_operand_189 : decode cX6_operand 189 = .ok (.if_icmp .eq 15, 3) := by decide +kernel
theorem dX6_operand_192 : decode cX6_operand 192 = .ok (.iload_n 3, 1) := by decide +kernel
theorem dX6_operand_193 : decode cX6_operand 193 = .ok (.bipush 25, 2) := by decide +kernel
theorem dX6_operand_195 : decode cX6_operand 195 = .ok (.if_icmp .eq 9, 3) := by decide +kernel
theorem dX6_operand_198 : decode cX6_operand 198 = .ok (.iload_n 3, 1) := by decide +kernel
theorem dX6_operand_199 : decode cX6_operand 199 = .ok (.bipush 64, 2) := by decide +kernel
theorem dX6_operand_201 : decode cX6_operand 201 = .ok (.if_icmp .ne 21, 3) := by decide +kernel
theorem dX6_operand_204 : decode cX6_operand 204 = .ok (.aload_n 0, 1) := by decide +kernel
theorem dX6_operand_205 : decode cX6_operand 205 = .ok (.iconst 5, 1) := by decide +kernel
theorem dX6_operand_206 : decode cX6_operand 206 = .ok (.iload_n 1, 1) := by decide +kernel
theorem dX6_operand_207 : decode cX6_operand 207 = .ok (.iload_n 2, 1) := by decide +kernel
theorem dX6_operand_208 : decode cX6_operand 208 = .ok (.invokevirtual 106, 3) := by decide +kernel
theorem dX6_operand_211 : decode cX6_operand 211 = .ok (.aload_n 0, 1) := by decide +kernel
theorem dX6_operand_212 : decode cX6_operand 212 = .ok (.bipush 18, 2) := by decide +kernel
theorem dX6_operand_214 : decode cX6_operand 214 = .ok (.iload_n 1, 1) := by decide +kernel
theorem dX6_operand_215 : decode cX6_operand 215 = .ok (.iconst 1, 1) := by decide +kernel
theorem dX6_operand_216 : decode cX6_operand 216 = .ok (.invokevirtual 106, 3) := by decide +kernel
theorem dX6_operand_219 : decode cX6_operand 219 = .ok (.goto 7, 3) := by decide +kernel
theorem dX6_operand_222 : decode cX6_operand 222 = .ok (.aload_n 0, 1) := by decide +kernel
theorem dX6_operand_223 : decode cX6_operand 223 = .ok (.invokevirtual 87, 3) := by decide +kernel
theorem dX6_operand_226 : decode cX6_operand 226 = .ok (.return_, 1) := by decide +kernel
theorem dX6_literal_0 : decode cX6_literal 0 = .ok (.aload_n 0, 1) := by decide +kernel
theorem dX6_literal_1 : decode cX6_literal 1 = .ok (.getfield 27, 3) := by decide +kernel
theorem dX6_literal_4 : decode cX6_literal 4 = .ok (.iload_n 1, 1) := by decide +kernel
theorem dX6_literal_5 : decode cX6_literal 5 = .ok (.iaload, 1) := by decide +kernel
theorem dX6_literal_6 : decode cX6_literal 6 = .ok (.istore_n 3, 1) := by decide +kernel
theorem dX6_literal_7 : decode cX6_literal 7 = .ok (.aload_n 0, 1) := by decide +kernel
theorem dX6_literal_8 : decode cX6_literal 8 = .ok (.getfield 14, 3) := by decide +kernel
theorem dX6_literal_11 : decode cX6_literal 11 = .ok (.iload_n 3, 1) := by decide +kernel
theorem dX6_literal_12 : decode cX6_literal 12 = .ok (.iaload, 1) := by decide +kernel
theorem dX6_literal_13 : decode cX6_literal 13 = .ok (.istore 4, 2) := by decide +kernel
theorem dX6_literal_15 : decode cX6_literal 15 = .ok (.iload 4, 2) := by decide +kernel
theorem dX6_literal_17 : decode cX6_literal 17 = .ok (.bipush 21, 2) := by decide +kernel
theorem dX6_literal_19 : decode cX6_literal 19 = .ok (.if_icmp .ne 23, 3) := by decide +kernel
theorem dX6_literal_22 : decode cX6_literal 22 = .ok (.aload_n 0, 1) := by decide +kernel
theorem dX6_literal_23 : decode cX6_literal 23 = .ok (.getfield 14, 3) := by decide +kernel
theorem dX6_literal_26 : decode cX6_literal 26 = .ok (.aload_n 0, 1) := by decide +kernel
theorem dX6_literal_27 : decode cX6_literal 27 = .ok (.getfield 24, 3) := by decide +kernel
theorem dX6_literal_30 : decode cX6_literal 30 = .ok (.iload_n 3, 1) := by decide +kernel
theorem dX6_literal_31 : decode cX6_literal 31 = .ok (.iaload, 1) := by decide +kernel
theorem dX6_literal_32 : decode cX6_literal 32 = .ok (.iaload, 1) := by decide +kernel
theorem dX6_literal_33 : decode cX6_literal 33 = .ok (.bipush 17, 2) := by decide +kernel
theorem dX6_literal_35 : decode cX6_literal 35 = .ok (.if_icmp .ne 7, 3) := by decide +kernel
theorem dX6_literal_38 : decode cX6_literal 38 = .ok (.iconst 1, 1) := by decide +kernel
theorem dX6_literal_39 : decode cX6_literal 39 = .ok (.goto 4, 3) := by decide +kernel
theorem dX6_literal_42 : decode cX6_literal 42 = .ok (.iconst 0, 1) := by decide +kernel
theorem dX6_literal_43 : decode cX6_literal 43 = .ok (.istore 5, 2) := by decide +kernel
theorem dX6_literal_45 : decode cX6_literal 45 = .ok (.iload 4, 2) := by decide +kernel
theorem dX6_literal_47 : decode cX6_literal 47 = .ok (.iconst 5, 1) := by decide +kernel
theorem dX6_literal_48 : decode cX6_literal 48 = .ok (.if_icmp .ne 11, 3) := by decide +kernel
theorem dX6_literal_51 : decode cX6_literal 51 = .ok (.iload_n 2, 1) := by decide +kernel
theorem dX6_literal_52 : decode cX6_literal 52 = .ok (.iconst 1, 1) := by decide +kernel
theorem dX6_literal_53 : decode cX6_literal 53 = .ok (.invokestatic 133, 3) := by decide +kernel
theorem dX6_literal_56 : decode cX6_literal 56 = .ok (.ifCond .eq 24, 3) := by decide +kernel
theorem dX6_literal_59 : decode cX6_literal 59 = .ok (.iload 4, 2) := by decide +kernel
theorem dX6_literal_61 : decode cX6_literal 61 = .ok (.bipush 20, 2) := by decide +kernel
theorem dX6_literal_63 : decode cX6_literal 63 = .ok (.if_icmp .lt 10, 3) := by decide +kernel
theorem dX6_literal_66 : decode cX6_literal 66 = .ok (.iload 4, 2) := by decide +kernel
theorem dX6_literal_68 : decode cX6_literal 68 = .ok (.bipush 22, 2) := by decide +kernel
theorem dX6_literal_70 : decode cX6_literal 70 = .ok (.if_icmp .le 10, 3) := by decide +kernel
theorem dX6_literal_73 : decode cX6_literal 73 = .ok (.iload 4, 2) := by decide +kernel
theorem dX6_literal_75 : decode cX6_literal 75 = .ok (.bipush 27, 2) := by decide +kernel
theorem dX6_literal_77 : decode cX6_literal 77 = .ok (.if_icmp .ne 7, 3) := by decide +kernel
theorem dX6_literal_80 : decode cX6_literal 80 = .ok (.iconst 1, 1) := by decide +kernel
theorem dX6_literal_81 : decode cX6_literal 81 = .ok (.goto 4, 3) := by decide +kernel
theorem dX6_literal_84 : decode cX6_literal 84 = .ok (.iconst 0, 1) := by decide +kernel
theorem dX6_literal_85 : decode cX6_literal 85 = .ok (.istore 6, 2) := by decide +kernel
theorem dX6_literal_87 : decode cX6_literal 87 = .ok (.aload_n 0, 1) := by decide +kernel
theorem dX6_literal_88 : decode cX6_literal 88 = .ok (.invokevirtual 83, 3) := by decide +kernel
theorem dX6_literal_91 : decode cX6_literal 91 = .ok (.bipush 82, 2) := by decide +kernel
theorem dX6_literal_93 : decode cX6_literal 93 = .ok (.if_icmp .ne 8, 3) := by decide +kernel
theorem dX6_literal_96 : decode cX6_literal 96 = .ok (.iload 6, 2) := by decide +kernel
theorem dX6_literal_98 : decode cX6_literal 98 = .ok (.ifCond .ne 13, 3) := by decide +kernel
theorem dX6_literal_101 : decode cX6_literal 101 = .ok (.iload 5, 2) := by decide +kernel
theorem dX6_literal_103 : decode cX6_literal 103 = .ok (.ifCond .eq 7, 3) := by decide +kernel
theorem dX6_literal_106 : decode cX6_literal 106 = .ok (.aload_n 0, 1) := by decide +kernel
theorem dX6_literal_107 : decode cX6_literal 107 = .ok (.invokevirtual 87, 3) := by decide +kernel
theorem dX6_literal_110 : decode cX6_literal 110 = .ok (.return_, 1) := by decide +kernel
theorem dX6_literal_111 : decode cX6_literal 111 = .ok (.aload_n 0, 1) := by decide +kernel
theorem dX6_literal_112 : decode cX6_literal 112 = .ok (.iload_n 1, 1) := by decide +kernel
theorem dX6_literal_113 : decode cX6_literal 113 = .ok (.bipush 91, 2) := by decide +kernel
theorem dX6_literal_115 : decode cX6_literal 115 = .ok (.aload_n 0, 1) := by decide +kernel
theorem dX6_literal_116 : decode cX6_literal 116 = .ok (.getfield 77, 3) := by decide +kernel
theorem dX6_literal_119 : decode cX6_literal 119 = .ok (.invokevirtual 114, 3) := by decide +kernel
theorem dX6_literal_122 : decode cX6_literal 122 = .ok (.istore 7, 2) := by decide +kernel
theorem dX6_literal_124 : decode cX6_literal 124 = .ok (.aload_n 0, 1) := by decide +kernel
theorem dX6_literal_125 : decode cX6_literal 125 = .ok (.invokevirtual 123, 3) := by decide +kernel
theorem dX6_literal_128 : decode cX6_literal 128 = .ok (.aload_n 0, 1) := by decide +kernel
theorem dX6_literal_129 : decode cX6_literal 129 = .ok (.dup, 1) := by decide +kernel
theorem dX6_literal_130 : decode cX6_literal 130 = .ok (.getfield 77, 3) := by decide +kernel
theorem dX6_literal_133 : decode cX6_literal 133 = .ok (.iconst 1, 1) := by decide +kernel
theorem dX6_literal_134 : decode cX6_literal 134 = .ok (.iadd, 1) := by decide +kernel
theorem dX6_literal_135 : decode cX6_literal 135 = .ok (.putfield 77, 3) := by decide +kernel
theorem dX6_literal_138 : decode cX6_literal 138 = .ok (.aload_n 0, 1) := by decide +kernel
theorem dX6_literal_139 : decode cX6_literal 139 = .ok (.bipush 14, 2) := by decide +kernel
theorem dX6_literal_141 : decode cX6_literal 141 = .ok (.iload 7, 2) := by decide +kernel
theorem dX6_literal_143 : decode cX6_literal 143 = .ok (.iconst 0, 1) := by decide +kernel
theorem dX6_literal_144 : decode cX6_literal 144 = .ok (.invokevirtual 106, 3) := by decide +kernel
theorem dX6_literal_147 : decode cX6_literal 147 = .ok (.return_, 1) := by decide +kernel
theorem dX6_elements_0 : decode cX6_elements 0 = .ok (.aload_n 0, 1) := by decide +kernel
theorem dX6_elements_1 : decode cX6_elements 1 = .ok (.invokevirtual 83, 3) := by decide +kernel
theorem dX6_elements_4 : decode cX6_elements 4 = .ok (.bipush 83, 2) := by decide +kernel
theorem dX6_elements_6 : decode cX6_elements 6 = .ok (.if_icmp .ne 24, 3) := by decide +kernel
theorem dX6_elements_9 : decode cX6_elements 9 = .ok (.aload_n 0, 1) := by decide +kernel
theorem dX6_elements_10 : decode cX6_elements 10 = .ok (.dup, 1) := by decide +kernel
theorem dX6_elements_11 : decode cX6_elements 11 = .ok (.getfield 77, 3) := by decide +kernel
theorem dX6_elements_14 : decode cX6_elements 14 = .ok (.iconst 1, 1) := by decide +kernel
theorem dX6_elements_15 : decode cX6_elements 15 = .ok (.iadd, 1) := by decide +kernel
theorem dX6_elements_16 : decode cX6_elements 16 = .ok (.putfield 77, 3) := by decide +kernel
theorem dX6_elements_19 : decode cX6_elements 19 = .ok (.aload_n 0, 1) := by decide +kernel
theorem dX6_elements_20 : decode cX6_elements 20 = .ok (.dup, 1) := by decide +kernel
theorem dX6_elements_21 : decode cX6_elements 21 = .ok (.getfield 90, 3) := by decide +kernel
theorem dX6_elements_24 : decode cX6_elements 24 = .ok (.iconst 1, 1) := by decide +kernel
theorem dX6_elements_25 : decode cX6_elements 25 = .ok (.isub, 1) := by decide +kernel
theorem dX6_elements_26 : decode cX6_elements 26 = .ok (.putfield 90, 3) := by decide +kernel
theorem dX6_elements_29 : decode cX6_elements 29 = .ok (.return_, 1) := by decide +kernel
theorem dX6_elements_30 : decode cX6_elements 30 = .ok (.aload_n 0, 1) := by decide +kernel
theorem dX6_elements_31 : decode cX6_elements 31 = .ok (.iload_n 1, 1) := by decide +kernel
theorem dX6_elements_32 : decode cX6_elements 32 = .ok (.bipush 92, 2) := by decide +kernel
theorem dX6_elements_34 : decode cX6_elements 34 = .ok (.aload_n 0, 1) := by decide +kernel
theorem dX6_elements_35 : decode cX6_elements 35 = .ok (.getfield 77, 3) := by decide +kernel
theorem dX6_elements_38 : decode cX6_elements 38 = .ok (.invokevirtual 99, 3) := by decide +kernel
theorem dX6_elements_41 : decode cX6_elements 41 = .ok (.istore_n 2, 1) := by decide +kernel
theorem dX6_elements_42 : decode cX6_elements 42 = .ok (.aload_n 0, 1) := by decide +kernel
theorem dX6_elements_43 : decode cX6_elements 43 = .ok (.bipush 15, 2) := by decide +kernel
theorem dX6_elements_45 : decode cX6_elements 45 = .ok (.iload_n 1, 1) := by decide +kernel
theorem dX6_elements_46 : decode cX6_elements 46 = .ok (.iconst 0, 1) := by decide +kernel
theorem dX6_elements_47 : decode cX6_elements 47 = .ok (.invokevirtual 106, 3) := by decide +kernel
theorem dX6_elements_50 : decode cX6_elements 50 = .ok (.aload_n 0, 1) := by decide +kernel
theorem dX6_elements_51 : decode cX6_elements 51 = .ok (.bipush 16, 2) := by decide +kernel
theorem dX6_elements_53 : decode cX6_elements 53 = .ok (.iload_n 2, 1) := by decide +kernel
theorem dX6_elements_54 : decode cX6_elements 54 = .ok (.iconst 0, 1) := by decide +kernel
theorem dX6_elements_55 : decode cX6_elements 55 = .ok (.invokevirtual 106, 3) := by decide +kernel
theorem dX6_elements_58 : decode cX6_elements 58 = .ok (.aload_n 0, 1) := by decide +kernel
theorem dX6_elements_59 : decode cX6_elements 59 = .ok (.bipush 17, 2) := by decide +kernel
theorem dX6_elements_61 : decode cX6_elements 61 = .ok (.iload_n 2, 1) := by decide +kernel
theorem dX6_elements_62 : decode cX6_elements 62 = .ok (.iconst 0, 1) := by decide +kernel
theorem dX6_elements_63 : decode cX6_elements 63 = .ok (.invokevirtual 106, 3) := by decide +kernel
theorem dX6_elements_66 : decode cX6_elements 66 = .ok (.return_, 1) := by decide +kernel
theorem dX6_elementsMore_0 : decode cX6_elementsMore 0 = .ok (.aload_n 0, 1) := by decide +kernel
theorem dX6_elementsMore_1 : decode cX6_elementsMore 1 = .ok (.invokevirtual 83, 3) := by decide +kernel
theorem dX6_elementsMore_4 : decode cX6_elementsMore 4 = .ok (.bipush 83, 2) := by decide +kernel
theorem dX6_elementsMore_6 : decode cX6_elementsMore 6 = .ok (.if_icmp .ne 9, 3) := by decide +kernel
theorem dX6_elementsMore_9 : decode cX6_elementsMore 9 = .ok (.aload_n 0, 1) := by decide +kernel
theorem dX6_elementsMore_10 : decode cX6_elementsMore 10 = .ok (.iload_n 1, 1) := by decide +kernel
theorem dX6_elementsMore_11 : decode cX6_elementsMore 11 = .ok (.invokevirtual 137, 3) := by decide +kernel
theorem dX6_elementsMore_14 : decode cX6_elementsMore 14 = .ok (.return_, 1) := by decide +kernel
theorem dX6_elementsMore_15 : decode cX6_elementsMore 15 = .ok (.aload_n 0, 1) := by decide +kernel
theorem dX6_elementsMore_16 : decode cX6_elementsMore 16 = .ok (.bipush 84, 2) := by decide +kernel
theorem dX6_elementsMore_18 : decode cX6_elementsMore 18 = .ok (.invokevirtual 141, 3) := by decide +kernel
theorem dX6_elementsMore_21 : decode cX6_elementsMore 21 = .ok (.aload_n 0, 1) := by decide +kernel
theorem dX6_elementsMore_22 : decode cX6_elementsMore 22 = .ok (.bipush 14, 2) := by decide +kernel
theorem dX6_elementsMore_24 : decode cX6_elementsMore 24 = .ok (.iload_n 1, 1) := by decide +kernel
theorem dX6_elementsMore_25 : decode cX6_elementsMore 25 = .ok (.iconst 0, 1) := by decide +kernel
theorem dX6_elementsMore_26 : decode cX6_elementsMore 26 = .ok (.invokevirtual 106, 3) := by decide +kernel
theorem dX6_elementsMore_29 : decode cX6_elementsMore 29 = .ok (.return_, 1) := by decide +kernel
theorem dX6_value_0 : decode cX6_value 0 = .ok (.aload_n 0, 1) := by decide +kernel
theorem dX6_value_1 : decode cX6_value 1 = .ok (.invokevirtual 83, 3) := by decide +kernel
theorem dX6_value_4 : decode cX6_value 4 = .ok (.bipush 82, 2) := by decide +kernel
theorem dX6_value_6 : decode cX6_value 6 = .ok (.if_icmp .eq 11, 3) := by decide +kernel
theorem dX6_value_9 : decode cX6_value 9 = .ok (.aload_n 0, 1) := by decide +kernel
theorem dX6_value_10 : decode cX6_value 10 = .ok (.iload_n 1, 1) := by decide +kernel
theorem dX6_value_11 : decode cX6_value 11 = .ok (.iconst 0, 1) := by decide +kernel
theorem dX6_value_12 : decode cX6_value 12 = .ok (.iconst 1, 1) := by decide +kernel
theorem dX6_value_13 : decode cX6_value 13 = .ok (.invokevirtual 117, 3) := by decide +kernel
theorem dX6_value_16 : decode cX6_value 16 = .ok (.return_, 1) := by decide +kernel
theorem dX6_value_17 : decode cX6_value 17 = .ok (.aload_n 0, 1) := by decide +kernel
theorem dX6_value_18 : decode cX6_value 18 = .ok (.iload_n 1, 1) := by decide +kernel
theorem dX6_value_19 : decode cX6_value 19 = .ok (.bipush 93, 2) := by decide +kernel
theorem dX6_value_21 : decode cX6_value 21 = .ok (.aload_n 0, 1) := by decide +kernel
theorem dX6_value_22 : decode cX6_value 22 = .ok (.getfield 77, 3) := by decide +kernel
theorem dX6_value_25 : decode cX6_value 25 = .ok (.invokevirtual 99, 3) := by decide +kernel
theorem dX6_value_28 : decode cX6_value 28 = .ok (.istore_n 2, 1) := by decide +kernel
theorem dX6_value_29 : decode cX6_value 29 = .ok (.aload_n 0, 1) := by decide +kernel
theorem dX6_value_30 : decode cX6_value 30 = .ok (.invokevirtual 123, 3) := by decide +kernel
theorem dX6_value_33 : decode cX6_value 33 = .ok (.aload_n 0, 1) := by decide +kernel
theorem dX6_value_34 : decode cX6_value 34 = .ok (.dup, 1) := by decide +kernel
theorem dX6_value_35 : decode cX6_value 35 = .ok (.getfield 77, 3) := by decide +kernel
theorem dX6_value_38 : decode cX6_value 38 = .ok (.iconst 1, 1) := by decide +kernel
theorem dX6_value_39 : decode cX6_value 39 = .ok (.iadd, 1) := by decide +kernel
theorem dX6_value_40 : decode cX6_value 40 = .ok (.putfield 77, 3) := by decide +kernel
theorem dX6_value_43 : decode cX6_value 43 = .ok (.aload_n 0, 1) := by decide +kernel
theorem dX6_value_44 : decode cX6_value 44 = .ok (.bipush 14, 2) := by decide +kernel
theorem dX6_value_46 : decode cX6_value 46 = .ok (.iload_n 2, 1) := by decide +kernel
theorem dX6_value_47 : decode cX6_value 47 = .ok (.iconst 0, 1) := by decide +kernel
theorem dX6_value_48 : decode cX6_value 48 = .ok (.invokevirtual 106, 3) := by decide +kernel
theorem dX6_value_51 : decode cX6_value 51 = .ok (.return_, 1) := by decide +kernel
theorem dX6_postfix_0 : decode cX6_postfix 0 = .ok (.aload_n 0, 1) := by decide +kernel
theorem dX6_postfix_1 : decode cX6_postfix 1 = .ok (.invokevirtual 83, 3) := by decide +kernel
theorem dX6_postfix_4 : decode cX6_postfix 4 = .ok (.istore_n 3, 1) := by decide +kernel
theorem dX6_postfix_5 : decode cX6_postfix 5 = .ok (.iload_n 3, 1) := by decide +kernel
theorem dX6_postfix_6 : decode cX6_postfix 6 = .ok (.bipush 86, 2) := by decide +kernel
theorem dX6_postfix_8 : decode cX6_postfix 8 = .ok (.if_icmp .ne 12, 3) := by decide +kernel
theorem dX6_postfix_11 : decode cX6_postfix 11 = .ok (.aload_n 0, 1) := by decide +kernel
theorem dX6_postfix_12 : decode cX6_postfix 12 = .ok (.iload_n 1, 1) := by decide +kernel
theorem dX6_postfix_13 : decode cX6_postfix 13 = .ok (.iload_n 2, 1) := by decide +kernel
theorem dX6_postfix_14 : decode cX6_postfix 14 = .ok (.invokevirtual 144, 3) := by decide +kernel
theorem dX6_postfix_17 : decode cX6_postfix 17 = .ok (.goto 130, 3) := by decide +kernel
theorem dX6_postfix_20 : decode cX6_postfix 20 = .ok (.iload_n 3, 1) := by decide +kernel
theorem dX6_postfix_21 : decode cX6_postfix 21 = .ok (.bipush 80, 2) := by decide +kernel
theorem dX6_postfix_23 : decode cX6_postfix 23 = .ok (.if_icmp .ne 75, 3) := by decide +kernel
theorem dX6_postfix_26 : decode cX6_postfix 26 = .ok (.aload_n 0, 1) := by decide +kernel
theorem dX6_postfix_27 : decode cX6_postfix 27 = .ok (.iload_n 1, 1) := by decide +kernel
theorem dX6_postfix_28 : decode cX6_postfix 28 = .ok (.bipush 84, 2) := by decide +kernel
theorem dX6_postfix_30 : decode cX6_postfix 30 = .ok (.aload_n 0, 1) := by decide +kernel
theorem dX6_postfix_31 : decode cX6_postfix 31 = .ok (.getfield 77, 3) := by decide +kernel
theorem dX6_postfix_34 : decode cX6_postfix 34 = .ok (.invokevirtual 114, 3) := by decide +kernel
theorem dX6_postfix_37 : decode cX6_postfix 37 = .ok (.istore 4, 2) := by decide +kernel
theorem dX6_postfix_39 : decode cX6_postfix 39 = .ok (.aload_n 0, 1) := by decide +kernel
theorem dX6_postfix_40 : decode cX6_postfix 40 = .ok (.invokevirtual 123, 3) := by decide +kernel
theorem dX6_postfix_43 : decode cX6_postfix 43 = .ok (.aload_n 0, 1) := by decide +kernel
theorem dX6_postfix_44 : decode cX6_postfix 44 = .ok (.dup, 1) := by decide +kernel
theorem dX6_postfix_45 : decode cX6_postfix 45 = .ok (.getfield 77, 3) := by decide +kernel
theorem dX6_postfix_48 : decode cX6_postfix 48 = .ok (.iconst 1, 1) := by decide +kernel
theorem dX6_postfix_49 : decode cX6_postfix 49 = .ok (.iadd, 1) := by decide +kernel
theorem dX6_postfix_50 : decode cX6_postfix 50 = .ok (.putfield 77, 3) := by decide +kernel
theorem dX6_postfix_53 : decode cX6_postfix 53 = .ok (.aload_n 0, 1) := by decide +kernel
theorem dX6_postfix_54 : decode cX6_postfix 54 = .ok (.iconst 4, 1) := by decide +kernel
theorem dX6_postfix_55 : decode cX6_postfix 55 = .ok (.iload_n 1, 1) := by decide +kernel
theorem dX6_postfix_56 : decode cX6_postfix 56 = .ok (.iload_n 2, 1) := by decide +kernel
theorem dX6_postfix_57 : decode cX6_postfix 57 = .ok (.invokevirtual 106, 3) := by decide +kernel
theorem dX6_postfix_60 : decode cX6_postfix 60 = .ok (.aload_n 0, 1) := by decide +kernel
theorem dX6_postfix_61 : decode cX6_postfix 61 = .ok (.invokevirtual 83, 3) := by decide +kernel
theorem dX6_postfix_64 : decode cX6_postfix 64 = .ok (.bipush 87, 2) := by decide +kernel
theorem dX6_postfix_66 : decode cX6_postfix 66 = .ok (.if_icmp .ne 12, 3) := by decide +kernel
theorem dX6_postfix_69 : decode cX6_postfix 69 = .ok (.aload_n 0, 1) := by decide +kernel
theorem dX6_postfix_70 : decode cX6_postfix 70 = .ok (.iload 4, 2) := by decide +kernel
theorem dX6_postfix_72 : decode cX6_postfix 72 = .ok (.invokevirtual 147, 3) := by decide +kernel
theorem dX6_postfix_75 : decode cX6_postfix 75 = .ok (.goto 20, 3) := by decide +kernel
theorem dX6_postfix_78 : decode cX6_postfix 78 = .ok (.aload_n 0, 1) := by decide +kernel
theorem dX6_postfix_79 : decode cX6_postfix 79 = .ok (.bipush 11, 2) := by decide +kernel
theorem dX6_postfix_81 : decode cX6_postfix 81 = .ok (.iload 4, 2) := by decide +kernel
theorem dX6_postfix_83 : decode cX6_postfix 83 = .ok (.iconst 0, 1) := by decide +kernel
theorem dX6_postfix_84 : decode cX6_postfix 84 = .ok (.invokevirtual 106, 3) := by decide +kernel
theorem dX6_postfix_87 : decode cX6_postfix 87 = .ok (.aload_n 0, 1) := by decide +kernel
theorem dX6_postfix_88 : decode cX6_postfix 88 = .ok (.iload 4, 2) := by decide +kernel
theorem dX6_postfix_90 : decode cX6_postfix 90 = .ok (.iconst 0, 1) := by decide +kernel
theorem dX6_postfix_91 : decode cX6_postfix 91 = .ok (.iconst 1, 1) := by decide +kernel
theorem dX6_postfix_92 : decode cX6_postfix 92 = .ok (.invokevirtual 117, 3) := by decide +kernel
theorem dX6_postfix_95 : decode cX6_postfix 95 = .ok (.goto 52, 3) := by decide +kernel
theorem dX6_postfix_98 : decode cX6_postfix 98 = .ok (.iload_n 3, 1) := by decide +kernel
theorem dX6_postfix_99 : decode cX6_postfix 99 = .ok (.bipush 78, 2) := by decide +kernel
theorem dX6_postfix_101 : decode cX6_postfix 101 = .ok (.if_icmp .ne 46, 3) := by decide +kernel
theorem dX6_postfix_104 : decode cX6_postfix 104 = .ok (.aload_n 0, 1) := by decide +kernel
theorem dX6_postfix_105 : decode cX6_postfix 105 = .ok (.iload_n 1, 1) := by decide +kernel
theorem dX6_postfix_106 : decode cX6_postfix 106 = .ok (.bipush 87, 2) := by decide +kernel
theorem dX6_postfix_108 : decode cX6_postfix 108 = .ok (.aload_n 0, 1) := by decide +kernel
theorem dX6_postfix_109 : decode cX6_postfix 109 = .ok (.getfield 77, 3) := by decide +kernel
theorem dX6_postfix_112 : decode cX6_postfix 112 = .ok (.invokevirtual 114, 3) := by decide +kernel
theorem dX6_postfix_115 : decode cX6_postfix 115 = .ok (.istore 4, 2) := by decide +kernel
theorem dX6_postfix_117 : decode cX6_postfix 117 = .ok (.aload_n 0, 1) := by decide +kernel
theorem dX6_postfix_118 : decode cX6_postfix 118 = .ok (.invokevirtual 123, 3) := by decide +kernel
theorem dX6_postfix_121 : decode cX6_postfix 121 = .ok (.aload_n 0, 1) := by decide +kernel
theorem dX6_postfix_122 : decode cX6_postfix 122 = .ok (.dup, 1) := by decide +kernel
theorem dX6_postfix_123 : decode cX6_postfix 123 = .ok (.getfield 77, 3) := by decide +kernel
theorem dX6_postfix_126 : decode cX6_postfix 126 = .ok (.iconst 1, 1) := by decide +kernel
theorem dX6_postfix_127 : decode cX6_postfix 127 = .ok (.iadd, 1) := by decide +kernel
theorem dX6_postfix_128 : decode cX6_postfix 128 = .ok (.putfield 77, 3) := by decide +kernel
theorem dX6_postfix_131 : decode cX6_postfix 131 = .ok (.aload_n 0, 1) := by decide +kernel
theorem dX6_postfix_132 : decode cX6_postfix 132 = .ok (.iconst 4, 1) := by decide +kernel
theorem dX6_postfix_133 : decode cX6_postfix 133 = .ok (.iload_n 1, 1) := by decide +kernel
theorem dX6_postfix_134 : decode cX6_postfix 134 = .ok (.iload_n 2, 1) := by decide +kernel
theorem dX6_postfix_135 : decode cX6_postfix 135 = .ok (.invokevirtual 106, 3) := by decide +kernel
theorem dX6_postfix_138 : decode cX6_postfix 138 = .ok (.aload_n 0, 1) := by decide +kernel
theorem dX6_postfix_139 : decode cX6_postfix 139 = .ok (.bipush 9, 2) := by decide +kernel
theorem dX6_postfix_141 : decode cX6_postfix 141 = .ok (.iload 4, 2) := by decide +kernel
theorem dX6_postfix_143 : decode cX6_postfix 143 = .ok (.iconst 0, 1) := by decide +kernel
theorem dX6_postfix_144 : decode cX6_postfix 144 = .ok (.invokevirtual 106, 3) := by decide +kernel
theorem dX6_postfix_147 : decode cX6_postfix 147 = .ok (.return_, 1) := by decide +kernel
theorem dX6_dot_0 : decode cX6_dot 0 = .ok (.aload_n 0, 1) := by decide +kernel
theorem dX6_dot_1 : decode cX6_dot 1 = .ok (.getfield 77, 3) := by decide +kernel
theorem dX6_dot_4 : decode cX6_dot 4 = .ok (.istore_n 3, 1) := by decide +kernel
theorem dX6_dot_5 : decode cX6_dot 5 = .ok (.aload_n 0, 1) := by decide +kernel
theorem dX6_dot_6 : decode cX6_dot 6 = .ok (.dup, 1) := by decide +kernel
theorem dX6_dot_7 : decode cX6_dot 7 = .ok (.getfield 77, 3) := by decide +kernel
theorem dX6_dot_10 : decode cX6_dot 10 = .ok (.iconst 1, 1) := by decide +kernel
theorem dX6_dot_11 : decode cX6_dot 11 = .ok (.iadd, 1) := by decide +kernel
theorem dX6_dot_12 : decode cX6_dot 12 = .ok (.putfield 77, 3) := by decide +kernel
theorem dX6_dot_15 : decode cX6_dot 15 = .ok (.aload_n 0, 1) := by decide +kernel
theorem dX6_dot_16 : decode cX6_dot 16 = .ok (.invokevirtual 83, 3) := by decide +kernel
theorem dX6_dot_19 : decode cX6_dot 19 = .ok (.iconst 1, 1) := by decide +kernel
theorem dX6_dot_20 : decode cX6_dot 20 = .ok (.if_icmp .ne 28, 3) := by decide +kernel
theorem dX6_dot_23 : decode cX6_dot 23 = .ok (.aload_n 0, 1) := by decide +kernel
theorem dX6_dot_24 : decode cX6_dot 24 = .ok (.iload_n 1, 1) := by decide +kernel
theorem dX6_dot_25 : decode cX6_dot 25 = .ok (.bipush 82, 2) := by decide +kernel
theorem dX6_dot_27 : decode cX6_dot 27 = .ok (.iload_n 3, 1) := by decide +kernel
theorem dX6_dot_28 : decode cX6_dot 28 = .ok (.invokevirtual 114, 3) := by decide +kernel
theorem dX6_dot_31 : decode cX6_dot 31 = .ok (.istore 4, 2) := by decide +kernel
theorem dX6_dot_33 : decode cX6_dot 33 = .ok (.aload_n 0, 1) := by decide +kernel
theorem dX6_dot_34 : decode cX6_dot 34 = .ok (.iload 4, 2) := by decide +kernel
theorem dX6_dot_36 : decode cX6_dot 36 = .ok (.invokevirtual 130, 3) := by decide +kernel
theorem dX6_dot_39 : decode cX6_dot 39 = .ok (.pop, 1) := by decide +kernel
theorem dX6_dot_40 : decode cX6_dot 40 = .ok (.aload_n 0, 1) := by decide +kernel
theorem dX6_dot_41 : decode cX6_dot 41 = .ok (.iconst 4, 1) := by decide +kernel
theorem dX6_dot_42 : decode cX6_dot 42 = .ok (.iload_n 1, 1) := by decide +kernel
theorem dX6_dot_43 : decode cX6_dot 43 = .ok (.iload_n 2, 1) := by decide +kernel
theorem dX6_dot_44 : decode cX6_dot 44 = .ok (.invokevirtual 106, 3) := by decide +kernel
theorem dX6_dot_47 : decode cX6_dot 47 = .ok (.return_, 1) := by decide +kernel
theorem dX6_dot_48 : decode cX6_dot 48 = .ok (.aload_n 0, 1) := by decide +kernel
theorem dX6_dot_49 : decode cX6_dot 49 = .ok (.invokevirtual 83, 3) := by decide +kernel
theorem dX6_dot_52 : decode cX6_dot 52 = .ok (.bipush 78, 2) := by decide +kernel
theorem dX6_dot_54 : decode cX6_dot 54 = .ok (.if_icmp .eq 8, 3) := by decide +kernel
theorem dX6_dot_57 : decode cX6_dot 57 = .ok (.aload_n 0, 1) := by decide +kernel
theorem dX6_dot_58 : decode cX6_dot 58 = .ok (.invokevirtual 87, 3) := by decide +kernel
theorem dX6_dot_61 : decode cX6_dot 61 = .ok (.return_, 1) := by decide +kernel
theorem dX6_dot_62 : decode cX6_dot 62 = .ok (.aload_n 0, 1) := by decide +kernel
theorem dX6_dot_63 : decode cX6_dot 63 = .ok (.invokevirtual 123, 3) := by decide +kernel
theorem dX6_dot_66 : decode cX6_dot 66 = .ok (.aload_n 0, 1) := by decide +kernel
theorem dX6_dot_67 : decode cX6_dot 67 = .ok (.dup, 1) := by decide +kernel
theorem dX6_dot_68 : decode cX6_dot 68 = .ok (.getfield 77, 3) := by decide +kernel
theorem dX6_dot_71 : decode cX6_dot 71 = .ok (.iconst 1, 1) := by decide +kernel
theorem dX6_dot_72 : decode cX6_dot 72 = .ok (.iadd, 1) := by decide +kernel
theorem dX6_dot_73 : decode cX6_dot 73 = .ok (.putfield 77, 3) := by decide +kernel
theorem dX6_dot_76 : decode cX6_dot 76 = .ok (.aload_n 0, 1) := by decide +kernel
theorem dX6_dot_77 : decode cX6_dot 77 = .ok (.invokevirtual 83, 3) := by decide +kernel
theorem dX6_dot_80 : decode cX6_dot 80 = .ok (.bipush 33, 2) := by decide +kernel
theorem dX6_dot_82 : decode cX6_dot 82 = .ok (.if_icmp .ne 51, 3) := by decide +kernel
theorem dX6_dot_85 : decode cX6_dot 85 = .ok (.iload_n 2, 1) := by decide +kernel
theorem dX6_dot_86 : decode cX6_dot 86 = .ok (.iconst 2, 1) := by decide +kernel
theorem dX6_dot_87 : decode cX6_dot 87 = .ok (.invokestatic 133, 3) := by decide +kernel
theorem dX6_dot_90 : decode cX6_dot 90 = .ok (.ifCond .eq 43, 3) := by decide +kernel
theorem dX6_dot_93 : decode cX6_dot 93 = .ok (.aload_n 0, 1) := by decide +kernel
theorem dX6_dot_94 : decode cX6_dot 94 = .ok (.iload_n 1, 1) := by decide +kernel
theorem dX6_dot_95 : decode cX6_dot 95 = .ok (.bipush 69, 2) := by decide +kernel
theorem dX6_dot_97 : decode cX6_dot 97 = .ok (.aload_n 0, 1) := by decide +kernel
theorem dX6_dot_98 : decode cX6_dot 98 = .ok (.getfield 77, 3) := by decide +kernel
theorem dX6_dot_101 : decode cX6_dot 101 = .ok (.invokevirtual 114, 3) := by decide +kernel
theorem dX6_dot_104 : decode cX6_dot 104 = .ok (.pop, 1) := by decide +kernel
theorem dX6_dot_105 : decode cX6_dot 105 = .ok (.aload_n 0, 1) := by decide +kernel
theorem dX6_dot_106 : decode cX6_dot 106 = .ok (.dup, 1) := by decide +kernel
theorem dX6_dot_107 : decode cX6_dot 107 = .ok (.getfield 77, 3) := by decide +kernel
theorem dX6_dot_110 : decode cX6_dot 110 = .ok (.iconst 1, 1) := by decide +kernel
theorem dX6_dot_111 : decode cX6_dot 111 = .ok (.iadd, 1) := by decide +kernel
theorem dX6_dot_112 : decode cX6_dot 112 = .ok (.putfield 77, 3) := by decide +kernel
theorem dX6_dot_115 : decode cX6_dot 115 = .ok (.aload_n 0, 1) := by decide +kernel
theorem dX6_dot_116 : decode cX6_dot 116 = .ok (.bipush 56, 2) := by decide +kernel
theorem dX6_dot_118 : decode cX6_dot 118 = .ok (.iload_n 1, 1) := by decide +kernel
theorem dX6_dot_119 : decode cX6_dot 119 = .ok (.iconst 0, 1) := by decide +kernel
theorem dX6_dot_120 : decode cX6_dot 120 = .ok (.invokevirtual 106, 3) := by decide +kernel
theorem dX6_dot_123 : decode cX6_dot 123 = .ok (.aload_n 0, 1) := by decide +kernel
theorem dX6_dot_124 : decode cX6_dot 124 = .ok (.bipush 8, 2) := by decide +kernel
theorem dX6_dot_126 : decode cX6_dot 126 = .ok (.bipush 79, 2) := by decide +kernel
theorem dX6_dot_128 : decode cX6_dot 128 = .ok (.iconst 0, 1) := by decide +kernel
theorem dX6_dot_129 : decode cX6_dot 129 = .ok (.invokevirtual 106, 3) := by decide +kernel
theorem dX6_dot_132 : decode cX6_dot 132 = .ok (.return_, 1) := by decide +kernel
theorem dX6_dot_133 : decode cX6_dot 133 = .ok (.aload_n 0, 1) := by decide +kernel
theorem dX6_dot_134 : decode cX6_dot 134 = .ok (.iload_n 1, 1) := by decide +kernel
theorem dX6_dot_135 : decode cX6_dot 135 = .ok (.bipush 83, 2) := by decide +kernel
theorem dX6_dot_137 : decode cX6_dot 137 = .ok (.iload_n 3, 1) := by decide +kernel
theorem dX6_dot_138 : decode cX6_dot 138 = .ok (.invokevirtual 114, 3) := by decide +kernel
theorem dX6_dot_141 : decode cX6_dot 141 = .ok (.istore 4, 2) := by decide +kernel
theorem dX6_dot_143 : decode cX6_dot 143 = .ok (.aload_n 0, 1) := by decide +kernel
theorem dX6_dot_144 : decode cX6_dot 144 = .ok (.iconst 4, 1) := by decide +kernel
theorem dX6_dot_145 : decode cX6_dot 145 = .ok (.iload_n 1, 1) := by decide +kernel
theorem dX6_dot_146 : decode cX6_dot 146 = .ok (.iload_n 2, 1) := by decide +kernel
theorem dX6_dot_147 : decode cX6_dot 147 = .ok (.invokevirtual 106, 3) := by decide +kernel
theorem dX6_dot_150 : decode cX6_dot 150 = .ok (.aload_n 0, 1) := by decide +kernel
theorem dX6_dot_151 : decode cX6_dot 151 = .ok (.bipush 8, 2) := by decide +kernel
theorem dX6_dot_153 : decode cX6_dot 153 = .ok (.bipush 79, 2) := by decide +kernel
theorem dX6_dot_155 : decode cX6_dot 155 = .ok (.iconst 0, 1) := by decide +kernel
theorem dX6_dot_156 : decode cX6_dot 156 = .ok (.invokevirtual 106, 3) := by decide +kernel
theorem dX6_dot_159 : decode cX6_dot 159 = .ok (.aload_n 0, 1) := by decide +kernel
theorem dX6_dot_160 : decode cX6_dot 160 = .ok (.bipush 18, 2) := by decide +kernel
theorem dX6_dot_162 : decode cX6_dot 162 = .ok (.iload 4, 2) := by decide +kernel
theorem dX6_dot_164 : decode cX6_dot 164 = .ok (.iconst 0, 1) := by decide +kernel
theorem dX6_dot_165 : decode cX6_dot 165 = .ok (.invokevirtual 106, 3) := by decide +kernel
theorem dX6_dot_168 : decode cX6_dot 168 = .ok (.return_, 1) := by decide +kernel
theorem dX6_index_0 : decode cX6_index 0 = .ok (.aload_n 0, 1) := by decide +kernel
theorem dX6_index_1 : decode cX6_index 1 = .ok (.invokevirtual 83, 3) := by decide +kernel
theorem dX6_index_4 : decode cX6_index 4 = .ok (.bipush 87, 2) := by decide +kernel
theorem dX6_index_6 : decode cX6_index 6 = .ok (.if_icmp .ne 30, 3) := by decide +kernel
theorem dX6_index_9 : decode cX6_index 9 = .ok (.aload_n 0, 1) := by decide +kernel
theorem dX6_index_10 : decode cX6_index 10 = .ok (.getfield 14, 3) := by decide +kernel
theorem dX6_index_13 : decode cX6_index 13 = .ok (.iload_n 1, 1) := by decide +kernel
theorem dX6_index_14 : decode cX6_index 14 = .ok (.bipush 85, 2) := by decide +kernel
theorem dX6_index_16 : decode cX6_index 16 = .ok (.iastore, 1) := by decide +kernel
theorem dX6_index_17 : decode cX6_index 17 = .ok (.aload_n 0, 1) := by decide +kernel
theorem dX6_index_18 : decode cX6_index 18 = .ok (.dup, 1) := by decide +kernel
theorem dX6_index_19 : decode cX6_index 19 = .ok (.getfield 77, 3) := by decide +kernel
theorem dX6_index_22 : decode cX6_index 22 = .ok (.iconst 1, 1) := by decide +kernel
theorem dX6_index_23 : decode cX6_index 23 = .ok (.iadd, 1) := by decide +kernel
theorem dX6_index_24 : decode cX6_index 24 = .ok (.putfield 77, 3) := by decide +kernel
theorem dX6_index_27 : decode cX6_index 27 = .ok (.aload_n 0, 1) := by decide +kernel
theorem dX6_index_28 : decode cX6_index 28 = .ok (.bipush 12, 2) := by decide +kernel
theorem dX6_index_30 : decode cX6_index 30 = .ok (.iload_n 1, 1) := by decide +kernel
theorem dX6_index_31 : decode cX6_index 31 = .ok (.iconst 0, 1) := by decide +kernel
theorem dX6_index_32 : decode cX6_index 32 = .ok (.invokevirtual 106, 3) := by decide +kernel
theorem dX6_index_35 : decode cX6_index 35 = .ok (.return_, 1) := by decide +kernel
theorem dX6_index_36 : decode cX6_index 36 = .ok (.aload_n 0, 1) := by decide +kernel
theorem dX6_index_37 : decode cX6_index 37 = .ok (.bipush 81, 2) := by decide +kernel
theorem dX6_index_39 : decode cX6_index 39 = .ok (.invokevirtual 141, 3) := by decide +kernel
theorem dX6_index_42 : decode cX6_index 42 = .ok (.aload_n 0, 1) := by decide +kernel
theorem dX6_index_43 : decode cX6_index 43 = .ok (.dup, 1) := by decide +kernel
theorem dX6_index_44 : decode cX6_index 44 = .ok (.getfield 90, 3) := by decide +kernel
theorem dX6_index_47 : decode cX6_index 47 = .ok (.iconst 1, 1) := by decide +kernel
theorem dX6_index_48 : decode cX6_index 48 = .ok (.isub, 1) := by decide +kernel
theorem dX6_index_49 : decode cX6_index 49 = .ok (.putfield 90, 3) := by decide +kernel
theorem dX6_index_52 : decode cX6_index 52 = .ok (.return_, 1) := by decide +kernel
theorem dX6_slice_0 : decode cX6_slice 0 = .ok (.aload_n 0, 1) := by decide +kernel
theorem dX6_slice_1 : decode cX6_slice 1 = .ok (.getfield 14, 3) := by decide +kernel
theorem dX6_slice_4 : decode cX6_slice 4 = .ok (.iload_n 1, 1) := by decide +kernel
theorem dX6_slice_5 : decode cX6_slice 5 = .ok (.bipush 85, 2) := by decide +kernel
theorem dX6_slice_7 : decode cX6_slice 7 = .ok (.iastore, 1) := by decide +kernel
theorem dX6_slice_8 : decode cX6_slice 8 = .ok (.aload_n 0, 1) := by decide +kernel
theorem dX6_slice_9 : decode cX6_slice 9 = .ok (.iload_n 1, 1) := by decide +kernel
theorem dX6_slice_10 : decode cX6_slice 10 = .ok (.bipush 86, 2) := by decide +kernel
theorem dX6_slice_12 : decode cX6_slice 12 = .ok (.aload_n 0, 1) := by decide +kernel
theorem dX6_slice_13 : decode cX6_slice 13 = .ok (.getfield 77, 3) := by decide +kernel
theorem dX6_slice_16 : decode cX6_slice 16 = .ok (.invokevirtual 99, 3) := by decide +kernel
theorem dX6_slice_19 : decode cX6_slice 19 = .ok (.pop, 1) := by decide +kernel
theorem dX6_slice_20 : decode cX6_slice 20 = .ok (.aload_n 0, 1) := by decide +kernel
theorem dX6_slice_21 : decode cX6_slice 21 = .ok (.dup, 1) := by decide +kernel
theorem dX6_slice_22 : decode cX6_slice 22 = .ok (.getfield 77, 3) := by decide +kernel
theorem dX6_slice_25 : decode cX6_slice 25 = .ok (.iconst 1, 1) := by decide +kernel
theorem dX6_slice_26 : decode cX6_slice 26 = .ok (.iadd, 1) := by decide +kernel
theorem dX6_slice_27 : decode cX6_slice 27 = .ok (.putfield 77, 3) := by decide +kernel
theorem dX6_slice_30 : decode cX6_slice 30 = .ok (.aload_n 0, 1) := by decide +kernel
theorem dX6_slice_31 : decode cX6_slice 31 = .ok (.bipush 12, 2) := by decide +kernel
theorem dX6_slice_33 : decode cX6_slice 33 = .ok (.iload_n 1, 1) := by decide +kernel
theorem dX6_slice_34 : decode cX6_slice 34 = .ok (.iconst 0, 1) := by decide +kernel
theorem dX6_slice_35 : decode cX6_slice 35 = .ok (.invokevirtual 106, 3) := by decide +kernel
theorem dX6_slice_38 : decode cX6_slice 38 = .ok (.return_, 1) := by decide +kernel
theorem dX6_sliced_0 : decode cX6_sliced 0 = .ok (.aload_n 0, 1) := by decide +kernel
theorem dX6_sliced_1 : decode cX6_sliced 1 = .ok (.invokevirtual 83, 3) := by decide +kernel
theorem dX6_sliced_4 : decode cX6_sliced 4 = .ok (.bipush 81, 2) := by decide +kernel
theorem dX6_sliced_6 : decode cX6_sliced 6 = .ok (.if_icmp .ne 36, 3) := by decide +kernel
theorem dX6_sliced_9 : decode cX6_sliced 9 = .ok (.aload_n 0, 1) := by decide +kernel
theorem dX6_sliced_10 : decode cX6_sliced 10 = .ok (.iload_n 1, 1) := by decide +kernel
theorem dX6_sliced_11 : decode cX6_sliced 11 = .ok (.bipush 86, 2) := by decide +kernel
theorem dX6_sliced_13 : decode cX6_sliced 13 = .ok (.aload_n 0, 1) := by decide +kernel
theorem dX6_sliced_14 : decode cX6_sliced 14 = .ok (.getfield 77, 3) := by decide +kernel
theorem dX6_sliced_17 : decode cX6_sliced 17 = .ok (.invokevirtual 99, 3) := by decide +kernel
theorem dX6_sliced_20 : decode cX6_sliced 20 = .ok (.pop, 1) := by decide +kernel
theorem dX6_sliced_21 : decode cX6_sliced 21 = .ok (.aload_n 0, 1) := by decide +kernel
theorem dX6_sliced_22 : decode cX6_sliced 22 = .ok (.dup, 1) := by decide +kernel
theorem dX6_sliced_23 : decode cX6_sliced 23 = .ok (.getfield 77, 3) := by decide +kernel
theorem dX6_sliced_26 : decode cX6_sliced 26 = .ok (.iconst 1, 1) := by decide +kernel
theorem dX6_sliced_27 : decode cX6_sliced 27 = .ok (.iadd, 1) := by decide +kernel
theorem dX6_sliced_28 : decode cX6_sliced 28 = .ok (.putfield 77, 3) := by decide +kernel
theorem dX6_sliced_31 : decode cX6_sliced 31 = .ok (.aload_n 0, 1) := by decide +kernel
theorem dX6_sliced_32 : decode cX6_sliced 32 = .ok (.dup, 1) := by decide +kernel
theorem dX6_sliced_33 : decode cX6_sliced 33 = .ok (.getfield 90, 3) := by decide +kernel
theorem dX6_sliced_36 : decode cX6_sliced 36 = .ok (.iconst 1, 1) := by decide +kernel
theorem dX6_sliced_37 : decode cX6_sliced 37 = .ok (.isub, 1) := by decide +kernel
theorem dX6_sliced_38 : decode cX6_sliced 38 = .ok (.putfield 90, 3) := by decide +kernel
theorem dX6_sliced_41 : decode cX6_sliced 41 = .ok (.return_, 1) := by decide +kernel
theorem dX6_sliced_42 : decode cX6_sliced 42 = .ok (.aload_n 0, 1) := by decide +kernel
theorem dX6_sliced_43 : decode cX6_sliced 43 = .ok (.bipush 13, 2) := by decide +kernel
theorem dX6_sliced_45 : decode cX6_sliced 45 = .ok (.iload_n 1, 1) := by decide +kernel
theorem dX6_sliced_46 : decode cX6_sliced 46 = .ok (.iconst 0, 1) := by decide +kernel
theorem dX6_sliced_47 : decode cX6_sliced 47 = .ok (.invokevirtual 106, 3) := by decide +kernel
theorem dX6_sliced_50 : decode cX6_sliced 50 = .ok (.aload_n 0, 1) := by decide +kernel
theorem dX6_sliced_51 : decode cX6_sliced 51 = .ok (.iload_n 1, 1) := by decide +kernel
theorem dX6_sliced_52 : decode cX6_sliced 52 = .ok (.iconst 0, 1) := by decide +kernel
theorem dX6_sliced_53 : decode cX6_sliced 53 = .ok (.iconst 1, 1) := by decide +kernel
theorem dX6_sliced_54 : decode cX6_sliced 54 = .ok (.invokevirtual 117, 3) := by decide +kernel
theorem dX6_sliced_57 : decode cX6_sliced 57 = .ok (.return_, 1) := by decide +kernel
theorem dX6_sliceMore_0 : decode cX6_sliceMore 0 = .ok (.aload_n 0, 1) := by decide +kernel
theorem dX6_sliceMore_1 : decode cX6_sliceMore 1 = .ok (.invokevirtual 83, 3) := by decide +kernel
theorem dX6_sliceMore_4 : decode cX6_sliceMore 4 = .ok (.bipush 87, 2) := by decide +kernel
theorem dX6_sliceMore_6 : decode cX6_sliceMore 6 = .ok (.if_icmp .eq 20, 3) := by decide +kernel
theorem dX6_sliceMore_9 : decode cX6_sliceMore 9 = .ok (.aload_n 0, 1) := by decide +kernel
theorem dX6_sliceMore_10 : decode cX6_sliceMore 10 = .ok (.bipush 81, 2) := by decide +kernel
theorem dX6_sliceMore_12 : decode cX6_sliceMore 12 = .ok (.invokevirtual 141, 3) := by decide +kernel
theorem dX6_sliceMore_15 : decode cX6_sliceMore 15 = .ok (.aload_n 0, 1) := by decide +kernel
theorem dX6_sliceMore_16 : decode cX6_sliceMore 16 = .ok (.dup, 1) := by decide +kernel
theorem dX6_sliceMore_17 : decode cX6_sliceMore 17 = .ok (.getfield 90, 3) := by decide +kernel
theorem dX6_sliceMore_20 : decode cX6_sliceMore 20 = .ok (.iconst 1, 1) := by decide +kernel
theorem dX6_sliceMore_21 : decode cX6_sliceMore 21 = .ok (.isub, 1) := by decide +kernel
theorem dX6_sliceMore_22 : decode cX6_sliceMore 22 = .ok (.putfield 90, 3) := by decide +kernel
theorem dX6_sliceMore_25 : decode cX6_sliceMore 25 = .ok (.return_, 1) := by decide +kernel
theorem dX6_sliceMore_26 : decode cX6_sliceMore 26 = .ok (.aload_n 0, 1) := by decide +kernel
theorem dX6_sliceMore_27 : decode cX6_sliceMore 27 = .ok (.dup, 1) := by decide +kernel
theorem dX6_sliceMore_28 : decode cX6_sliceMore 28 = .ok (.getfield 77, 3) := by decide +kernel
theorem dX6_sliceMore_31 : decode cX6_sliceMore 31 = .ok (.iconst 1, 1) := by decide +kernel
theorem dX6_sliceMore_32 : decode cX6_sliceMore 32 = .ok (.iadd, 1) := by decide +kernel
theorem dX6_sliceMore_33 : decode cX6_sliceMore 33 = .ok (.putfield 77, 3) := by decide +kernel
theorem dX6_sliceMore_36 : decode cX6_sliceMore 36 = .ok (.aload_n 0, 1) := by decide +kernel
theorem dX6_sliceMore_37 : decode cX6_sliceMore 37 = .ok (.bipush 8, 2) := by decide +kernel
theorem dX6_sliceMore_39 : decode cX6_sliceMore 39 = .ok (.bipush 81, 2) := by decide +kernel
theorem dX6_sliceMore_41 : decode cX6_sliceMore 41 = .ok (.iconst 0, 1) := by decide +kernel
theorem dX6_sliceMore_42 : decode cX6_sliceMore 42 = .ok (.invokevirtual 106, 3) := by decide +kernel
theorem dX6_sliceMore_45 : decode cX6_sliceMore 45 = .ok (.aload_n 0, 1) := by decide +kernel
theorem dX6_sliceMore_46 : decode cX6_sliceMore 46 = .ok (.iload_n 1, 1) := by decide +kernel
theorem dX6_sliceMore_47 : decode cX6_sliceMore 47 = .ok (.iconst 0, 1) := by decide +kernel
theorem dX6_sliceMore_48 : decode cX6_sliceMore 48 = .ok (.iconst 1, 1) := by decide +kernel
theorem dX6_sliceMore_49 : decode cX6_sliceMore 49 = .ok (.invokevirtual 117, 3) := by decide +kernel
theorem dX6_sliceMore_52 : decode cX6_sliceMore 52 = .ok (.return_, 1) := by decide +kernel
theorem dX6_args_0 : decode cX6_args 0 = .ok (.aload_n 0, 1) := by decide +kernel
theorem dX6_args_1 : decode cX6_args 1 = .ok (.invokevirtual 83, 3) := by decide +kernel
theorem dX6_args_4 : decode cX6_args 4 = .ok (.bipush 79, 2) := by decide +kernel
theorem dX6_args_6 : decode cX6_args 6 = .ok (.if_icmp .ne 24, 3) := by decide +kernel
theorem dX6_args_9 : decode cX6_args 9 = .ok (.aload_n 0, 1) := by decide +kernel
theorem dX6_args_10 : decode cX6_args 10 = .ok (.dup, 1) := by decide +kernel
theorem dX6_args_11 : decode cX6_args 11 = .ok (.getfield 77, 3) := by decide +kernel
theorem dX6_args_14 : decode cX6_args 14 = .ok (.iconst 1, 1) := by decide +kernel
theorem dX6_args_15 : decode cX6_args 15 = .ok (.iadd, 1) := by decide +kernel
theorem dX6_args_16 : decode cX6_args 16 = .ok (.putfield 77, 3) := by decide +kernel
theorem dX6_args_19 : decode cX6_args 19 = .ok (.aload_n 0, 1) := by decide +kernel
theorem dX6_args_20 : decode cX6_args 20 = .ok (.dup, 1) := by decide +kernel
theorem dX6_args_21 : decode cX6_args 21 = .ok (.getfield 90, 3) := by decide +kernel
theorem dX6_args_24 : decode cX6_args 24 = .ok (.iconst 1, 1) := by decide +kernel
theorem dX6_args_25 : decode cX6_args 25 = .ok (.isub, 1) := by decide +kernel
theorem dX6_args_26 : decode cX6_args 26 = .ok (.putfield 90, 3) := by decide +kernel
theorem dX6_args_29 : decode cX6_args 29 = .ok (.return_, 1) := by decide +kernel
theorem dX6_args_30 : decode cX6_args 30 = .ok (.aload_n 0, 1) := by decide +kernel
theorem dX6_args_31 : decode cX6_args 31 = .ok (.bipush 10, 2) := by decide +kernel
theorem dX6_args_33 : decode cX6_args 33 = .ok (.iload_n 1, 1) := by decide +kernel
theorem dX6_args_34 : decode cX6_args 34 = .ok (.iconst 0, 1) := by decide +kernel
theorem dX6_args_35 : decode cX6_args 35 = .ok (.invokevirtual 106, 3) := by decide +kernel
theorem dX6_args_38 : decode cX6_args 38 = .ok (.aload_n 0, 1) := by decide +kernel
theorem dX6_args_39 : decode cX6_args 39 = .ok (.iload_n 1, 1) := by decide +kernel
theorem dX6_args_40 : decode cX6_args 40 = .ok (.iconst 0, 1) := by decide +kernel
theorem dX6_args_41 : decode cX6_args 41 = .ok (.iconst 1, 1) := by decide +kernel
theorem dX6_args_42 : decode cX6_args 42 = .ok (.invokevirtual 117, 3) := by decide +kernel
theorem dX6_args_45 : decode cX6_args 45 = .ok (.return_, 1) := by decide +kernel
theorem dX6_argsMore_0 : decode cX6_argsMore 0 = .ok (.aload_n 0, 1) := by decide +kernel
theorem dX6_argsMore_1 : decode cX6_argsMore 1 = .ok (.invokevirtual 83, 3) := by decide +kernel
theorem dX6_argsMore_4 : decode cX6_argsMore 4 = .ok (.bipush 77, 2) := by decide +kernel
theorem dX6_argsMore_6 : decode cX6_argsMore 6 = .ok (.if_icmp .ne 63, 3) := by decide +kernel
theorem dX6_argsMore_9 : decode cX6_argsMore 9 = .ok (.aload_n 0, 1) := by decide +kernel
theorem dX6_argsMore_10 : decode cX6_argsMore 10 = .ok (.iload_n 1, 1) := by decide +kernel
theorem dX6_argsMore_11 : decode cX6_argsMore 11 = .ok (.bipush 17, 2) := by decide +kernel
theorem dX6_argsMore_13 : decode cX6_argsMore 13 = .ok (.aload_n 0, 1) := by decide +kernel
theorem dX6_argsMore_14 : decode cX6_argsMore 14 = .ok (.getfield 77, 3) := by decide +kernel
theorem dX6_argsMore_17 : decode cX6_argsMore 17 = .ok (.invokevirtual 99, 3) := by decide +kernel
theorem dX6_argsMore_20 : decode cX6_argsMore 20 = .ok (.pop, 1) := by decide +kernel
theorem dX6_argsMore_21 : decode cX6_argsMore 21 = .ok (.aload_n 0, 1) := by decide +kernel
theorem dX6_argsMore_22 : decode cX6_argsMore 22 = .ok (.dup, 1) := by decide +kernel
theorem dX6_argsMore_23 : decode cX6_argsMore 23 = .ok (.getfield 77, 3) := by decide +kernel
theorem dX6_argsMore_26 : decode cX6_argsMore 26 = .ok (.iconst 1, 1) := by decide +kernel
theorem dX6_argsMore_27 : decode cX6_argsMore 27 = .ok (.iadd, 1) := by decide +kernel
theorem dX6_argsMore_28 : decode cX6_argsMore 28 = .ok (.putfield 77, 3) := by decide +kernel
theorem dX6_argsMore_31 : decode cX6_argsMore 31 = .ok (.aload_n 0, 1) := by decide +kernel
theorem dX6_argsMore_32 : decode cX6_argsMore 32 = .ok (.invokevirtual 83, 3) := by decide +kernel
theorem dX6_argsMore_35 : decode cX6_argsMore 35 = .ok (.bipush 84, 2) := by decide +kernel
theorem dX6_argsMore_37 : decode cX6_argsMore 37 = .ok (.if_icmp .ne 13, 3) := by decide +kernel
theorem dX6_argsMore_40 : decode cX6_argsMore 40 = .ok (.aload_n 0, 1) := by decide +kernel
theorem dX6_argsMore_41 : decode cX6_argsMore 41 = .ok (.dup, 1) := by decide +kernel
theorem dX6_argsMore_42 : decode cX6_argsMore 42 = .ok (.getfield 77, 3) := by decide +kernel
theorem dX6_argsMore_45 : decode cX6_argsMore 45 = .ok (.iconst 1, 1) := by decide +kernel
theorem dX6_argsMore_46 : decode cX6_argsMore 46 = .ok (.iadd, 1) := by decide +kernel
theorem dX6_argsMore_47 : decode cX6_argsMore 47 = .ok (.putfield 77, 3) := by decide +kernel
theorem dX6_argsMore_50 : decode cX6_argsMore 50 = .ok (.aload_n 0, 1) := by decide +kernel
theorem dX6_argsMore_51 : decode cX6_argsMore 51 = .ok (.bipush 79, 2) := by decide +kernel
theorem dX6_argsMore_53 : decode cX6_argsMore 53 = .ok (.invokevirtual 141, 3) := by decide +kernel
theorem dX6_argsMore_56 : decode cX6_argsMore 56 = .ok (.aload_n 0, 1) := by decide +kernel
theorem dX6_argsMore_57 : decode cX6_argsMore 57 = .ok (.dup, 1) := by decide +kernel
theorem dX6_argsMore_58 : decode cX6_argsMore 58 = .ok (.getfield 90, 3) := by decide +kernel
theorem dX6_argsMore_61 : decode cX6_argsMore 61 = .ok (.iconst 1, 1) := by decide +kernel
theorem dX6_argsMore_62 : decode cX6_argsMore 62 = .ok (.isub, 1) := by decide +kernel
theorem dX6_argsMore_63 : decode cX6_argsMore 63 = .ok (.putfield 90, 3) := by decide +kernel
theorem dX6_argsMore_66 : decode cX6_argsMore 66 = .ok (.goto 49, 3) := by decide +kernel
theorem dX6_argsMore_69 : decode cX6_argsMore 69 = .ok (.aload_n 0, 1) := by decide +kernel
theorem dX6_argsMore_70 : decode cX6_argsMore 70 = .ok (.invokevirtual 83, 3) := by decide +kernel
theorem dX6_argsMore_73 : decode cX6_argsMore 73 = .ok (.bipush 84, 2) := by decide +kernel
theorem dX6_argsMore_75 : decode cX6_argsMore 75 = .ok (.if_icmp .ne 24, 3) := by decide +kernel
theorem dX6_argsMore_78 : decode cX6_argsMore 78 = .ok (.aload_n 0, 1) := by decide +kernel
theorem dX6_argsMore_79 : decode cX6_argsMore 79 = .ok (.dup, 1) := by decide +kernel
theorem dX6_argsMore_80 : decode cX6_argsMore 80 = .ok (.getfield 77, 3) := by decide +kernel
theorem dX6_argsMore_83 : decode cX6_argsMore 83 = .ok (.iconst 1, 1) := by decide +kernel
theorem dX6_argsMore_84 : decode cX6_argsMore 84 = .ok (.iadd, 1) := by decide +kernel
theorem dX6_argsMore_85 : decode cX6_argsMore 85 = .ok (.putfield 77, 3) := by decide +kernel
theorem dX6_argsMore_88 : decode cX6_argsMore 88 = .ok (.aload_n 0, 1) := by decide +kernel
theorem dX6_argsMore_89 : decode cX6_argsMore 89 = .ok (.bipush 9, 2) := by decide +kernel
theorem dX6_argsMore_91 : decode cX6_argsMore 91 = .ok (.iload_n 1, 1) := by decide +kernel
theorem dX6_argsMore_92 : decode cX6_argsMore 92 = .ok (.iconst 0, 1) := by decide +kernel
theorem dX6_argsMore_93 : decode cX6_argsMore 93 = .ok (.invokevirtual 106, 3) := by decide +kernel
theorem dX6_argsMore_96 : decode cX6_argsMore 96 = .ok (.goto 19, 3) := by decide +kernel
theorem dX6_argsMore_99 : decode cX6_argsMore 99 = .ok (.aload_n 0, 1) := by decide +kernel
theorem dX6_argsMore_100 : decode cX6_argsMore 100 = .ok (.bipush 79, 2) := by decide +kernel
theorem dX6_argsMore_102 : decode cX6_argsMore 102 = .ok (.invokevirtual 141, 3) := by decide +kernel
theorem dX6_argsMore_105 : decode cX6_argsMore 105 = .ok (.aload_n 0, 1) := by decide +kernel
theorem dX6_argsMore_106 : decode cX6_argsMore 106 = .ok (.dup, 1) := by decide +kernel
theorem dX6_argsMore_107 : decode cX6_argsMore 107 = .ok (.getfield 90, 3) := by decide +kernel
theorem dX6_argsMore_110 : decode cX6_argsMore 110 = .ok (.iconst 1, 1) := by decide +kernel
theorem dX6_argsMore_111 : decode cX6_argsMore 111 = .ok (.isub, 1) := by decide +kernel
theorem dX6_argsMore_112 : decode cX6_argsMore 112 = .ok (.putfield 90, 3) := by decide +kernel
theorem dX6_argsMore_115 : decode cX6_argsMore 115 = .ok (.return_, 1) := by decide +kernel
theorem dX6_type_0 : decode cX6_type 0 = .ok (.aload_n 0, 1) := by decide +kernel
theorem dX6_type_1 : decode cX6_type 1 = .ok (.invokevirtual 83, 3) := by decide +kernel
theorem dX6_type_4 : decode cX6_type 4 = .ok (.istore_n 3, 1) := by decide +kernel
theorem dX6_type_5 : decode cX6_type 5 = .ok (.iload_n 3, 1) := by decide +kernel
theorem dX6_type_6 : decode cX6_type 6 = .ok (.iconst 1, 1) := by decide +kernel
theorem dX6_type_7 : decode cX6_type 7 = .ok (.if_icmp .ne 10, 3) := by decide +kernel
theorem dX6_type_10 : decode cX6_type 10 = .ok (.aload_n 0, 1) := by decide +kernel
theorem dX6_type_11 : decode cX6_type 11 = .ok (.iload_n 1, 1) := by decide +kernel
theorem dX6_type_12 : decode cX6_type 12 = .ok (.invokevirtual 130, 3) := by decide +kernel
theorem dX6_type_15 : decode cX6_type 15 = .ok (.pop, 1) := by decide +kernel
theorem dX6_type_16 : decode cX6_type 16 = .ok (.return_, 1) := by decide +kernel
theorem dX6_type_17 : decode cX6_type 17 = .ok (.iload_n 3, 1) := by decide +kernel
theorem dX6_type_18 : decode cX6_type 18 = .ok (.invokestatic 150, 3) := by decide +kernel
theorem dX6_type_21 : decode cX6_type 21 = .ok (.ifCond .ne 8, 3) := by decide +kernel
theorem dX6_type_24 : decode cX6_type 24 = .ok (.aload_n 0, 1) := by decide +kernel
theorem dX6_type_25 : decode cX6_type 25 = .ok (.invokevirtual 87, 3) := by decide +kernel
theorem dX6_type_28 : decode cX6_type 28 = .ok (.return_, 1) := by decide +kernel
theorem dX6_type_29 : decode cX6_type 29 = .ok (.aload_n 0, 1) := by decide +kernel
theorem dX6_type_30 : decode cX6_type 30 = .ok (.invokevirtual 123, 3) := by decide +kernel
theorem dX6_type_33 : decode cX6_type 33 = .ok (.aload_n 0, 1) := by decide +kernel
theorem dX6_type_34 : decode cX6_type 34 = .ok (.bipush 6, 2) := by decide +kernel
theorem dX6_type_36 : decode cX6_type 36 = .ok (.iload_n 1, 1) := by decide +kernel
theorem dX6_type_37 : decode cX6_type 37 = .ok (.iconst 0, 1) := by decide +kernel
theorem dX6_type_38 : decode cX6_type 38 = .ok (.invokevirtual 106, 3) := by decide +kernel
theorem dX6_type_41 : decode cX6_type 41 = .ok (.iload_n 3, 1) := by decide +kernel
theorem dX6_type_42 : decode cX6_type 42 = .ok (.bipush 78, 2) := by decide +kernel
theorem dX6_type_44 : decode cX6_type 44 = .ok (.if_icmp .ne 33, 3) := by decide +kernel
theorem dX6_type_47 : decode cX6_type 47 = .ok (.aload_n 0, 1) := by decide +kernel
theorem dX6_type_48 : decode cX6_type 48 = .ok (.dup, 1) := by decide +kernel
theorem dX6_type_49 : decode cX6_type 49 = .ok (.getfield 77, 3) := by decide +kernel
theorem dX6_type_52 : decode cX6_type 52 = .ok (.iconst 1, 1) := by decide +kernel
theorem dX6_type_53 : decode cX6_type 53 = .ok (.iadd, 1) := by decide +kernel
theorem dX6_type_54 : decode cX6_type 54 = .ok (.putfield 77, 3) := by decide +kernel
theorem dX6_type_57 : decode cX6_type 57 = .ok (.aload_n 0, 1) := by decide +kernel
theorem dX6_type_58 : decode cX6_type 58 = .ok (.bipush 7, 2) := by decide +kernel
theorem dX6_type_60 : decode cX6_type 60 = .ok (.bipush 79, 2) := by decide +kernel
theorem dX6_type_62 : decode cX6_type 62 = .ok (.iconst 0, 1) := by decide +kernel
theorem dX6_type_63 : decode cX6_type 63 = .ok (.invokevirtual 106, 3) := by decide +kernel
theorem dX6_type_66 : decode cX6_type 66 = .ok (.aload_n 0, 1) := by decide +kernel
theorem dX6_type_67 : decode cX6_type 67 = .ok (.bipush 18, 2) := by decide +kernel
theorem dX6_type_69 : decode cX6_type 69 = .ok (.iload_n 1, 1) := by decide +kernel
theorem dX6_type_70 : decode cX6_type 70 = .ok (.iconst 0, 1) := by decide +kernel
theorem dX6_type_71 : decode cX6_type 71 = .ok (.invokevirtual 106, 3) := by decide +kernel
theorem dX6_type_74 : decode cX6_type 74 = .ok (.goto 352, 3) := by decide +kernel
theorem dX6_type_77 : decode cX6_type 77 = .ok (.iload_n 3, 1) := by decide +kernel
theorem dX6_type_78 : decode cX6_type 78 = .ok (.bipush 80, 2) := by decide +kernel
theorem dX6_type_80 : decode cX6_type 80 = .ok (.if_icmp .ne 12, 3) := by decide +kernel
theorem dX6_type_83 : decode cX6_type 83 = .ok (.aload_n 0, 1) := by decide +kernel
theorem dX6_type_84 : decode cX6_type 84 = .ok (.iload_n 1, 1) := by decide +kernel
theorem dX6_type_85 : decode cX6_type 85 = .ok (.iload_n 2, 1) := by decide +kernel
theorem dX6_type_86 : decode cX6_type 86 = .ok (.invokevirtual 153, 3) := by decide +kernel
theorem dX6_type_89 : decode cX6_type 89 = .ok (.goto 337, 3) := by decide +kernel
theorem dX6_type_92 : decode cX6_type 92 = .ok (.iload_n 3, 1) := by decide +kernel
theorem dX6_type_93 : decode cX6_type 93 = .ok (.bipush 26, 2) := by decide +kernel
theorem dX6_type_95 : decode cX6_type 95 = .ok (.if_icmp .ne 75, 3) := by decide +kernel
theorem dX6_type_98 : decode cX6_type 98 = .ok (.aload_n 0, 1) := by decide +kernel
theorem dX6_type_99 : decode cX6_type 99 = .ok (.iload_n 1, 1) := by decide +kernel
theorem dX6_type_100 : decode cX6_type 100 = .ok (.bipush 22, 2) := by decide +kernel
theorem dX6_type_102 : decode cX6_type 102 = .ok (.aload_n 0, 1) := by decide +kernel
theorem dX6_type_103 : decode cX6_type 103 = .ok (.getfield 77, 3) := by decide +kernel
theorem dX6_type_106 : decode cX6_type 106 = .ok (.invokevirtual 99, 3) := by decide +kernel
theorem dX6_type_109 : decode cX6_type 109 = .ok (.istore 4, 2) := by decide +kernel
theorem dX6_type_111 : decode cX6_type 111 = .ok (.aload_n 0, 1) := by decide +kernel
theorem dX6_type_112 : decode cX6_type 112 = .ok (.dup, 1) := by decide +kernel
theorem dX6_type_113 : decode cX6_type 113 = .ok (.getfield 77, 3) := by decide +kernel
theorem dX6_type_116 : decode cX6_type 116 = .ok (.iconst 1, 1) := by decide +kernel
theorem dX6_type_117 : decode cX6_type 117 = .ok (.iadd, 1) := by decide +kernel
theorem dX6_type_118 : decode cX6_type 118 = .ok (.putfield 77, 3) := by decide +kernel
theorem dX6_type_121 : decode cX6_type 121 = .ok (.aload_n 0, 1) := by decide +kernel
theorem dX6_type_122 : decode cX6_type 122 = .ok (.invokevirtual 83, 3) := by decide +kernel
theorem dX6_type_125 : decode cX6_type 125 = .ok (.bipush 80, 2) := by decide +kernel
theorem dX6_type_127 : decode cX6_type 127 = .ok (.if_icmp .ne 7, 3) := by decide +kernel
theorem dX6_type_130 : decode cX6_type 130 = .ok (.aload_n 0, 1) := by decide +kernel
theorem dX6_type_131 : decode cX6_type 131 = .ok (.invokevirtual 123, 3) := by decide +kernel
theorem dX6_type_134 : decode cX6_type 134 = .ok (.aload_n 0, 1) := by decide +kernel
theorem dX6_type_135 : decode cX6_type 135 = .ok (.bipush 80, 2) := by decide +kernel
theorem dX6_type_137 : decode cX6_type 137 = .ok (.invokevirtual 141, 3) := by decide +kernel
theorem dX6_type_140 : decode cX6_type 140 = .ok (.aload_n 0, 1) := by decide +kernel
theorem dX6_type_141 : decode cX6_type 141 = .ok (.bipush 18, 2) := by decide +kernel
theorem dX6_type_143 : decode cX6_type 143 = .ok (.iload 4, 2) := by decide +kernel
theorem dX6_type_145 : decode cX6_type 145 = .ok (.iconst 0, 1) := by decide +kernel
theorem dX6_type_146 : decode cX6_type 146 = .ok (.invokevirtual 106, 3) := by decide +kernel
theorem dX6_type_149 : decode cX6_type 149 = .ok (.aload_n 0, 1) := by decide +kernel
theorem dX6_type_150 : decode cX6_type 150 = .ok (.bipush 8, 2) := by decide +kernel
theorem dX6_type_152 : decode cX6_type 152 = .ok (.bipush 81, 2) := by decide +kernel
theorem dX6_type_154 : decode cX6_type 154 = .ok (.iconst 0, 1) := by decide +kernel
theorem dX6_type_155 : decode cX6_type 155 = .ok (.invokevirtual 106, 3) := by decide +kernel
theorem dX6_type_158 : decode cX6_type 158 = .ok (.aload_n 0, 1) := by decide +kernel
theorem dX6_type_159 : decode cX6_type 159 = .ok (.bipush 18, 2) := by decide +kernel
theorem dX6_type_161 : decode cX6_type 161 = .ok (.iload 4, 2) := by decide +kernel
theorem dX6_type_163 : decode cX6_type 163 = .ok (.iconst 0, 1) := by decide +kernel
theorem dX6_type_164 : decode cX6_type 164 = .ok (.invokevirtual 106, 3) := by decide +kernel
theorem dX6_type_167 : decode cX6_type 167 = .ok (.goto 259, 3) := by decide +kernel
theorem dX6_type_170 : decode cX6_type 170 = .ok (.iload_n 3, 1) := by decide +kernel
theorem dX6_type_171 : decode cX6_type 171 = .ok (.bipush 12, 2) := by decide +kernel
theorem dX6_type_173 : decode cX6_type 173 = .ok (.if_icmp .eq 9, 3) := by decide +kernel
theorem dX6_type_176 : decode cX6_type 176 = .ok (.iload_n 3, 1) := by decide +kernel
theorem dX6_type_177 : decode cX6_type 177 = .ok (.bipush 64, 2) := by decide +kernel
theorem dX6_type_179 : decode cX6_type 179 = .ok (.if_icmp .ne 92, 3) := by decide +kernel
theorem dX6_type_182 : decode cX6_type 182 = .ok (.aload_n 0, 1) := by decide +kernel
theorem dX6_type_183 : decode cX6_type 183 = .ok (.iload_n 1, 1) := by decide +kernel
theorem dX6_type_184 : decode cX6_type 184 = .ok (.iload_n 3, 1) := by decide +kernel
theorem dX6_type_185 : decode cX6_type 185 = .ok (.bipush 12, 2) := by decide +kernel
theorem dX6_type_187 : decode cX6_type 187 = .ok (.if_icmp .ne 8, 3) := by decide +kernel
theorem dX6_type_190 : decode cX6_type 190 = .ok (.bipush 23, 2) := by decide +kernel
theorem dX6_type_192 : decode cX6_type 192 = .ok (.goto 5, 3) := by decide +kernel
theorem dX6_type_195 : decode cX6_type 195 = .ok (.bipush 25, 2) := by decide +kernel
theorem dX6_type_197 : decode cX6_type 197 = .ok (.aload_n 0, 1) := by decide +kernel
theorem dX6_type_198 : decode cX6_type 198 = .ok (.getfield 77, 3) := by decide +kernel
theorem dX6_type_201 : decode cX6_type 201 = .ok (.invokevirtual 99, 3) := by decide +kernel
theorem dX6_type_204 : decode cX6_type 204 = .ok (.istore 4, 2) := by decide +kernel
theorem dX6_type_206 : decode cX6_type 206 = .ok (.aload_n 0, 1) := by decide +kernel
theorem dX6_type_207 : decode cX6_type 207 = .ok (.dup, 1) := by decide +kernel
theorem dX6_type_208 : decode cX6_type 208 = .ok (.getfield 77, 3) := by decide +kernel
theorem dX6_type_211 : decode cX6_type 211 = .ok (.iconst 1, 1) := by decide +kernel
theorem dX6_type_212 : decode cX6_type 212 = .ok (.iadd, 1) := by decide +kernel
theorem dX6_type_213 : decode cX6_type 213 = .ok (.putfield 77, 3) := by decide +kernel
theorem dX6_type_216 : decode cX6_type 216 = .ok (.iload_n 3, 1) := by decide +kernel
theorem dX6_type_217 : decode cX6_type 217 = .ok (.bipush 64, 2) := by decide +kernel
theorem dX6_type_219 : decode cX6_type 219 = .ok (.if_icmp .ne 12, 3) := by decide +kernel
theorem dX6_type_222 : decode cX6_type 222 = .ok (.aload_n 0, 1) := by decide +kernel
theorem dX6_type_223 : decode cX6_type 223 = .ok (.bipush 12, 2) := by decide +kernel
theorem dX6_type_225 : decode cX6_type 225 = .ok (.invokevirtual 141, 3) := by decide +kernel
theorem dX6_type_228 : decode cX6_type 228 = .ok (.goto 31, 3) := by decide +kernel
theorem dX6_type_231 : decode cX6_type 231 = .ok (.aload_n 0, 1) := by decide +kernel
theorem dX6_type_232 : decode cX6_type 232 = .ok (.invokevirtual 83, 3) := by decide +kernel
theorem dX6_type_235 : decode cX6_type 235 = .ok (.bipush 64, 2) := by decide +kernel
theorem dX6_type_237 : decode cX6_type 237 = .ok (.if_icmp .ne 22, 3) := by decide +kernel
theorem dX6_type_240 : decode cX6_type 240 = .ok (.aload_n 0, 1) := by decide +kernel
theorem dX6_type_241 : decode cX6_type 241 = .ok (.getfield 14, 3) := by decide +kernel
theorem dX6_type_244 : decode cX6_type 244 = .ok (.iload 4, 2) := by decide +kernel
theorem dX6_type_246 : decode cX6_type 246 = .ok (.bipush 24, 2) := by decide +kernel
theorem dX6_type_248 : decode cX6_type 248 = .ok (.iastore, 1) := by decide +kernel
theorem dX6_type_249 : decode cX6_type 249 = .ok (.aload_n 0, 1) := by decide +kernel
theorem dX6_type_250 : decode cX6_type 250 = .ok (.dup, 1) := by decide +kernel
theorem dX6_type_251 : decode cX6_type 251 = .ok (.getfield 77, 3) := by decide +kernel
theorem dX6_type_254 : decode cX6_type 254 = .ok (.iconst 1, 1) := by decide +kernel
theorem dX6_type_255 : decode cX6_type 255 = .ok (.iadd, 1) := by decide +kernel
theorem dX6_type_256 : decode cX6_type 256 = .ok (.putfield 77, 3) := by decide +kernel
theorem dX6_type_259 : decode cX6_type 259 = .ok (.aload_n 0, 1) := by decide +kernel
theorem dX6_type_260 : decode cX6_type 260 = .ok (.bipush 18, 2) := by decide +kernel
theorem dX6_type_262 : decode cX6_type 262 = .ok (.iload 4, 2) := by decide +kernel
theorem dX6_type_264 : decode cX6_type 264 = .ok (.iconst 0, 1) := by decide +kernel
theorem dX6_type_265 : decode cX6_type 265 = .ok (.invokevirtual 106, 3) := by decide +kernel
theorem dX6_type_268 : decode cX6_type 268 = .ok (.goto 158, 3) := by decide +kernel
theorem dX6_type_271 : decode cX6_type 271 = .ok (.iload_n 3, 1) := by decide +kernel
theorem dX6_type_272 : decode cX6_type 272 = .ok (.bipush 42, 2) := by decide +kernel
theorem dX6_type_274 : decode cX6_type 274 = .ok (.if_icmp .ne 38, 3) := by decide +kernel
theorem dX6_type_277 : decode cX6_type 277 = .ok (.aload_n 0, 1) := by decide +kernel
theorem dX6_type_278 : decode cX6_type 278 = .ok (.iload_n 1, 1) := by decide +kernel
theorem dX6_type_279 : decode cX6_type 279 = .ok (.bipush 26, 2) := by decide +kernel
theorem dX6_type_281 : decode cX6_type 281 = .ok (.aload_n 0, 1) := by decide +kernel
theorem dX6_type_282 : decode cX6_type 282 = .ok (.getfield 77, 3) := by decide +kernel
theorem dX6_type_285 : decode cX6_type 285 = .ok (.invokevirtual 99, 3) := by decide +kernel
theorem dX6_type_288 : decode cX6_type 288 = .ok (.istore 4, 2) := by decide +kernel
theorem dX6_type_290 : decode cX6_type 290 = .ok (.aload_n 0, 1) := by decide +kernel
theorem dX6_type_291 : decode cX6_type 291 = .ok (.dup, 1) := by decide +kernel
theorem dX6_type_292 : decode cX6_type 292 = .ok (.getfield 77, 3) := by decide +kernel
theorem dX6_type_295 : decode cX6_type 295 = .ok (.iconst 1, 1) := by decide +kernel
theorem dX6_type_296 : decode cX6_type 296 = .ok (.iadd, 1) := by decide +kernel
theorem dX6_type_297 : decode cX6_type 297 = .ok (.putfield 77, 3) := by decide +kernel
theorem dX6_type_300 : decode cX6_type 300 = .ok (.aload_n 0, 1) := by decide +kernel
theorem dX6_type_301 : decode cX6_type 301 = .ok (.bipush 18, 2) := by decide +kernel
theorem dX6_type_303 : decode cX6_type 303 = .ok (.iload 4, 2) := by decide +kernel
theorem dX6_type_305 : decode cX6_type 305 = .ok (.iconst 0, 1) := by decide +kernel
theorem dX6_type_306 : decode cX6_type 306 = .ok (.invokevirtual 106, 3) := by decide +kernel
theorem dX6_type_309 : decode cX6_type 309 = .ok (.goto 117, 3) := by decide +kernel
theorem dX6_type_312 : decode cX6_type 312 = .ok (.iload_n 3, 1) := by decide +kernel
theorem dX6_type_313 : decode cX6_type 313 = .ok (.bipush 20, 2) := by decide +kernel
theorem dX6_type_315 : decode cX6_type 315 = .ok (.if_icmp .ne 38, 3) := by decide +kernel
theorem dX6_type_318 : decode cX6_type 318 = .ok (.aload_n 0, 1) := by decide +kernel
theorem dX6_type_319 : decode cX6_type 319 = .ok (.iload_n 1, 1) := by decide +kernel
theorem dX6_type_320 : decode cX6_type 320 = .ok (.bipush 29, 2) := by decide +kernel
theorem dX6_type_322 : decode cX6_type 322 = .ok (.aload_n 0, 1) := by decide +kernel
theorem dX6_type_323 : decode cX6_type 323 = .ok (.getfield 77, 3) := by decide +kernel
theorem dX6_type_326 : decode cX6_type 326 = .ok (.invokevirtual 99, 3) := by decide +kernel
theorem dX6_type_329 : decode cX6_type 329 = .ok (.istore 4, 2) := by decide +kernel
theorem dX6_type_331 : decode cX6_type 331 = .ok (.aload_n 0, 1) := by decide +kernel
theorem dX6_type_332 : decode cX6_type 332 = .ok (.dup, 1) := by decide +kernel
theorem dX6_type_333 : decode cX6_type 333 = .ok (.getfield 77, 3) := by decide +kernel
theorem dX6_type_336 : decode cX6_type 336 = .ok (.iconst 1, 1) := by decide +kernel
theorem dX6_type_337 : decode cX6_type 337 = .ok (.iadd, 1) := by decide +kernel
theorem dX6_type_338 : decode cX6_type 338 = .ok (.putfield 77, 3) := by decide +kernel
theorem dX6_type_341 : decode cX6_type 341 = .ok (.aload_n 0, 1) := by decide +kernel
theorem dX6_type_342 : decode cX6_type 342 = .ok (.bipush 21, 2) := by decide +kernel
theorem dX6_type_344 : decode cX6_type 344 = .ok (.iload 4, 2) := by decide +kernel
theorem dX6_type_346 : decode cX6_type 346 = .ok (.iconst 0, 1) := by decide +kernel
theorem dX6_type_347 : decode cX6_type 347 = .ok (.invokevirtual 106, 3) := by decide +kernel
theorem dX6_type_350 : decode cX6_type 350 = .ok (.goto 76, 3) := by decide +kernel
theorem dX6_type_353 : decode cX6_type 353 = .ok (.aload_n 0, 1) := by decide +kernel
theorem dX6_type_354 : decode cX6_type 354 = .ok (.iload_n 1, 1) := by decide +kernel
theorem dX6_type_355 : decode cX6_type 355 = .ok (.iload_n 3, 1) := by decide +kernel
theorem dX6_type_356 : decode cX6_type 356 = .ok (.bipush 31, 2) := by decide +kernel
theorem dX6_type_358 : decode cX6_type 358 = .ok (.if_icmp .ne 8, 3) := by decide +kernel
theorem dX6_type_361 : decode cX6_type 361 = .ok (.bipush 27, 2) := by decide +kernel
theorem dX6_type_363 : decode cX6_type 363 = .ok (.goto 5, 3) := by decide +kernel
theorem dX6_type_366 : decode cX6_type 366 = .ok (.bipush 30, 2) := by decide +kernel
theorem dX6_type_368 : decode cX6_type 368 = .ok (.aload_n 0, 1) := by decide +kernel
theorem dX6_type_369 : decode cX6_type 369 = .ok (.getfield 77, 3) := by decide +kernel
theorem dX6_type_372 : decode cX6_type 372 = .ok (.invokevirtual 99, 3) := by decide +kernel
theorem dX6_type_375 : decode cX6_type 375 = .ok (.istore 4, 2) := by decide +kernel
theorem dX6_type_377 : decode cX6_type 377 = .ok (.aload_n 0, 1) := by decide +kernel
theorem dX6_type_378 : decode cX6_type 378 = .ok (.dup, 1) := by decide +kernel
theorem dX6_type_379 : decode cX6_type 379 = .ok (.getfield 77, 3) := by decide +kernel
theorem dX6_type_382 : decode cX6_type 382 = .ok (.iconst 1, 1) := by decide +kernel
theorem dX6_type_383 : decode cX6_type 383 = .ok (.iadd, 1) := by decide +kernel
theorem dX6_type_384 : decode cX6_type 384 = .ok (.putfield 77, 3) := by decide +kernel
theorem dX6_type_387 : decode cX6_type 387 = .ok (.aload_n 0, 1) := by decide +kernel
theorem dX6_type_388 : decode cX6_type 388 = .ok (.invokevirtual 83, 3) := by decide +kernel
theorem dX6_type_391 : decode cX6_type 391 = .ok (.bipush 82, 2) := by decide +kernel
theorem dX6_type_393 : decode cX6_type 393 = .ok (.if_icmp .ne 7, 3) := by decide +kernel
theorem dX6_type_396 : decode cX6_type 396 = .ok (.aload_n 0, 1) := by decide +kernel
theorem dX6_type_397 : decode cX6_type 397 = .ok (.invokevirtual 123, 3) := by decide +kernel
theorem dX6_type_400 : decode cX6_type 400 = .ok (.aload_n 0, 1) := by decide +kernel
theorem dX6_type_401 : decode cX6_type 401 = .ok (.bipush 82, 2) := by decide +kernel
theorem dX6_type_403 : decode cX6_type 403 = .ok (.invokevirtual 141, 3) := by decide +kernel
theorem dX6_type_406 : decode cX6_type 406 = .ok (.aload_n 0, 1) := by decide +kernel
theorem dX6_type_407 : decode cX6_type 407 = .ok (.iload_n 3, 1) := by decide +kernel
theorem dX6_type_408 : decode cX6_type 408 = .ok (.bipush 31, 2) := by decide +kernel
theorem dX6_type_410 : decode cX6_type 410 = .ok (.if_icmp .ne 8, 3) := by decide +kernel
theorem dX6_type_413 : decode cX6_type 413 = .ok (.bipush 26, 2) := by decide +kernel
theorem dX6_type_415 : decode cX6_type 415 = .ok (.goto 5, 3) := by decide +kernel
theorem dX6_type_418 : decode cX6_type 418 = .ok (.bipush 28, 2) := by decide +kernel
theorem dX6_type_420 : decode cX6_type 420 = .ok (.iload 4, 2) := by decide +kernel
theorem dX6_type_422 : decode cX6_type 422 = .ok (.iconst 0, 1) := by decide +kernel
theorem dX6_type_423 : decode cX6_type 423 = .ok (.invokevirtual 106, 3) := by decide +kernel
theorem dX6_type_426 : decode cX6_type 426 = .ok (.return_, 1) := by decide +kernel
theorem dX6_array_0 : decode cX6_array 0 = .ok (.aload_n 0, 1) := by decide +kernel
theorem dX6_array_1 : decode cX6_array 1 = .ok (.iload_n 1, 1) := by decide +kernel
theorem dX6_array_2 : decode cX6_array 2 = .ok (.bipush 21, 2) := by decide +kernel
theorem dX6_array_4 : decode cX6_array 4 = .ok (.aload_n 0, 1) := by decide +kernel
theorem dX6_array_5 : decode cX6_array 5 = .ok (.getfield 77, 3) := by decide +kernel
theorem dX6_array_8 : decode cX6_array 8 = .ok (.invokevirtual 99, 3) := by decide +kernel
theorem dX6_array_11 : decode cX6_array 11 = .ok (.istore_n 3, 1) := by decide +kernel
theorem dX6_array_12 : decode cX6_array 12 = .ok (.aload_n 0, 1) := by decide +kernel
theorem dX6_array_13 : decode cX6_array 13 = .ok (.dup, 1) := by decide +kernel
theorem dX6_array_14 : decode cX6_array 14 = .ok (.getfield 77, 3) := by decide +kernel
theorem dX6_array_17 : decode cX6_array 17 = .ok (.iconst 1, 1) := by decide +kernel
theorem dX6_array_18 : decode cX6_array 18 = .ok (.iadd, 1) := by decide +kernel
theorem dX6_array_19 : decode cX6_array 19 = .ok (.putfield 77, 3) := by decide +kernel
theorem dX6_array_22 : decode cX6_array 22 = .ok (.aload_n 0, 1) := by decide +kernel
theorem dX6_array_23 : decode cX6_array 23 = .ok (.invokevirtual 83, 3) := by decide +kernel
theorem dX6_array_26 : decode cX6_array 26 = .ok (.bipush 81, 2) := by decide +kernel
theorem dX6_array_28 : decode cX6_array 28 = .ok (.if_icmp .ne 32, 3) := by decide +kernel
theorem dX6_array_31 : decode cX6_array 31 = .ok (.aload_n 0, 1) := by decide +kernel
theorem dX6_array_32 : decode cX6_array 32 = .ok (.getfield 14, 3) := by decide +kernel
theorem dX6_array_35 : decode cX6_array 35 = .ok (.iload_n 3, 1) := by decide +kernel
theorem dX6_array_36 : decode cX6_array 36 = .ok (.bipush 20, 2) := by decide +kernel
theorem dX6_array_38 : decode cX6_array 38 = .ok (.iastore, 1) := by decide +kernel
theorem dX6_array_39 : decode cX6_array 39 = .ok (.aload_n 0, 1) := by decide +kernel
theorem dX6_array_40 : decode cX6_array 40 = .ok (.dup, 1) := by decide +kernel
theorem dX6_array_41 : decode cX6_array 41 = .ok (.getfield 77, 3) := by decide +kernel
theorem dX6_array_44 : decode cX6_array 44 = .ok (.iconst 1, 1) := by decide +kernel
theorem dX6_array_45 : decode cX6_array 45 = .ok (.iadd, 1) := by decide +kernel
theorem dX6_array_46 : decode cX6_array 46 = .ok (.putfield 77, 3) := by decide +kernel
theorem dX6_array_49 : decode cX6_array 49 = .ok (.aload_n 0, 1) := by decide +kernel
theorem dX6_array_50 : decode cX6_array 50 = .ok (.bipush 18, 2) := by decide +kernel
theorem dX6_array_52 : decode cX6_array 52 = .ok (.iload_n 3, 1) := by decide +kernel
theorem dX6_array_53 : decode cX6_array 53 = .ok (.iconst 0, 1) := by decide +kernel
theorem dX6_array_54 : decode cX6_array 54 = .ok (.invokevirtual 106, 3) := by decide +kernel
theorem dX6_array_57 : decode cX6_array 57 = .ok (.goto 80, 3) := by decide +kernel
theorem dX6_array_60 : decode cX6_array 60 = .ok (.aload_n 0, 1) := by decide +kernel
theorem dX6_array_61 : decode cX6_array 61 = .ok (.invokevirtual 83, 3) := by decide +kernel
theorem dX6_array_64 : decode cX6_array 64 = .ok (.bipush 77, 2) := by decide +kernel
theorem dX6_array_66 : decode cX6_array 66 = .ok (.if_icmp .ne 47, 3) := by decide +kernel
theorem dX6_array_69 : decode cX6_array 69 = .ok (.iload_n 2, 1) := by decide +kernel
theorem dX6_array_70 : decode cX6_array 70 = .ok (.iconst 1, 1) := by decide +kernel
theorem dX6_array_71 : decode cX6_array 71 = .ok (.if_icmp .ne 42, 3) := by decide +kernel
theorem dX6_array_74 : decode cX6_array 74 = .ok (.aload_n 0, 1) := by decide +kernel
theorem dX6_array_75 : decode cX6_array 75 = .ok (.iload_n 3, 1) := by decide +kernel
theorem dX6_array_76 : decode cX6_array 76 = .ok (.bipush 17, 2) := by decide +kernel
theorem dX6_array_78 : decode cX6_array 78 = .ok (.aload_n 0, 1) := by decide +kernel
theorem dX6_array_79 : decode cX6_array 79 = .ok (.getfield 77, 3) := by decide +kernel
theorem dX6_array_82 : decode cX6_array 82 = .ok (.invokevirtual 99, 3) := by decide +kernel
theorem dX6_array_85 : decode cX6_array 85 = .ok (.pop, 1) := by decide +kernel
theorem dX6_array_86 : decode cX6_array 86 = .ok (.aload_n 0, 1) := by decide +kernel
theorem dX6_array_87 : decode cX6_array 87 = .ok (.dup, 1) := by decide +kernel
theorem dX6_array_88 : decode cX6_array 88 = .ok (.getfield 77, 3) := by decide +kernel
theorem dX6_array_91 : decode cX6_array 91 = .ok (.iconst 1, 1) := by decide +kernel
theorem dX6_array_92 : decode cX6_array 92 = .ok (.iadd, 1) := by decide +kernel
theorem dX6_array_93 : decode cX6_array 93 = .ok (.putfield 77, 3) := by decide +kernel
theorem dX6_array_96 : decode cX6_array 96 = .ok (.aload_n 0, 1) := by decide +kernel
theorem dX6_array_97 : decode cX6_array 97 = .ok (.bipush 81, 2) := by decide +kernel
theorem dX6_array_99 : decode cX6_array 99 = .ok (.invokevirtual 141, 3) := by decide +kernel
theorem dX6_array_102 : decode cX6_array 102 = .ok (.aload_n 0, 1) := by decide +kernel
theorem dX6_array_103 : decode cX6_array 103 = .ok (.bipush 18, 2) := by decide +kernel
theorem dX6_array_105 : decode cX6_array 105 = .ok (.iload_n 3, 1) := by decide +kernel
theorem dX6_array_106 : decode cX6_array 106 = .ok (.iconst 0, 1) := by decide +kernel
theorem dX6_array_107 : decode cX6_array 107 = .ok (.invokevirtual 106, 3) := by decide +kernel
theorem dX6_array_110 : decode cX6_array 110 = .ok (.goto 27, 3) := by decide +kernel
theorem dX6_array_113 : decode cX6_array 113 = .ok (.aload_n 0, 1) := by decide +kernel
theorem dX6_array_114 : decode cX6_array 114 = .ok (.bipush 18, 2) := by decide +kernel
theorem dX6_array_116 : decode cX6_array 116 = .ok (.iload_n 3, 1) := by decide +kernel
theorem dX6_array_117 : decode cX6_array 117 = .ok (.iconst 0, 1) := by decide +kernel
theorem dX6_array_118 : decode cX6_array 118 = .ok (.invokevirtual 106, 3) := by decide +kernel
theorem dX6_array_121 : decode cX6_array 121 = .ok (.aload_n 0, 1) := by decide +kernel
theorem dX6_array_122 : decode cX6_array 122 = .ok (.bipush 7, 2) := by decide +kernel
theorem dX6_array_124 : decode cX6_array 124 = .ok (.bipush 81, 2) := by decide +kernel
theorem dX6_array_126 : decode cX6_array 126 = .ok (.iconst 0, 1) := by decide +kernel
theorem dX6_array_127 : decode cX6_array 127 = .ok (.invokevirtual 106, 3) := by decide +kernel
theorem dX6_array_130 : decode cX6_array 130 = .ok (.aload_n 0, 1) := by decide +kernel
theorem dX6_array_131 : decode cX6_array 131 = .ok (.iload_n 3, 1) := by decide +kernel
theorem dX6_array_132 : decode cX6_array 132 = .ok (.iconst 0, 1) := by decide +kernel
theorem dX6_array_133 : decode cX6_array 133 = .ok (.iconst 1, 1) := by decide +kernel
theorem dX6_array_134 : decode cX6_array 134 = .ok (.invokevirtual 117, 3) := by decide +kernel
theorem dX6_array_137 : decode cX6_array 137 = .ok (.return_, 1) := by decide +kernel
theorem dX6_fields_0 : decode cX6_fields 0 = .ok (.aload_n 0, 1) := by decide +kernel
theorem dX6_fields_1 : decode cX6_fields 1 = .ok (.invokevirtual 83, 3) := by decide +kernel
theorem dX6_fields_4 : decode cX6_fields 4 = .ok (.bipush 83, 2) := by decide +kernel
theorem dX6_fields_6 : decode cX6_fields 6 = .ok (.if_icmp .ne 24, 3) := by decide +kernel
theorem dX6_fields_9 : decode cX6_fields 9 = .ok (.aload_n 0, 1) := by decide +kernel
theorem dX6_fields_10 : decode cX6_fields 10 = .ok (.dup, 1) := by decide +kernel
theorem dX6_fields_11 : decode cX6_fields 11 = .ok (.getfield 77, 3) := by decide +kernel
theorem dX6_fields_14 : decode cX6_fields 14 = .ok (.iconst 1, 1) := by decide +kernel
theorem dX6_fields_15 : decode cX6_fields 15 = .ok (.iadd, 1) := by decide +kernel
theorem dX6_fields_16 : decode cX6_fields 16 = .ok (.putfield 77, 3) := by decide +kernel
theorem dX6_fields_19 : decode cX6_fields 19 = .ok (.aload_n 0, 1) := by decide +kernel
theorem dX6_fields_20 : decode cX6_fields 20 = .ok (.dup, 1) := by decide +kernel
theorem dX6_fields_21 : decode cX6_fields 21 = .ok (.getfield 90, 3) := by decide +kernel
theorem dX6_fields_24 : decode cX6_fields 24 = .ok (.iconst 1, 1) := by decide +kernel
theorem dX6_fields_25 : decode cX6_fields 25 = .ok (.isub, 1) := by decide +kernel
theorem dX6_fields_26 : decode cX6_fields 26 = .ok (.putfield 90, 3) := by decide +kernel
theorem dX6_fields_29 : decode cX6_fields 29 = .ok (.return_, 1) := by decide +kernel
theorem dX6_fields_30 : decode cX6_fields 30 = .ok (.aload_n 0, 1) := by decide +kernel
theorem dX6_fields_31 : decode cX6_fields 31 = .ok (.iload_n 1, 1) := by decide +kernel
theorem dX6_fields_32 : decode cX6_fields 32 = .ok (.bipush 28, 2) := by decide +kernel
theorem dX6_fields_34 : decode cX6_fields 34 = .ok (.aload_n 0, 1) := by decide +kernel
theorem dX6_fields_35 : decode cX6_fields 35 = .ok (.getfield 77, 3) := by decide +kernel
theorem dX6_fields_38 : decode cX6_fields 38 = .ok (.invokevirtual 99, 3) := by decide +kernel
theorem dX6_fields_41 : decode cX6_fields 41 = .ok (.istore_n 2, 1) := by decide +kernel
theorem dX6_fields_42 : decode cX6_fields 42 = .ok (.aload_n 0, 1) := by decide +kernel
theorem dX6_fields_43 : decode cX6_fields 43 = .ok (.bipush 27, 2) := by decide +kernel
theorem dX6_fields_45 : decode cX6_fields 45 = .ok (.iload_n 1, 1) := by decide +kernel
theorem dX6_fields_46 : decode cX6_fields 46 = .ok (.bipush 26, 2) := by decide +kernel
theorem dX6_fields_48 : decode cX6_fields 48 = .ok (.invokevirtual 106, 3) := by decide +kernel
theorem dX6_fields_51 : decode cX6_fields 51 = .ok (.aload_n 0, 1) := by decide +kernel
theorem dX6_fields_52 : decode cX6_fields 52 = .ok (.bipush 18, 2) := by decide +kernel
theorem dX6_fields_54 : decode cX6_fields 54 = .ok (.iload_n 2, 1) := by decide +kernel
theorem dX6_fields_55 : decode cX6_fields 55 = .ok (.iconst 0, 1) := by decide +kernel
theorem dX6_fields_56 : decode cX6_fields 56 = .ok (.invokevirtual 106, 3) := by decide +kernel
theorem dX6_fields_59 : decode cX6_fields 59 = .ok (.aload_n 0, 1) := by decide +kernel
theorem dX6_fields_60 : decode cX6_fields 60 = .ok (.bipush 29, 2) := by decide +kernel
theorem dX6_fields_62 : decode cX6_fields 62 = .ok (.iload_n 2, 1) := by decide +kernel
theorem dX6_fields_63 : decode cX6_fields 63 = .ok (.iconst 0, 1) := by decide +kernel
theorem dX6_fields_64 : decode cX6_fields 64 = .ok (.invokevirtual 106, 3) := by decide +kernel
theorem dX6_fields_67 : decode cX6_fields 67 = .ok (.return_, 1) := by decide +kernel
theorem dX6_methods_0 : decode cX6_methods 0 = .ok (.aload_n 0, 1) := by decide +kernel
theorem dX6_methods_1 : decode cX6_methods 1 = .ok (.invokevirtual 83, 3) := by decide +kernel
theorem dX6_methods_4 : decode cX6_methods 4 = .ok (.bipush 83, 2) := by decide +kernel
theorem dX6_methods_6 : decode cX6_methods 6 = .ok (.if_icmp .ne 24, 3) := by decide +kernel
theorem dX6_methods_9 : decode cX6_methods 9 = .ok (.aload_n 0, 1) := by decide +kernel
theorem dX6_methods_10 : decode cX6_methods 10 = .ok (.dup, 1) := by decide +kernel
theorem dX6_methods_11 : decode cX6_methods 11 = .ok (.getfield 77, 3) := by decide +kernel
theorem dX6_methods_14 : decode cX6_methods 14 = .ok (.iconst 1, 1) := by decide +kernel
theorem dX6_methods_15 : decode cX6_methods 15 = .ok (.iadd, 1) := by decide +kernel
theorem dX6_methods_16 : decode cX6_methods 16 = .ok (.putfield 77, 3) := by decide +kernel
theorem dX6_methods_19 : decode cX6_methods 19 = .ok (.aload_n 0, 1) := by decide +kernel
theorem dX6_methods_20 : decode cX6_methods 20 = .ok (.dup, 1) := by decide +kernel
theorem dX6_methods_21 : decode cX6_methods 21 = .ok (.getfield 90, 3) := by decide +kernel
theorem dX6_methods_24 : decode cX6_methods 24 = .ok (.iconst 1, 1) := by decide +kernel
theorem dX6_methods_25 : decode cX6_methods 25 = .ok (.isub, 1) := by decide +kernel
theorem dX6_methods_26 : decode cX6_methods 26 = .ok (.putfield 90, 3) := by decide +kernel
theorem dX6_methods_29 : decode cX6_methods 29 = .ok (.return_, 1) := by decide +kernel
theorem dX6_methods_30 : decode cX6_methods 30 = .ok (.aload_n 0, 1) := by decide +kernel
theorem dX6_methods_31 : decode cX6_methods 31 = .ok (.iload_n 1, 1) := by decide +kernel
theorem dX6_methods_32 : decode cX6_methods 32 = .ok (.bipush 31, 2) := by decide +kernel
theorem dX6_methods_34 : decode cX6_methods 34 = .ok (.aload_n 0, 1) := by decide +kernel
theorem dX6_methods_35 : decode cX6_methods 35 = .ok (.getfield 77, 3) := by decide +kernel
theorem dX6_methods_38 : decode cX6_methods 38 = .ok (.invokevirtual 99, 3) := by decide +kernel
theorem dX6_methods_41 : decode cX6_methods 41 = .ok (.istore_n 2, 1) := by decide +kernel
theorem dX6_methods_42 : decode cX6_methods 42 = .ok (.aload_n 0, 1) := by decide +kernel
theorem dX6_methods_43 : decode cX6_methods 43 = .ok (.iload_n 2, 1) := by decide +kernel
theorem dX6_methods_44 : decode cX6_methods 44 = .ok (.invokevirtual 130, 3) := by decide +kernel
theorem dX6_methods_47 : decode cX6_methods 47 = .ok (.pop, 1) := by decide +kernel
theorem dX6_methods_48 : decode cX6_methods 48 = .ok (.aload_n 0, 1) := by decide +kernel
theorem dX6_methods_49 : decode cX6_methods 49 = .ok (.bipush 27, 2) := by decide +kernel
theorem dX6_methods_51 : decode cX6_methods 51 = .ok (.iload_n 1, 1) := by decide +kernel
theorem dX6_methods_52 : decode cX6_methods 52 = .ok (.bipush 28, 2) := by decide +kernel
theorem dX6_methods_54 : decode cX6_methods 54 = .ok (.invokevirtual 106, 3) := by decide +kernel
theorem dX6_methods_57 : decode cX6_methods 57 = .ok (.aload_n 0, 1) := by decide +kernel
theorem dX6_methods_58 : decode cX6_methods 58 = .ok (.bipush 21, 2) := by decide +kernel
theorem dX6_methods_60 : decode cX6_methods 60 = .ok (.iload_n 2, 1) := by decide +kernel
theorem dX6_methods_61 : decode cX6_methods 61 = .ok (.iconst 0, 1) := by decide +kernel
theorem dX6_methods_62 : decode cX6_methods 62 = .ok (.invokevirtual 106, 3) := by decide +kernel
theorem dX6_methods_65 : decode cX6_methods 65 = .ok (.return_, 1) := by decide +kernel
theorem dX6_fieldsMore_0 : decode cX6_fieldsMore 0 = .ok (.aload_n 0, 1) := by decide +kernel
theorem dX6_fieldsMore_1 : decode cX6_fieldsMore 1 = .ok (.invokevirtual 83, 3) := by decide +kernel
theorem dX6_fieldsMore_4 : decode cX6_fieldsMore 4 = .ok (.bipush 83, 2) := by decide +kernel
theorem dX6_fieldsMore_6 : decode cX6_fieldsMore 6 = .ok (.if_icmp .eq 9, 3) := by decide +kernel
theorem dX6_fieldsMore_9 : decode cX6_fieldsMore 9 = .ok (.aload_n 0, 1) := by decide +kernel
theorem dX6_fieldsMore_10 : decode cX6_fieldsMore 10 = .ok (.bipush 85, 2) := by decide +kernel
theorem dX6_fieldsMore_12 : decode cX6_fieldsMore 12 = .ok (.invokevirtual 141, 3) := by decide +kernel
theorem dX6_fieldsMore_15 : decode cX6_fieldsMore 15 = .ok (.aload_n 0, 1) := by decide +kernel
theorem dX6_fieldsMore_16 : decode cX6_fieldsMore 16 = .ok (.iload_n 2, 1) := by decide +kernel
theorem dX6_fieldsMore_17 : decode cX6_fieldsMore 17 = .ok (.iload_n 1, 1) := by decide +kernel
theorem dX6_fieldsMore_18 : decode cX6_fieldsMore 18 = .ok (.iconst 0, 1) := by decide +kernel
theorem dX6_fieldsMore_19 : decode cX6_fieldsMore 19 = .ok (.invokevirtual 106, 3) := by decide +kernel
theorem dX6_fieldsMore_22 : decode cX6_fieldsMore 22 = .ok (.return_, 1) := by decide +kernel
theorem dX6_signature_0 : decode cX6_signature 0 = .ok (.aload_n 0, 1) := by decide +kernel
theorem dX6_signature_1 : decode cX6_signature 1 = .ok (.invokevirtual 83, 3) := by decide +kernel
theorem dX6_signature_4 : decode cX6_signature 4 = .ok (.bipush 78, 2) := by decide +kernel
theorem dX6_signature_6 : decode cX6_signature 6 = .ok (.if_icmp .eq 8, 3) := by decide +kernel
theorem dX6_signature_9 : decode cX6_signature 9 = .ok (.aload_n 0, 1) := by decide +kernel
theorem dX6_signature_10 : decode cX6_signature 10 = .ok (.invokevirtual 87, 3) := by decide +kernel
theorem dX6_signature_13 : decode cX6_signature 13 = .ok (.return_, 1) := by decide +kernel
theorem dX6_signature_14 : decode cX6_signature 14 = .ok (.aload_n 0, 1) := by decide +kernel
theorem dX6_signature_15 : decode cX6_signature 15 = .ok (.iload_n 1, 1) := by decide +kernel
theorem dX6_signature_16 : decode cX6_signature 16 = .ok (.bipush 14, 2) := by decide +kernel
theorem dX6_signature_18 : decode cX6_signature 18 = .ok (.aload_n 0, 1) := by decide +kernel
theorem dX6_signature_19 : decode cX6_signature 19 = .ok (.getfield 77, 3) := by decide +kernel
theorem dX6_signature_22 : decode cX6_signature 22 = .ok (.invokevirtual 99, 3) := by decide +kernel
theorem dX6_signature_25 : decode cX6_signature 25 = .ok (.istore_n 2, 1) := by decide +kernel
theorem dX6_signature_26 : decode cX6_signature 26 = .ok (.aload_n 0, 1) := by decide +kernel
theorem dX6_signature_27 : decode cX6_signature 27 = .ok (.bipush 22, 2) := by decide +kernel
theorem dX6_signature_29 : decode cX6_signature 29 = .ok (.iload_n 2, 1) := by decide +kernel
theorem dX6_signature_30 : decode cX6_signature 30 = .ok (.iconst 0, 1) := by decide +kernel
theorem dX6_signature_31 : decode cX6_signature 31 = .ok (.invokevirtual 106, 3) := by decide +kernel
theorem dX6_signature_34 : decode cX6_signature 34 = .ok (.aload_n 0, 1) := by decide +kernel
theorem dX6_signature_35 : decode cX6_signature 35 = .ok (.bipush 23, 2) := by decide +kernel
theorem dX6_signature_37 : decode cX6_signature 37 = .ok (.iload_n 2, 1) := by decide +kernel
theorem dX6_signature_38 : decode cX6_signature 38 = .ok (.iconst 0, 1) := by decide +kernel
theorem dX6_signature_39 : decode cX6_signature 39 = .ok (.invokevirtual 106, 3) := by decide +kernel
theorem dX6_signature_42 : decode cX6_signature 42 = .ok (.return_, 1) := by decide +kernel
theorem dX6_result_0 : decode cX6_result 0 = .ok (.aload_n 0, 1) := by decide +kernel
theorem dX6_result_1 : decode cX6_result 1 = .ok (.invokevirtual 83, 3) := by decide +kernel
theorem dX6_result_4 : decode cX6_result 4 = .ok (.istore_n 2, 1) := by decide +kernel
theorem dX6_result_5 : decode cX6_result 5 = .ok (.iload_n 2, 1) := by decide +kernel
theorem dX6_result_6 : decode cX6_result 6 = .ok (.bipush 78, 2) := by decide +kernel
theorem dX6_result_8 : decode cX6_result 8 = .ok (.if_icmp .ne 14, 3) := by decide +kernel
theorem dX6_result_11 : decode cX6_result 11 = .ok (.aload_n 0, 1) := by decide +kernel
theorem dX6_result_12 : decode cX6_result 12 = .ok (.bipush 23, 2) := by decide +kernel
theorem dX6_result_14 : decode cX6_result 14 = .ok (.iload_n 1, 1) := by decide +kernel
theorem dX6_result_15 : decode cX6_result 15 = .ok (.iconst 0, 1) := by decide +kernel
theorem dX6_result_16 : decode cX6_result 16 = .ok (.invokevirtual 106, 3) := by decide +kernel
theorem dX6_result_19 : decode cX6_result 19 = .ok (.goto 24, 3) := by decide +kernel
theorem dX6_result_22 : decode cX6_result 22 = .ok (.iload_n 2, 1) := by decide +kernel
theorem dX6_result_23 : decode cX6_result 23 = .ok (.invokestatic 150, 3) := by decide +kernel
theorem dX6_result_26 : decode cX6_result 26 = .ok (.ifCond .eq 17, 3) := by decide +kernel
theorem dX6_result_29 : decode cX6_result 29 = .ok (.iload_n 2, 1) := by decide +kernel
theorem dX6_result_30 : decode cX6_result 30 = .ok (.bipush 64, 2) := by decide +kernel
theorem dX6_result_32 : decode cX6_result 32 = .ok (.if_icmp .eq 11, 3) := by decide +kernel
theorem dX6_result_35 : decode cX6_result 35 = .ok (.aload_n 0, 1) := by decide +kernel
theorem dX6_result_36 : decode cX6_result 36 = .ok (.bipush 18, 2) := by decide +kernel
theorem dX6_result_38 : decode cX6_result 38 = .ok (.iload_n 1, 1) := by decide +kernel
theorem dX6_result_39 : decode cX6_result 39 = .ok (.iconst 0, 1) := by decide +kernel
theorem dX6_result_40 : decode cX6_result 40 = .ok (.invokevirtual 106, 3) := by decide +kernel
theorem dX6_result_43 : decode cX6_result 43 = .ok (.return_, 1) := by decide +kernel
theorem dX6_params_0 : decode cX6_params 0 = .ok (.aload_n 0, 1) := by decide +kernel
theorem dX6_params_1 : decode cX6_params 1 = .ok (.iload_n 1, 1) := by decide +kernel
theorem dX6_params_2 : decode cX6_params 2 = .ok (.bipush 15, 2) := by decide +kernel
theorem dX6_params_4 : decode cX6_params 4 = .ok (.aload_n 0, 1) := by decide +kernel
theorem dX6_params_5 : decode cX6_params 5 = .ok (.getfield 77, 3) := by decide +kernel
theorem dX6_params_8 : decode cX6_params 8 = .ok (.invokevirtual 99, 3) := by decide +kernel
theorem dX6_params_11 : decode cX6_params 11 = .ok (.istore_n 2, 1) := by decide +kernel
theorem dX6_params_12 : decode cX6_params 12 = .ok (.aload_n 0, 1) := by decide +kernel
theorem dX6_params_13 : decode cX6_params 13 = .ok (.invokevirtual 123, 3) := by decide +kernel
theorem dX6_params_16 : decode cX6_params 16 = .ok (.aload_n 0, 1) := by decide +kernel
theorem dX6_params_17 : decode cX6_params 17 = .ok (.dup, 1) := by decide +kernel
theorem dX6_params_18 : decode cX6_params 18 = .ok (.getfield 77, 3) := by decide +kernel
theorem dX6_params_21 : decode cX6_params 21 = .ok (.iconst 1, 1) := by decide +kernel
theorem dX6_params_22 : decode cX6_params 22 = .ok (.iadd, 1) := by decide +kernel
theorem dX6_params_23 : decode cX6_params 23 = .ok (.putfield 77, 3) := by decide +kernel
theorem dX6_params_26 : decode cX6_params 26 = .ok (.aload_n 0, 1) := by decide +kernel
theorem dX6_params_27 : decode cX6_params 27 = .ok (.getfield 51, 3) := by decide +kernel
theorem dX6_params_30 : decode cX6_params 30 = .ok (.aload_n 0, 1) := by decide +kernel
theorem dX6_params_31 : decode cX6_params 31 = .ok (.getfield 156, 3) := by decide +kernel
theorem dX6_params_34 : decode cX6_params 34 = .ok (.iconst 1, 1) := by decide +kernel
theorem dX6_params_35 : decode cX6_params 35 = .ok (.bastore, 1) := by decide +kernel
theorem dX6_params_36 : decode cX6_params 36 = .ok (.aload_n 0, 1) := by decide +kernel
theorem dX6_params_37 : decode cX6_params 37 = .ok (.getfield 55, 3) := by decide +kernel
theorem dX6_params_40 : decode cX6_params 40 = .ok (.aload_n 0, 1) := by decide +kernel
theorem dX6_params_41 : decode cX6_params 41 = .ok (.getfield 156, 3) := by decide +kernel
theorem dX6_params_44 : decode cX6_params 44 = .ok (.iconst 1, 1) := by decide +kernel
theorem dX6_params_45 : decode cX6_params 45 = .ok (.bastore, 1) := by decide +kernel
theorem dX6_params_46 : decode cX6_params 46 = .ok (.aload_n 0, 1) := by decide +kernel
theorem dX6_params_47 : decode cX6_params 47 = .ok (.getfield 58, 3) := by decide +kernel
theorem dX6_params_50 : decode cX6_params 50 = .ok (.aload_n 0, 1) := by decide +kernel
theorem dX6_params_51 : decode cX6_params 51 = .ok (.getfield 156, 3) := by decide +kernel
theorem dX6_params_54 : decode cX6_params 54 = .ok (.iconst 0, 1) := by decide +kernel
theorem dX6_params_55 : decode cX6_params 55 = .ok (.iastore, 1) := by decide +kernel
theorem dX6_params_56 : decode cX6_params 56 = .ok (.aload_n 0, 1) := by decide +kernel
theorem dX6_params_57 : decode cX6_params 57 = .ok (.getfield 61, 3) := by decide +kernel
theorem dX6_params_60 : decode cX6_params 60 = .ok (.aload_n 0, 1) := by decide +kernel
theorem dX6_params_61 : decode cX6_params 61 = .ok (.getfield 156, 3) := by decide +kernel
theorem dX6_params_64 : decode cX6_params 64 = .ok (.iconst 0, 1) := by decide +kernel
theorem dX6_params_65 : decode cX6_params 65 = .ok (.bastore, 1) := by decide +kernel
theorem dX6_params_66 : decode cX6_params 66 = .ok (.aload_n 0, 1) := by decide +kernel
theorem dX6_params_67 : decode cX6_params 67 = .ok (.dup, 1) := by decide +kernel
theorem dX6_params_68 : decode cX6_params 68 = .ok (.getfield 156, 3) := by decide +kernel
theorem dX6_params_71 : decode cX6_params 71 = .ok (.iconst 1, 1) := by decide +kernel
theorem dX6_params_72 : decode cX6_params 72 = .ok (.iadd, 1) := by decide +kernel
theorem dX6_params_73 : decode cX6_params 73 = .ok (.putfield 156, 3) := by decide +kernel
theorem dX6_params_76 : decode cX6_params 76 = .ok (.aload_n 0, 1) := by decide +kernel
theorem dX6_params_77 : decode cX6_params 77 = .ok (.bipush 24, 2) := by decide +kernel
theorem dX6_params_79 : decode cX6_params 79 = .ok (.iload_n 2, 1) := by decide +kernel
theorem dX6_params_80 : decode cX6_params 80 = .ok (.iconst 0, 1) := by decide +kernel
theorem dX6_params_81 : decode cX6_params 81 = .ok (.invokevirtual 106, 3) := by decide +kernel
theorem dX6_params_84 : decode cX6_params 84 = .ok (.return_, 1) := by decide +kernel
theorem dX6_param_0 : decode cX6_param 0 = .ok (.aload_n 0, 1) := by decide +kernel
theorem dX6_param_1 : decode cX6_param 1 = .ok (.getfield 156, 3) := by decide +kernel
theorem dX6_param_4 : decode cX6_param 4 = .ok (.iconst 1, 1) := by decide +kernel
theorem dX6_param_5 : decode cX6_param 5 = .ok (.isub, 1) := by decide +kernel
theorem dX6_param_6 : decode cX6_param 6 = .ok (.istore_n 2, 1) := by decide +kernel
theorem dX6_param_7 : decode cX6_param 7 = .ok (.aload_n 0, 1) := by decide +kernel
theorem dX6_param_8 : decode cX6_param 8 = .ok (.invokevirtual 83, 3) := by decide +kernel
theorem dX6_param_11 : decode cX6_param 11 = .ok (.istore_n 3, 1) := by decide +kernel
theorem dX6_param_12 : decode cX6_param 12 = .ok (.iload_n 3, 1) := by decide +kernel
theorem dX6_param_13 : decode cX6_param 13 = .ok (.bipush 79, 2) := by decide +kernel
theorem dX6_param_15 : decode cX6_param 15 = .ok (.if_icmp .ne 52, 3) := by decide +kernel
theorem dX6_param_18 : decode cX6_param 18 = .ok (.aload_n 0, 1) := by decide +kernel
theorem dX6_param_19 : decode cX6_param 19 = .ok (.getfield 55, 3) := by decide +kernel
theorem dX6_param_22 : decode cX6_param 22 = .ok (.iload_n 2, 1) := by decide +kernel
theorem dX6_param_23 : decode cX6_param 23 = .ok (.baload, 1) := by decide +kernel
theorem dX6_param_24 : decode cX6_param 24 = .ok (.ifCond .ne 12, 3) := by decide +kernel
theorem dX6_param_27 : decode cX6_param 27 = .ok (.aload_n 0, 1) := by decide +kernel
theorem dX6_param_28 : decode cX6_param 28 = .ok (.getfield 58, 3) := by decide +kernel
theorem dX6_param_31 : decode cX6_param 31 = .ok (.iload_n 2, 1) := by decide +kernel
theorem dX6_param_32 : decode cX6_param 32 = .ok (.iaload, 1) := by decide +kernel
theorem dX6_param_33 : decode cX6_param 33 = .ok (.ifCond .ne 34, 3) := by decide +kernel
theorem dX6_param_36 : decode cX6_param 36 = .ok (.aload_n 0, 1) := by decide +kernel
theorem dX6_param_37 : decode cX6_param 37 = .ok (.dup, 1) := by decide +kernel
theorem dX6_param_38 : decode cX6_param 38 = .ok (.getfield 77, 3) := by decide +kernel
theorem dX6_param_41 : decode cX6_param 41 = .ok (.iconst 1, 1) := by decide +kernel
theorem dX6_param_42 : decode cX6_param 42 = .ok (.iadd, 1) := by decide +kernel
theorem dX6_param_43 : decode cX6_param 43 = .ok (.putfield 77, 3) := by decide +kernel
theorem dX6_param_46 : decode cX6_param 46 = .ok (.aload_n 0, 1) := by decide +kernel
theorem dX6_param_47 : decode cX6_param 47 = .ok (.dup, 1) := by decide +kernel
theorem dX6_param_48 : decode cX6_param 48 = .ok (.getfield 90, 3) := by decide +kernel
theorem dX6_param_51 : decode cX6_param 51 = .ok (.iconst 1, 1) := by decide +kernel
theorem dX6_param_52 : decode cX6_param 52 = .ok (.isub, 1) := by decide +kernel
theorem dX6_param_53 : decode cX6_param 53 = .ok (.putfield 90, 3) := by decide +kernel
theorem dX6_param_56 : decode cX6_param 56 = .ok (.aload_n 0, 1) := by decide +kernel
theorem dX6_param_57 : decode cX6_param 57 = .ok (.dup, 1) := by decide +kernel
theorem dX6_param_58 : decode cX6_param 58 = .ok (.getfield 156, 3) := by decide +kernel
theorem dX6_param_61 : decode cX6_param 61 = .ok (.iconst 1, 1) := by decide +kernel
theorem dX6_param_62 : decode cX6_param 62 = .ok (.isub, 1) := by decide +kernel
theorem dX6_param_63 : decode cX6_param 63 = .ok (.putfield 156, 3) := by decide +kernel
theorem dX6_param_66 : decode cX6_param 66 = .ok (.return_, 1) := by decide +kernel
theorem dX6_param_67 : decode cX6_param 67 = .ok (.iload_n 3, 1) := by decide +kernel
theorem dX6_param_68 : decode cX6_param 68 = .ok (.iconst 1, 1) := by decide +kernel
theorem dX6_param_69 : decode cX6_param 69 = .ok (.if_icmp .ne 25, 3) := by decide +kernel
theorem dX6_param_72 : decode cX6_param 72 = .ok (.aload_n 0, 1) := by decide +kernel
theorem dX6_param_73 : decode cX6_param 73 = .ok (.invokevirtual 120, 3) := by decide +kernel
theorem dX6_param_76 : decode cX6_param 76 = .ok (.bipush 84, 2) := by decide +kernel
theorem dX6_param_78 : decode cX6_param 78 = .ok (.if_icmp .eq 12, 3) := by decide +kernel
theorem dX6_param_81 : decode cX6_param 81 = .ok (.aload_n 0, 1) := by decide +kernel
theorem dX6_param_82 : decode cX6_param 82 = .ok (.invokevirtual 120, 3) := by decide +kernel
theorem dX6_param_85 : decode cX6_param 85 = .ok (.bipush 79, 2) := by decide +kernel
theorem dX6_param_87 : decode cX6_param 87 = .ok (.if_icmp .ne 7, 3) := by decide +kernel
theorem dX6_param_90 : decode cX6_param 90 = .ok (.iconst 1, 1) := by decide +kernel
theorem dX6_param_91 : decode cX6_param 91 = .ok (.goto 4, 3) := by decide +kernel
theorem dX6_param_94 : decode cX6_param 94 = .ok (.iconst 0, 1) := by decide +kernel
theorem dX6_param_95 : decode cX6_param 95 = .ok (.istore 4, 2) := by decide +kernel
theorem dX6_param_97 : decode cX6_param 97 = .ok (.iload_n 3, 1) := by decide +kernel
theorem dX6_param_98 : decode cX6_param 98 = .ok (.iconst 1, 1) := by decide +kernel
theorem dX6_param_99 : decode cX6_param 99 = .ok (.if_icmp .ne 12, 3) := by decide +kernel
theorem dX6_param_102 : decode cX6_param 102 = .ok (.iload 4, 2) := by decide +kernel
theorem dX6_param_104 : decode cX6_param 104 = .ok (.ifCond .ne 7, 3) := by decide +kernel
theorem dX6_param_107 : decode cX6_param 107 = .ok (.iconst 1, 1) := by decide +kernel
theorem dX6_param_108 : decode cX6_param 108 = .ok (.goto 4, 3) := by decide +kernel
theorem dX6_param_111 : decode cX6_param 111 = .ok (.iconst 0, 1) := by decide +kernel
theorem dX6_param_112 : decode cX6_param 112 = .ok (.istore 5, 2) := by decide +kernel
theorem dX6_param_114 : decode cX6_param 114 = .ok (.aload_n 0, 1) := by decide +kernel
theorem dX6_param_115 : decode cX6_param 115 = .ok (.getfield 61, 3) := by decide +kernel
theorem dX6_param_118 : decode cX6_param 118 = .ok (.iload_n 2, 1) := by decide +kernel
theorem dX6_param_119 : decode cX6_param 119 = .ok (.baload, 1) := by decide +kernel
theorem dX6_param_120 : decode cX6_param 120 = .ok (.ifCond .ne 49, 3) := by decide +kernel
theorem dX6_param_123 : decode cX6_param 123 = .ok (.iload_n 3, 1) := by decide +kernel
theorem dX6_param_124 : decode cX6_param 124 = .ok (.iconst 1, 1) := by decide +kernel
theorem dX6_param_125 : decode cX6_param 125 = .ok (.if_icmp .eq 12, 3) := by decide +kernel
theorem dX6_param_128 : decode cX6_param 128 = .ok (.aload_n 0, 1) := by decide +kernel
theorem dX6_param_129 : decode cX6_param 129 = .ok (.getfield 55, 3) := by decide +kernel
theorem dX6_param_132 : decode cX6_param 132 = .ok (.iload_n 2, 1) := by decide +kernel
theorem dX6_param_133 : decode cX6_param 133 = .ok (.baload, 1) := by decide +kernel
theorem dX6_param_134 : decode cX6_param 134 = .ok (.ifCond .eq 35, 3) := by decide +kernel
theorem dX6_param_137 : decode cX6_param 137 = .ok (.iload_n 3, 1) := by decide +kernel
theorem dX6_param_138 : decode cX6_param 138 = .ok (.iconst 1, 1) := by decide +kernel
theorem dX6_param_139 : decode cX6_param 139 = .ok (.if_icmp .eq 16, 3) := by decide +kernel
theorem dX6_param_142 : decode cX6_param 142 = .ok (.iload_n 3, 1) := by decide +kernel
theorem dX6_param_143 : decode cX6_param 143 = .ok (.bipush 77, 2) := by decide +kernel
theorem dX6_param_145 : decode cX6_param 145 = .ok (.if_icmp .eq 10, 3) := by decide +kernel
theorem dX6_param_148 : decode cX6_param 148 = .ok (.iload_n 3, 1) := by decide +kernel
theorem dX6_param_149 : decode cX6_param 149 = .ok (.invokestatic 150, 3) := by decide +kernel
theorem dX6_param_152 : decode cX6_param 152 = .ok (.ifCond .eq 17, 3) := by decide +kernel
theorem dX6_param_155 : decode cX6_param 155 = .ok (.iload 5, 2) := by decide +kernel
theorem dX6_param_157 : decode cX6_param 157 = .ok (.ifCond .eq 41, 3) := by decide +kernel
theorem dX6_param_160 : decode cX6_param 160 = .ok (.aload_n 0, 1) := by decide +kernel
theorem dX6_param_161 : decode cX6_param 161 = .ok (.getfield 51, 3) := by decide +kernel
theorem dX6_param_164 : decode cX6_param 164 = .ok (.iload_n 2, 1) := by decide +kernel
theorem dX6_param_165 : decode cX6_param 165 = .ok (.baload, 1) := by decide +kernel
theorem dX6_param_166 : decode cX6_param 166 = .ok (.ifCond .ne 32, 3) := by decide +kernel
theorem dX6_param_169 : decode cX6_param 169 = .ok (.iload 5, 2) := by decide +kernel
theorem dX6_param_171 : decode cX6_param 171 = .ok (.ifCond .eq 22, 3) := by decide +kernel
theorem dX6_param_174 : decode cX6_param 174 = .ok (.aload_n 0, 1) := by decide +kernel
theorem dX6_param_175 : decode cX6_param 175 = .ok (.getfield 61, 3) := by decide +kernel
theorem dX6_param_178 : decode cX6_param 178 = .ok (.iload_n 2, 1) := by decide +kernel
theorem dX6_param_179 : decode cX6_param 179 = .ok (.baload, 1) := by decide +kernel
theorem dX6_param_180 : decode cX6_param 180 = .ok (.ifCond .ne 13, 3) := by decide +kernel
theorem dX6_param_183 : decode cX6_param 183 = .ok (.aload_n 0, 1) := by decide +kernel
theorem dX6_param_184 : decode cX6_param 184 = .ok (.dup, 1) := by decide +kernel
theorem dX6_param_185 : decode cX6_param 185 = .ok (.getfield 77, 3) := by decide +kernel
theorem dX6_param_188 : decode cX6_param 188 = .ok (.iconst 1, 1) := by decide +kernel
theorem dX6_param_189 : decode cX6_param 189 = .ok (.iadd, 1) := by decide +kernel
theorem dX6_param_190 : decode cX6_param 190 = .ok (.putfield 77, 3) := by decide +kernel
theorem dX6_param_193 : decode cX6_param 193 = .ok (.aload_n 0, 1) := by decide +kernel
theorem dX6_param_194 : decode cX6_param 194 = .ok (.invokevirtual 87, 3) := by decide +kernel
theorem dX6_param_197 : decode cX6_param 197 = .ok (.return_, 1) := by decide +kernel
theorem dX6_param_198 : decode cX6_param 198 = .ok (.aload_n 0, 1) := by decide +kernel
theorem dX6_param_199 : decode cX6_param 199 = .ok (.iload_n 1, 1) := by decide +kernel
theorem dX6_param_200 : decode cX6_param 200 = .ok (.bipush 16, 2) := by decide +kernel
theorem dX6_param_202 : decode cX6_param 202 = .ok (.aload_n 0, 1) := by decide +kernel
theorem dX6_param_203 : decode cX6_param 203 = .ok (.getfield 77, 3) := by decide +kernel
theorem dX6_param_206 : decode cX6_param 206 = .ok (.invokevirtual 99, 3) := by decide +kernel
theorem dX6_param_209 : decode cX6_param 209 = .ok (.istore 6, 2) := by decide +kernel
theorem dX6_param_211 : decode cX6_param 211 = .ok (.aload_n 0, 1) := by decide +kernel
theorem dX6_param_212 : decode cX6_param 212 = .ok (.bipush 25, 2) := by decide +kernel
theorem dX6_param_214 : decode cX6_param 214 = .ok (.iload_n 1, 1) := by decide +kernel
theorem dX6_param_215 : decode cX6_param 215 = .ok (.iconst 0, 1) := by decide +kernel
theorem dX6_param_216 : decode cX6_param 216 = .ok (.invokevirtual 106, 3) := by decide +kernel
theorem dX6_param_219 : decode cX6_param 219 = .ok (.iload 4, 2) := by decide +kernel
theorem dX6_param_221 : decode cX6_param 221 = .ok (.ifCond .eq 21, 3) := by decide +kernel
theorem dX6_param_224 : decode cX6_param 224 = .ok (.aload_n 0, 1) := by decide +kernel
theorem dX6_param_225 : decode cX6_param 225 = .ok (.iload 6, 2) := by decide +kernel
theorem dX6_param_227 : decode cX6_param 227 = .ok (.invokevirtual 130, 3) := by decide +kernel
theorem dX6_param_230 : decode cX6_param 230 = .ok (.pop, 1) := by decide +kernel
theorem dX6_param_231 : decode cX6_param 231 = .ok (.aload_n 0, 1) := by decide +kernel
theorem dX6_param_232 : decode cX6_param 232 = .ok (.getfield 58, 3) := by decide +kernel
theorem dX6_param_235 : decode cX6_param 235 = .ok (.iload_n 2, 1) := by decide +kernel
theorem dX6_param_236 : decode cX6_param 236 = .ok (.dup2, 1) := by decide +kernel
theorem dX6_param_237 : decode cX6_param 237 = .ok (.iaload, 1) := by decide +kernel
theorem dX6_param_238 : decode cX6_param 238 = .ok (.iconst 1, 1) := by decide +kernel
theorem dX6_param_239 : decode cX6_param 239 = .ok (.iadd, 1) := by decide +kernel
theorem dX6_param_240 : decode cX6_param 240 = .ok (.iastore, 1) := by decide +kernel
theorem dX6_param_241 : decode cX6_param 241 = .ok (.return_, 1) := by decide +kernel
theorem dX6_param_242 : decode cX6_param 242 = .ok (.iload 5, 2) := by decide +kernel
theorem dX6_param_244 : decode cX6_param 244 = .ok (.ifCond .eq 49, 3) := by decide +kernel
theorem dX6_param_247 : decode cX6_param 247 = .ok (.aload_n 0, 1) := by decide +kernel
theorem dX6_param_248 : decode cX6_param 248 = .ok (.iload 6, 2) := by decide +kernel
theorem dX6_param_250 : decode cX6_param 250 = .ok (.invokevirtual 130, 3) := by decide +kernel
theorem dX6_param_253 : decode cX6_param 253 = .ok (.pop, 1) := by decide +kernel
theorem dX6_param_254 : decode cX6_param 254 = .ok (.aload_n 0, 1) := by decide +kernel
theorem dX6_param_255 : decode cX6_param 255 = .ok (.getfield 55, 3) := by decide +kernel
theorem dX6_param_258 : decode cX6_param 258 = .ok (.iload_n 2, 1) := by decide +kernel
theorem dX6_param_259 : decode cX6_param 259 = .ok (.iconst 0, 1) := by decide +kernel
theorem dX6_param_260 : decode cX6_param 260 = .ok (.bastore, 1) := by decide +kernel
theorem dX6_param_261 : decode cX6_param 261 = .ok (.aload_n 0, 1) := by decide +kernel
theorem dX6_param_262 : decode cX6_param 262 = .ok (.invokevirtual 83, 3) := by decide +kernel
theorem dX6_param_265 : decode cX6_param 265 = .ok (.bipush 77, 2) := by decide +kernel
theorem dX6_param_267 : decode cX6_param 267 = .ok (.if_icmp .ne 16, 3) := by decide +kernel
theorem dX6_param_270 : decode cX6_param 270 = .ok (.aload_n 0, 1) := by decide +kernel
theorem dX6_param_271 : decode cX6_param 271 = .ok (.getfield 58, 3) := by decide +kernel
theorem dX6_param_274 : decode cX6_param 274 = .ok (.iload_n 2, 1) := by decide +kernel
theorem dX6_param_275 : decode cX6_param 275 = .ok (.iaload, 1) := by decide +kernel
theorem dX6_param_276 : decode cX6_param 276 = .ok (.ifCond .le 7, 3) := by decide +kernel
theorem dX6_param_279 : decode cX6_param 279 = .ok (.aload_n 0, 1) := by decide +kernel
theorem dX6_param_280 : decode cX6_param 280 = .ok (.invokevirtual 87, 3) := by decide +kernel
theorem dX6_param_283 : decode cX6_param 283 = .ok (.aload_n 0, 1) := by decide +kernel
theorem dX6_param_284 : decode cX6_param 284 = .ok (.getfield 58, 3) := by decide +kernel
theorem dX6_param_287 : decode cX6_param 287 = .ok (.iload_n 2, 1) := by decide +kernel
theorem dX6_param_288 : decode cX6_param 288 = .ok (.iconst 0, 1) := by decide +kernel
theorem dX6_param_289 : decode cX6_param 289 = .ok (.iastore, 1) := by decide +kernel
theorem dX6_param_290 : decode cX6_param 290 = .ok (.goto 10, 3) := by decide +kernel
theorem dX6_param_293 : decode cX6_param 293 = .ok (.aload_n 0, 1) := by decide +kernel
theorem dX6_param_294 : decode cX6_param 294 = .ok (.getfield 51, 3) := by decide +kernel
theorem dX6_param_297 : decode cX6_param 297 = .ok (.iload_n 2, 1) := by decide +kernel
theorem dX6_param_298 : decode cX6_param 298 = .ok (.iconst 0, 1) := by decide +kernel
theorem dX6_param_299 : decode cX6_param 299 = .ok (.bastore, 1) := by decide +kernel
theorem dX6_param_300 : decode cX6_param 300 = .ok (.aload_n 0, 1) := by decide +kernel
theorem dX6_param_301 : decode cX6_param 301 = .ok (.invokevirtual 83, 3) := by decide +kernel
theorem dX6_param_304 : decode cX6_param 304 = .ok (.bipush 77, 2) := by decide +kernel
theorem dX6_param_306 : decode cX6_param 306 = .ok (.if_icmp .ne 33, 3) := by decide +kernel
theorem dX6_param_309 : decode cX6_param 309 = .ok (.aload_n 0, 1) := by decide +kernel
theorem dX6_param_310 : decode cX6_param 310 = .ok (.iload 6, 2) := by decide +kernel
theorem dX6_param_312 : decode cX6_param 312 = .ok (.bipush 17, 2) := by decide +kernel
theorem dX6_param_314 : decode cX6_param 314 = .ok (.aload_n 0, 1) := by decide +kernel
theorem dX6_param_315 : decode cX6_param 315 = .ok (.getfield 77, 3) := by decide +kernel
theorem dX6_param_318 : decode cX6_param 318 = .ok (.invokevirtual 99, 3) := by decide +kernel
theorem dX6_param_321 : decode cX6_param 321 = .ok (.pop, 1) := by decide +kernel
theorem dX6_param_322 : decode cX6_param 322 = .ok (.aload_n 0, 1) := by decide +kernel
theorem dX6_param_323 : decode cX6_param 323 = .ok (.dup, 1) := by decide +kernel
theorem dX6_param_324 : decode cX6_param 324 = .ok (.getfield 77, 3) := by decide +kernel
theorem dX6_param_327 : decode cX6_param 327 = .ok (.iconst 1, 1) := by decide +kernel
theorem dX6_param_328 : decode cX6_param 328 = .ok (.iadd, 1) := by decide +kernel
theorem dX6_param_329 : decode cX6_param 329 = .ok (.putfield 77, 3) := by decide +kernel
theorem dX6_param_332 : decode cX6_param 332 = .ok (.aload_n 0, 1) := by decide +kernel
theorem dX6_param_333 : decode cX6_param 333 = .ok (.getfield 61, 3) := by decide +kernel
theorem dX6_param_336 : decode cX6_param 336 = .ok (.iload_n 2, 1) := by decide +kernel
theorem dX6_param_337 : decode cX6_param 337 = .ok (.iconst 1, 1) := by decide +kernel
theorem dX6_param_338 : decode cX6_param 338 = .ok (.bastore, 1) := by decide +kernel
theorem dX6_param_339 : decode cX6_param 339 = .ok (.aload_n 0, 1) := by decide +kernel
theorem dX6_param_340 : decode cX6_param 340 = .ok (.bipush 18, 2) := by decide +kernel
theorem dX6_param_342 : decode cX6_param 342 = .ok (.iload 6, 2) := by decide +kernel
theorem dX6_param_344 : decode cX6_param 344 = .ok (.iconst 0, 1) := by decide +kernel
theorem dX6_param_345 : decode cX6_param 345 = .ok (.invokevirtual 106, 3) := by decide +kernel
theorem dX6_param_348 : decode cX6_param 348 = .ok (.return_, 1) := by decide +kernel
theorem dX6_paramMore_0 : decode cX6_paramMore 0 = .ok (.aload_n 0, 1) := by decide +kernel
theorem dX6_paramMore_1 : decode cX6_paramMore 1 = .ok (.getfield 156, 3) := by decide +kernel
theorem dX6_paramMore_4 : decode cX6_paramMore 4 = .ok (.iconst 1, 1) := by decide +kernel
theorem dX6_paramMore_5 : decode cX6_paramMore 5 = .ok (.isub, 1) := by decide +kernel
theorem dX6_paramMore_6 : decode cX6_paramMore 6 = .ok (.istore_n 2, 1) := by decide +kernel
theorem dX6_paramMore_7 : decode cX6_paramMore 7 = .ok (.aload_n 0, 1) := by decide +kernel
theorem dX6_paramMore_8 : decode cX6_paramMore 8 = .ok (.invokevirtual 83, 3) := by decide +kernel
theorem dX6_paramMore_11 : decode cX6_paramMore 11 = .ok (.bipush 84, 2) := by decide +kernel
theorem dX6_paramMore_13 : decode cX6_paramMore 13 = .ok (.if_icmp .ne 16, 3) := by decide +kernel
theorem dX6_paramMore_16 : decode cX6_paramMore 16 = .ok (.aload_n 0, 1) := by decide +kernel
theorem dX6_paramMore_17 : decode cX6_paramMore 17 = .ok (.dup, 1) := by decide +kernel
theorem dX6_paramMore_18 : decode cX6_paramMore 18 = .ok (.getfield 77, 3) := by decide +kernel
theorem dX6_paramMore_21 : decode cX6_paramMore 21 = .ok (.iconst 1, 1) := by decide +kernel
theorem dX6_paramMore_22 : decode cX6_paramMore 22 = .ok (.iadd, 1) := by decide +kernel
theorem dX6_paramMore_23 : decode cX6_paramMore 23 = .ok (.putfield 77, 3) := by decide +kernel
theorem dX6_paramMore_26 : decode cX6_paramMore 26 = .ok (.goto 34, 3) := by decide +kernel
theorem dX6_paramMore_29 : decode cX6_paramMore 29 = .ok (.aload_n 0, 1) := by decide +kernel
theorem dX6_paramMore_30 : decode cX6_paramMore 30 = .ok (.invokevirtual 83, 3) := by decide +kernel
theorem dX6_paramMore_33 : decode cX6_paramMore 33 = .ok (.bipush 79, 2) := by decide +kernel
theorem dX6_paramMore_35 : decode cX6_paramMore 35 = .ok (.if_icmp .ne 21, 3) := by decide +kernel
theorem dX6_paramMore_38 : decode cX6_paramMore 38 = .ok (.aload_n 0, 1) := by decide +kernel
theorem dX6_paramMore_39 : decode cX6_paramMore 39 = .ok (.getfield 55, 3) := by decide +kernel
theorem dX6_paramMore_42 : decode cX6_paramMore 42 = .ok (.iload_n 2, 1) := by decide +kernel
theorem dX6_paramMore_43 : decode cX6_paramMore 43 = .ok (.baload, 1) := by decide +kernel
theorem dX6_paramMore_44 : decode cX6_paramMore 44 = .ok (.ifCond .ne 16, 3) := by decide +kernel
theorem dX6_paramMore_47 : decode cX6_paramMore 47 = .ok (.aload_n 0, 1) := by decide +kernel
theorem dX6_paramMore_48 : decode cX6_paramMore 48 = .ok (.getfield 58, 3) := by decide +kernel
theorem dX6_paramMore_51 : decode cX6_paramMore 51 = .ok (.iload_n 2, 1) := by decide +kernel
theorem dX6_paramMore_52 : decode cX6_paramMore 52 = .ok (.iaload, 1) := by decide +kernel
theorem dX6_paramMore_53 : decode cX6_paramMore 53 = .ok (.ifCond .le 7, 3) := by decide +kernel
theorem dX6_paramMore_56 : decode cX6_paramMore 56 = .ok (.aload_n 0, 1) := by decide +kernel
theorem dX6_paramMore_57 : decode cX6_paramMore 57 = .ok (.invokevirtual 87, 3) := by decide +kernel
theorem dX6_paramMore_60 : decode cX6_paramMore 60 = .ok (.aload_n 0, 1) := by decide +kernel
theorem dX6_paramMore_61 : decode cX6_paramMore 61 = .ok (.bipush 24, 2) := by decide +kernel
theorem dX6_paramMore_63 : decode cX6_paramMore 63 = .ok (.iload_n 1, 1) := by decide +kernel
theorem dX6_paramMore_64 : decode cX6_paramMore 64 = .ok (.iconst 0, 1) := by decide +kernel
theorem dX6_paramMore_65 : decode cX6_paramMore 65 = .ok (.invokevirtual 106, 3) := by decide +kernel
theorem dX6_paramMore_68 : decode cX6_paramMore 68 = .ok (.return_, 1) := by decide +kernel
theorem dX6_names_0 : decode cX6_names 0 = .ok (.aload_n 0, 1) := by decide +kernel
theorem dX6_names_1 : decode cX6_names 1 = .ok (.iload_n 1, 1) := by decide +kernel
theorem dX6_names_2 : decode cX6_names 2 = .ok (.bipush 12, 2) := by decide +kernel
theorem dX6_names_4 : decode cX6_names 4 = .ok (.aload_n 0, 1) := by decide +kernel
theorem dX6_names_5 : decode cX6_names 5 = .ok (.getfield 77, 3) := by decide +kernel
theorem dX6_names_8 : decode cX6_names 8 = .ok (.invokevirtual 99, 3) := by decide +kernel
theorem dX6_names_11 : decode cX6_names 11 = .ok (.istore_n 2, 1) := by decide +kernel
theorem dX6_names_12 : decode cX6_names 12 = .ok (.aload_n 0, 1) := by decide +kernel
theorem dX6_names_13 : decode cX6_names 13 = .ok (.iload_n 2, 1) := by decide +kernel
theorem dX6_names_14 : decode cX6_names 14 = .ok (.invokevirtual 130, 3) := by decide +kernel
theorem dX6_names_17 : decode cX6_names 17 = .ok (.pop, 1) := by decide +kernel
theorem dX6_names_18 : decode cX6_names 18 = .ok (.aload_n 0, 1) := by decide +kernel
theorem dX6_names_19 : decode cX6_names 19 = .ok (.bipush 30, 2) := by decide +kernel
theorem dX6_names_21 : decode cX6_names 21 = .ok (.iload_n 2, 1) := by decide +kernel
theorem dX6_names_22 : decode cX6_names 22 = .ok (.iconst 0, 1) := by decide +kernel
theorem dX6_names_23 : decode cX6_names 23 = .ok (.invokevirtual 106, 3) := by decide +kernel
theorem dX6_names_26 : decode cX6_names 26 = .ok (.return_, 1) := by decide +kernel
theorem dX6_namesMore_0 : decode cX6_namesMore 0 = .ok (.aload_n 0, 1) := by decide +kernel
theorem dX6_namesMore_1 : decode cX6_namesMore 1 = .ok (.invokevirtual 83, 3) := by decide +kernel
theorem dX6_namesMore_4 : decode cX6_namesMore 4 = .ok (.bipush 84, 2) := by decide +kernel
theorem dX6_namesMore_6 : decode cX6_namesMore 6 = .ok (.if_icmp .eq 4, 3) := by decide +kernel
theorem dX6_namesMore_9 : decode cX6_namesMore 9 = .ok (.return_, 1) := by decide +kernel
theorem dX6_namesMore_10 : decode cX6_namesMore 10 = .ok (.aload_n 0, 1) := by decide +kernel
theorem dX6_namesMore_11 : decode cX6_namesMore 11 = .ok (.dup, 1) := by decide +kernel
theorem dX6_namesMore_12 : decode cX6_namesMore 12 = .ok (.getfield 77, 3) := by decide +kernel
theorem dX6_namesMore_15 : decode cX6_namesMore 15 = .ok (.iconst 1, 1) := by decide +kernel
theorem dX6_namesMore_16 : decode cX6_namesMore 16 = .ok (.iadd, 1) := by decide +kernel
theorem dX6_namesMore_17 : decode cX6_namesMore 17 = .ok (.putfield 77, 3) := by decide +kernel
theorem dX6_namesMore_20 : decode cX6_namesMore 20 = .ok (.aload_n 0, 1) := by decide +kernel
theorem dX6_namesMore_21 : decode cX6_namesMore 21 = .ok (.iload_n 1, 1) := by decide +kernel
theorem dX6_namesMore_22 : decode cX6_namesMore 22 = .ok (.invokevirtual 130, 3) := by decide +kernel
theorem dX6_namesMore_25 : decode cX6_namesMore 25 = .ok (.pop, 1) := by decide +kernel
theorem dX6_namesMore_26 : decode cX6_namesMore 26 = .ok (.aload_n 0, 1) := by decide +kernel
theorem dX6_namesMore_27 : decode cX6_namesMore 27 = .ok (.bipush 30, 2) := by decide +kernel
theorem dX6_namesMore_29 : decode cX6_namesMore 29 = .ok (.iload_n 1, 1) := by decide +kernel
theorem dX6_namesMore_30 : decode cX6_namesMore 30 = .ok (.iconst 0, 1) := by decide +kernel
theorem dX6_namesMore_31 : decode cX6_namesMore 31 = .ok (.invokevirtual 106, 3) := by decide +kernel
theorem dX6_namesMore_34 : decode cX6_namesMore 34 = .ok (.return_, 1) := by decide +kernel
theorem dX6_exprs_0 : decode cX6_exprs 0 = .ok (.aload_n 0, 1) := by decide +kernel
theorem dX6_exprs_1 : decode cX6_exprs 1 = .ok (.iload_n 1, 1) := by decide +kernel
theorem dX6_exprs_2 : decode cX6_exprs 2 = .ok (.bipush 13, 2) := by decide +kernel
theorem dX6_exprs_4 : decode cX6_exprs 4 = .ok (.aload_n 0, 1) := by decide +kernel
theorem dX6_exprs_5 : decode cX6_exprs 5 = .ok (.getfield 77, 3) := by decide +kernel
theorem dX6_exprs_8 : decode cX6_exprs 8 = .ok (.invokevirtual 99, 3) := by decide +kernel
theorem dX6_exprs_11 : decode cX6_exprs 11 = .ok (.istore_n 3, 1) := by decide +kernel
theorem dX6_exprs_12 : decode cX6_exprs 12 = .ok (.aload_n 0, 1) := by decide +kernel
theorem dX6_exprs_13 : decode cX6_exprs 13 = .ok (.bipush 32, 2) := by decide +kernel
theorem dX6_exprs_15 : decode cX6_exprs 15 = .ok (.iload_n 3, 1) := by decide +kernel
theorem dX6_exprs_16 : decode cX6_exprs 16 = .ok (.iload_n 2, 1) := by decide +kernel
theorem dX6_exprs_17 : decode cX6_exprs 17 = .ok (.iconst 1, 1) := by decide +kernel
theorem dX6_exprs_18 : decode cX6_exprs 18 = .ok (.iand, 1) := by decide +kernel
theorem dX6_exprs_19 : decode cX6_exprs 19 = .ok (.invokevirtual 106, 3) := by decide +kernel
theorem dX6_exprs_22 : decode cX6_exprs 22 = .ok (.aload_n 0, 1) := by decide +kernel
theorem dX6_exprs_23 : decode cX6_exprs 23 = .ok (.iload_n 3, 1) := by decide +kernel
theorem dX6_exprs_24 : decode cX6_exprs 24 = .ok (.iload_n 2, 1) := by decide +kernel
theorem dX6_exprs_25 : decode cX6_exprs 25 = .ok (.iconst 1, 1) := by decide +kernel
theorem dX6_exprs_26 : decode cX6_exprs 26 = .ok (.iand, 1) := by decide +kernel
theorem dX6_exprs_27 : decode cX6_exprs 27 = .ok (.iconst 1, 1) := by decide +kernel
theorem dX6_exprs_28 : decode cX6_exprs 28 = .ok (.invokevirtual 117, 3) := by decide +kernel
theorem dX6_exprs_31 : decode cX6_exprs 31 = .ok (.return_, 1) := by decide +kernel
theorem dX6_exprsMore_0 : decode cX6_exprsMore 0 = .ok (.aload_n 0, 1) := by decide +kernel
theorem dX6_exprsMore_1 : decode cX6_exprsMore 1 = .ok (.invokevirtual 83, 3) := by decide +kernel
theorem dX6_exprsMore_4 : decode cX6_exprsMore 4 = .ok (.bipush 84, 2) := by decide +kernel
theorem dX6_exprsMore_6 : decode cX6_exprsMore 6 = .ok (.if_icmp .eq 4, 3) := by decide +kernel
theorem dX6_exprsMore_9 : decode cX6_exprsMore 9 = .ok (.return_, 1) := by decide +kernel
theorem dX6_exprsMore_10 : decode cX6_exprsMore 10 = .ok (.aload_n 0, 1) := by decide +kernel
theorem dX6_exprsMore_11 : decode cX6_exprsMore 11 = .ok (.dup, 1) := by decide +kernel
theorem dX6_exprsMore_12 : decode cX6_exprsMore 12 = .ok (.getfield 77, 3) := by decide +kernel
theorem dX6_exprsMore_15 : decode cX6_exprsMore 15 = .ok (.iconst 1, 1) := by decide +kernel
theorem dX6_exprsMore_16 : decode cX6_exprsMore 16 = .ok (.iadd, 1) := by decide +kernel
theorem dX6_exprsMore_17 : decode cX6_exprsMore 17 = .ok (.putfield 77, 3) := by decide +kernel
theorem dX6_exprsMore_20 : decode cX6_exprsMore 20 = .ok (.aload_n 0, 1) := by decide +kernel
theorem dX6_exprsMore_21 : decode cX6_exprsMore 21 = .ok (.bipush 32, 2) := by decide +kernel
theorem dX6_exprsMore_23 : decode cX6_exprsMore 23 = .ok (.iload_n 1, 1) := by decide +kernel
theorem dX6_exprsMore_24 : decode cX6_exprsMore 24 = .ok (.iload_n 2, 1) := by decide +kernel
theorem dX6_exprsMore_25 : decode cX6_exprsMore 25 = .ok (.invokevirtual 106, 3) := by decide +kernel
theorem dX6_exprsMore_28 : decode cX6_exprsMore 28 = .ok (.aload_n 0, 1) := by decide +kernel
theorem dX6_exprsMore_29 : decode cX6_exprsMore 29 = .ok (.iload_n 1, 1) := by decide +kernel
theorem dX6_exprsMore_30 : decode cX6_exprsMore 30 = .ok (.iload_n 2, 1) := by decide +kernel
theorem dX6_exprsMore_31 : decode cX6_exprsMore 31 = .ok (.iconst 1, 1) := by decide +kernel
theorem dX6_exprsMore_32 : decode cX6_exprsMore 32 = .ok (.iand, 1) := by decide +kernel
theorem dX6_exprsMore_33 : decode cX6_exprsMore 33 = .ok (.iconst 1, 1) := by decide +kernel
theorem dX6_exprsMore_34 : decode cX6_exprsMore 34 = .ok (.invokevirtual 117, 3) := by decide +kernel
theorem dX6_exprsMore_37 : decode cX6_exprsMore 37 = .ok (.return_, 1) := by decide +kernel
theorem dX6_declaration_0 : decode cX6_declaration 0 = .ok (.aload_n 0, 1) := by decide +kernel
theorem dX6_declaration_1 : decode cX6_declaration 1 = .ok (.invokevirtual 83, 3) := by decide +kernel
theorem dX6_declaration_4 : decode cX6_declaration 4 = .ok (.bipush 13, 2) := by decide +kernel
theorem dX6_declaration_6 : decode cX6_declaration 6 = .ok (.if_icmp .ne 8, 3) := by decide +kernel
theorem dX6_declaration_9 : decode cX6_declaration 9 = .ok (.bipush 6, 2) := by decide +kernel
theorem dX6_declaration_11 : decode cX6_declaration 11 = .ok (.goto 19, 3) := by decide +kernel
theorem dX6_declaration_14 : decode cX6_declaration 14 = .ok (.aload_n 0, 1) := by decide +kernel
theorem dX6_declaration_15 : decode cX6_declaration 15 = .ok (.invokevirtual 83, 3) := by decide +kernel
theorem dX6_declaration_18 : decode cX6_declaration 18 = .ok (.bipush 33, 2) := by decide +kernel
theorem dX6_declaration_20 : decode cX6_declaration 20 = .ok (.if_icmp .ne 8, 3) := by decide +kernel
theorem dX6_declaration_23 : decode cX6_declaration 23 = .ok (.bipush 7, 2) := by decide +kernel
theorem dX6_declaration_25 : decode cX6_declaration 25 = .ok (.goto 5, 3) := by decide +kernel
theorem dX6_declaration_28 : decode cX6_declaration 28 = .ok (.bipush 8, 2) := by decide +kernel
theorem dX6_declaration_30 : decode cX6_declaration 30 = .ok (.istore_n 2, 1) := by decide +kernel
theorem dX6_declaration_31 : decode cX6_declaration 31 = .ok (.aload_n 0, 1) := by decide +kernel
theorem dX6_declaration_32 : decode cX6_declaration 32 = .ok (.iload_n 1, 1) := by decide +kernel
theorem dX6_declaration_33 : decode cX6_declaration 33 = .ok (.iload_n 2, 1) := by decide +kernel
theorem dX6_declaration_34 : decode cX6_declaration 34 = .ok (.aload_n 0, 1) := by decide +kernel
theorem dX6_declaration_35 : decode cX6_declaration 35 = .ok (.getfield 77, 3) := by decide +kernel
theorem dX6_declaration_38 : decode cX6_declaration 38 = .ok (.invokevirtual 99, 3) := by decide +kernel
theorem dX6_declaration_41 : decode cX6_declaration 41 = .ok (.istore_n 3, 1) := by decide +kernel
theorem dX6_declaration_42 : decode cX6_declaration 42 = .ok (.aload_n 0, 1) := by decide +kernel
theorem dX6_declaration_43 : decode cX6_declaration 43 = .ok (.dup, 1) := by decide +kernel
theorem dX6_declaration_44 : decode cX6_declaration 44 = .ok (.getfield 77, 3) := by decide +kernel
theorem dX6_declaration_47 : decode cX6_declaration 47 = .ok (.iconst 1, 1) := by decide +kernel
theorem dX6_declaration_48 : decode cX6_declaration 48 = .ok (.iadd, 1) := by decide +kernel
theorem dX6_declaration_49 : decode cX6_declaration 49 = .ok (.putfield 77, 3) := by decide +kernel
theorem dX6_declaration_52 : decode cX6_declaration 52 = .ok (.aload_n 0, 1) := by decide +kernel
theorem dX6_declaration_53 : decode cX6_declaration 53 = .ok (.invokevirtual 83, 3) := by decide +kernel
theorem dX6_declaration_56 : decode cX6_declaration 56 = .ok (.bipush 78, 2) := by decide +kernel
theorem dX6_declaration_58 : decode cX6_declaration 58 = .ok (.if_icmp .eq 12, 3) := by decide +kernel
theorem dX6_declaration_61 : decode cX6_declaration 61 = .ok (.aload_n 0, 1) := by decide +kernel
theorem dX6_declaration_62 : decode cX6_declaration 62 = .ok (.bipush 33, 2) := by decide +kernel
theorem dX6_declaration_64 : decode cX6_declaration 64 = .ok (.iload_n 3, 1) := by decide +kernel
theorem dX6_declaration_65 : decode cX6_declaration 65 = .ok (.iload_n 2, 1) := by decide +kernel
theorem dX6_declaration_66 : decode cX6_declaration 66 = .ok (.invokevirtual 106, 3) := by decide +kernel
theorem dX6_declaration_69 : decode cX6_declaration 69 = .ok (.return_, 1) := by decide +kernel
theorem dX6_declaration_70 : decode cX6_declaration 70 = .ok (.aload_n 0, 1) := by decide +kernel
theorem dX6_declaration_71 : decode cX6_declaration 71 = .ok (.invokevirtual 123, 3) := by decide +kernel
theorem dX6_declaration_74 : decode cX6_declaration 74 = .ok (.aload_n 0, 1) := by decide +kernel
theorem dX6_declaration_75 : decode cX6_declaration 75 = .ok (.dup, 1) := by decide +kernel
theorem dX6_declaration_76 : decode cX6_declaration 76 = .ok (.getfield 77, 3) := by decide +kernel
theorem dX6_declaration_79 : decode cX6_declaration 79 = .ok (.iconst 1, 1) := by decide +kernel
theorem dX6_declaration_80 : decode cX6_declaration 80 = .ok (.iadd, 1) := by decide +kernel
theorem dX6_declaration_81 : decode cX6_declaration 81 = .ok (.putfield 77, 3) := by decide +kernel
theorem dX6_declaration_84 : decode cX6_declaration 84 = .ok (.aload_n 0, 1) := by decide +kernel
theorem dX6_declaration_85 : decode cX6_declaration 85 = .ok (.bipush 34, 2) := by decide +kernel
theorem dX6_declaration_87 : decode cX6_declaration 87 = .ok (.iload_n 3, 1) := by decide +kernel
theorem dX6_declaration_88 : decode cX6_declaration 88 = .ok (.iload_n 2, 1) := by decide +kernel
theorem dX6_declaration_89 : decode cX6_declaration 89 = .ok (.invokevirtual 106, 3) := by decide +kernel
theorem dX6_declaration_92 : decode cX6_declaration 92 = .ok (.return_, 1) := by decide +kernel
theorem dX6_specs_0 : decode cX6_specs 0 = .ok (.aload_n 0, 1) := by decide +kernel
theorem dX6_specs_1 : decode cX6_specs 1 = .ok (.invokevirtual 83, 3) := by decide +kernel
theorem dX6_specs_4 : decode cX6_specs 4 = .ok (.bipush 79, 2) := by decide +kernel
theorem dX6_specs_6 : decode cX6_specs 6 = .ok (.if_icmp .ne 24, 3) := by decide +kernel
theorem dX6_specs_9 : decode cX6_specs 9 = .ok (.aload_n 0, 1) := by decide +kernel
theorem dX6_specs_10 : decode cX6_specs 10 = .ok (.dup, 1) := by decide +kernel
theorem dX6_specs_11 : decode cX6_specs 11 = .ok (.getfield 77, 3) := by decide +kernel
theorem dX6_specs_14 : decode cX6_specs 14 = .ok (.iconst 1, 1) := by decide +kernel
theorem dX6_specs_15 : decode cX6_specs 15 = .ok (.iadd, 1) := by decide +kernel
theorem dX6_specs_16 : decode cX6_specs 16 = .ok (.putfield 77, 3) := by decide +kernel
theorem dX6_specs_19 : decode cX6_specs 19 = .ok (.aload_n 0, 1) := by decide +kernel
theorem dX6_specs_20 : decode cX6_specs 20 = .ok (.dup, 1) := by decide +kernel
theorem dX6_specs_21 : decode cX6_specs 21 = .ok (.getfield 90, 3) := by decide +kernel
theorem dX6_specs_24 : decode cX6_specs 24 = .ok (.iconst 1, 1) := by decide +kernel
theorem dX6_specs_25 : decode cX6_specs 25 = .ok (.isub, 1) := by decide +kernel
theorem dX6_specs_26 : decode cX6_specs 26 = .ok (.putfield 90, 3) := by decide +kernel
theorem dX6_specs_29 : decode cX6_specs 29 = .ok (.return_, 1) := by decide +kernel
theorem dX6_specs_30 : decode cX6_specs 30 = .ok (.aload_n 0, 1) := by decide +kernel
theorem dX6_specs_31 : decode cX6_specs 31 = .ok (.bipush 35, 2) := by decide +kernel
theorem dX6_specs_33 : decode cX6_specs 33 = .ok (.iload_n 1, 1) := by decide +kernel
