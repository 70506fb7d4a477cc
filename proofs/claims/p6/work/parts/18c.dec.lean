theorem dX6_specs_34 : decode cX6_specs 34 = .ok (.iload_n 2, 1) := by decide +kernel
theorem dX6_specs_35 : decode cX6_specs 35 = .ok (.invokevirtual 106, 3) := by decide +kernel
theorem dX6_specs_38 : decode cX6_specs 38 = .ok (.aload_n 0, 1) := by decide +kernel
theorem dX6_specs_39 : decode cX6_specs 39 = .ok (.bipush 33, 2) := by decide +kernel
theorem dX6_specs_41 : decode cX6_specs 41 = .ok (.iload_n 1, 1) := by decide +kernel
theorem dX6_specs_42 : decode cX6_specs 42 = .ok (.iload_n 2, 1) := by decide +kernel
theorem dX6_specs_43 : decode cX6_specs 43 = .ok (.invokevirtual 106, 3) := by decide +kernel
theorem dX6_specs_46 : decode cX6_specs 46 = .ok (.return_, 1) := by decide +kernel
theorem dX6_specsMore_0 : decode cX6_specsMore 0 = .ok (.aload_n 0, 1) := by decide +kernel
theorem dX6_specsMore_1 : decode cX6_specsMore 1 = .ok (.invokevirtual 83, 3) := by decide +kernel
theorem dX6_specsMore_4 : decode cX6_specsMore 4 = .ok (.bipush 79, 2) := by decide +kernel
theorem dX6_specsMore_6 : decode cX6_specsMore 6 = .ok (.if_icmp .eq 9, 3) := by decide +kernel
theorem dX6_specsMore_9 : decode cX6_specsMore 9 = .ok (.aload_n 0, 1) := by decide +kernel
theorem dX6_specsMore_10 : decode cX6_specsMore 10 = .ok (.bipush 85, 2) := by decide +kernel
theorem dX6_specsMore_12 : decode cX6_specsMore 12 = .ok (.invokevirtual 141, 3) := by decide +kernel
theorem dX6_specsMore_15 : decode cX6_specsMore 15 = .ok (.aload_n 0, 1) := by decide +kernel
theorem dX6_specsMore_16 : decode cX6_specsMore 16 = .ok (.bipush 34, 2) := by decide +kernel
theorem dX6_specsMore_18 : decode cX6_specsMore 18 = .ok (.iload_n 1, 1) := by decide +kernel
theorem dX6_specsMore_19 : decode cX6_specsMore 19 = .ok (.iload_n 2, 1) := by decide +kernel
theorem dX6_specsMore_20 : decode cX6_specsMore 20 = .ok (.invokevirtual 106, 3) := by decide +kernel
theorem dX6_specsMore_23 : decode cX6_specsMore 23 = .ok (.return_, 1) := by decide +kernel
theorem dX6_spec_0 : decode cX6_spec 0 = .ok (.aload_n 0, 1) := by decide +kernel
theorem dX6_spec_1 : decode cX6_spec 1 = .ok (.iload_n 1, 1) := by decide +kernel
theorem dX6_spec_2 : decode cX6_spec 2 = .ok (.iload_n 2, 1) := by decide +kernel
theorem dX6_spec_3 : decode cX6_spec 3 = .ok (.iconst 3, 1) := by decide +kernel
theorem dX6_spec_4 : decode cX6_spec 4 = .ok (.iadd, 1) := by decide +kernel
theorem dX6_spec_5 : decode cX6_spec 5 = .ok (.aload_n 0, 1) := by decide +kernel
theorem dX6_spec_6 : decode cX6_spec 6 = .ok (.getfield 77, 3) := by decide +kernel
theorem dX6_spec_9 : decode cX6_spec 9 = .ok (.invokevirtual 99, 3) := by decide +kernel
theorem dX6_spec_12 : decode cX6_spec 12 = .ok (.istore_n 3, 1) := by decide +kernel
theorem dX6_spec_13 : decode cX6_spec 13 = .ok (.iload_n 2, 1) := by decide +kernel
theorem dX6_spec_14 : decode cX6_spec 14 = .ok (.bipush 7, 2) := by decide +kernel
theorem dX6_spec_16 : decode cX6_spec 16 = .ok (.if_icmp .ne 18, 3) := by decide +kernel
theorem dX6_spec_19 : decode cX6_spec 19 = .ok (.aload_n 0, 1) := by decide +kernel
theorem dX6_spec_20 : decode cX6_spec 20 = .ok (.iload_n 3, 1) := by decide +kernel
theorem dX6_spec_21 : decode cX6_spec 21 = .ok (.invokevirtual 130, 3) := by decide +kernel
theorem dX6_spec_24 : decode cX6_spec 24 = .ok (.pop, 1) := by decide +kernel
theorem dX6_spec_25 : decode cX6_spec 25 = .ok (.aload_n 0, 1) := by decide +kernel
theorem dX6_spec_26 : decode cX6_spec 26 = .ok (.bipush 18, 2) := by decide +kernel
theorem dX6_spec_28 : decode cX6_spec 28 = .ok (.iload_n 3, 1) := by decide +kernel
theorem dX6_spec_29 : decode cX6_spec 29 = .ok (.iconst 0, 1) := by decide +kernel
theorem dX6_spec_30 : decode cX6_spec 30 = .ok (.invokevirtual 106, 3) := by decide +kernel
theorem dX6_spec_33 : decode cX6_spec 33 = .ok (.return_, 1) := by decide +kernel
theorem dX6_spec_34 : decode cX6_spec 34 = .ok (.aload_n 0, 1) := by decide +kernel
theorem dX6_spec_35 : decode cX6_spec 35 = .ok (.iload_n 2, 1) := by decide +kernel
theorem dX6_spec_36 : decode cX6_spec 36 = .ok (.bipush 6, 2) := by decide +kernel
theorem dX6_spec_38 : decode cX6_spec 38 = .ok (.if_icmp .ne 8, 3) := by decide +kernel
theorem dX6_spec_41 : decode cX6_spec 41 = .ok (.bipush 36, 2) := by decide +kernel
theorem dX6_spec_43 : decode cX6_spec 43 = .ok (.goto 5, 3) := by decide +kernel
theorem dX6_spec_46 : decode cX6_spec 46 = .ok (.bipush 37, 2) := by decide +kernel
theorem dX6_spec_48 : decode cX6_spec 48 = .ok (.iload_n 3, 1) := by decide +kernel
theorem dX6_spec_49 : decode cX6_spec 49 = .ok (.iconst 0, 1) := by decide +kernel
theorem dX6_spec_50 : decode cX6_spec 50 = .ok (.invokevirtual 106, 3) := by decide +kernel
theorem dX6_spec_53 : decode cX6_spec 53 = .ok (.aload_n 0, 1) := by decide +kernel
theorem dX6_spec_54 : decode cX6_spec 54 = .ok (.bipush 29, 2) := by decide +kernel
theorem dX6_spec_56 : decode cX6_spec 56 = .ok (.iload_n 3, 1) := by decide +kernel
theorem dX6_spec_57 : decode cX6_spec 57 = .ok (.iconst 0, 1) := by decide +kernel
theorem dX6_spec_58 : decode cX6_spec 58 = .ok (.invokevirtual 106, 3) := by decide +kernel
theorem dX6_spec_61 : decode cX6_spec 61 = .ok (.return_, 1) := by decide +kernel
theorem dX6_valued_0 : decode cX6_valued 0 = .ok (.aload_n 0, 1) := by decide +kernel
theorem dX6_valued_1 : decode cX6_valued 1 = .ok (.invokevirtual 83, 3) := by decide +kernel
theorem dX6_valued_4 : decode cX6_valued 4 = .ok (.bipush 70, 2) := by decide +kernel
theorem dX6_valued_6 : decode cX6_valued 6 = .ok (.if_icmp .eq 8, 3) := by decide +kernel
theorem dX6_valued_9 : decode cX6_valued 9 = .ok (.iload_n 2, 1) := by decide +kernel
theorem dX6_valued_10 : decode cX6_valued 10 = .ok (.iconst 1, 1) := by decide +kernel
theorem dX6_valued_11 : decode cX6_valued 11 = .ok (.if_icmp .ne 15, 3) := by decide +kernel
theorem dX6_valued_14 : decode cX6_valued 14 = .ok (.aload_n 0, 1) := by decide +kernel
theorem dX6_valued_15 : decode cX6_valued 15 = .ok (.bipush 70, 2) := by decide +kernel
theorem dX6_valued_17 : decode cX6_valued 17 = .ok (.invokevirtual 141, 3) := by decide +kernel
theorem dX6_valued_20 : decode cX6_valued 20 = .ok (.aload_n 0, 1) := by decide +kernel
theorem dX6_valued_21 : decode cX6_valued 21 = .ok (.iload_n 1, 1) := by decide +kernel
theorem dX6_valued_22 : decode cX6_valued 22 = .ok (.iconst 0, 1) := by decide +kernel
theorem dX6_valued_23 : decode cX6_valued 23 = .ok (.invokevirtual 159, 3) := by decide +kernel
theorem dX6_valued_26 : decode cX6_valued 26 = .ok (.return_, 1) := by decide +kernel
theorem dX6_constRest_0 : decode cX6_constRest 0 = .ok (.aload_n 0, 1) := by decide +kernel
theorem dX6_constRest_1 : decode cX6_constRest 1 = .ok (.invokevirtual 83, 3) := by decide +kernel
theorem dX6_constRest_4 : decode cX6_constRest 4 = .ok (.bipush 70, 2) := by decide +kernel
theorem dX6_constRest_6 : decode cX6_constRest 6 = .ok (.if_icmp .eq 13, 3) := by decide +kernel
theorem dX6_constRest_9 : decode cX6_constRest 9 = .ok (.aload_n 0, 1) := by decide +kernel
theorem dX6_constRest_10 : decode cX6_constRest 10 = .ok (.invokevirtual 83, 3) := by decide +kernel
theorem dX6_constRest_13 : decode cX6_constRest 13 = .ok (.invokestatic 150, 3) := by decide +kernel
theorem dX6_constRest_16 : decode cX6_constRest 16 = .ok (.ifCond .ne 10, 3) := by decide +kernel
theorem dX6_constRest_19 : decode cX6_constRest 19 = .ok (.aload_n 0, 1) := by decide +kernel
theorem dX6_constRest_20 : decode cX6_constRest 20 = .ok (.iload_n 1, 1) := by decide +kernel
theorem dX6_constRest_21 : decode cX6_constRest 21 = .ok (.iconst 2, 1) := by decide +kernel
theorem dX6_constRest_22 : decode cX6_constRest 22 = .ok (.invokevirtual 162, 3) := by decide +kernel
theorem dX6_constRest_25 : decode cX6_constRest 25 = .ok (.return_, 1) := by decide +kernel
theorem dX6_constRest_26 : decode cX6_constRest 26 = .ok (.aload_n 0, 1) := by decide +kernel
theorem dX6_constRest_27 : decode cX6_constRest 27 = .ok (.bipush 58, 2) := by decide +kernel
theorem dX6_constRest_29 : decode cX6_constRest 29 = .ok (.iload_n 1, 1) := by decide +kernel
theorem dX6_constRest_30 : decode cX6_constRest 30 = .ok (.iconst 1, 1) := by decide +kernel
theorem dX6_constRest_31 : decode cX6_constRest 31 = .ok (.invokevirtual 106, 3) := by decide +kernel
theorem dX6_constRest_34 : decode cX6_constRest 34 = .ok (.aload_n 0, 1) := by decide +kernel
theorem dX6_constRest_35 : decode cX6_constRest 35 = .ok (.bipush 18, 2) := by decide +kernel
theorem dX6_constRest_37 : decode cX6_constRest 37 = .ok (.iload_n 1, 1) := by decide +kernel
theorem dX6_constRest_38 : decode cX6_constRest 38 = .ok (.iconst 0, 1) := by decide +kernel
theorem dX6_constRest_39 : decode cX6_constRest 39 = .ok (.invokevirtual 106, 3) := by decide +kernel
theorem dX6_constRest_42 : decode cX6_constRest 42 = .ok (.return_, 1) := by decide +kernel
theorem dX6_varRest_0 : decode cX6_varRest 0 = .ok (.aload_n 0, 1) := by decide +kernel
theorem dX6_varRest_1 : decode cX6_varRest 1 = .ok (.invokevirtual 83, 3) := by decide +kernel
theorem dX6_varRest_4 : decode cX6_varRest 4 = .ok (.bipush 70, 2) := by decide +kernel
theorem dX6_varRest_6 : decode cX6_varRest 6 = .ok (.if_icmp .ne 10, 3) := by decide +kernel
theorem dX6_varRest_9 : decode cX6_varRest 9 = .ok (.aload_n 0, 1) := by decide +kernel
theorem dX6_varRest_10 : decode cX6_varRest 10 = .ok (.iload_n 1, 1) := by decide +kernel
theorem dX6_varRest_11 : decode cX6_varRest 11 = .ok (.iconst 1, 1) := by decide +kernel
theorem dX6_varRest_12 : decode cX6_varRest 12 = .ok (.invokevirtual 162, 3) := by decide +kernel
theorem dX6_varRest_15 : decode cX6_varRest 15 = .ok (.return_, 1) := by decide +kernel
theorem dX6_varRest_16 : decode cX6_varRest 16 = .ok (.aload_n 0, 1) := by decide +kernel
theorem dX6_varRest_17 : decode cX6_varRest 17 = .ok (.bipush 58, 2) := by decide +kernel
theorem dX6_varRest_19 : decode cX6_varRest 19 = .ok (.iload_n 1, 1) := by decide +kernel
theorem dX6_varRest_20 : decode cX6_varRest 20 = .ok (.iconst 2, 1) := by decide +kernel
theorem dX6_varRest_21 : decode cX6_varRest 21 = .ok (.invokevirtual 106, 3) := by decide +kernel
theorem dX6_varRest_24 : decode cX6_varRest 24 = .ok (.aload_n 0, 1) := by decide +kernel
theorem dX6_varRest_25 : decode cX6_varRest 25 = .ok (.bipush 18, 2) := by decide +kernel
theorem dX6_varRest_27 : decode cX6_varRest 27 = .ok (.iload_n 1, 1) := by decide +kernel
theorem dX6_varRest_28 : decode cX6_varRest 28 = .ok (.iconst 0, 1) := by decide +kernel
theorem dX6_varRest_29 : decode cX6_varRest 29 = .ok (.invokevirtual 106, 3) := by decide +kernel
theorem dX6_varRest_32 : decode cX6_varRest 32 = .ok (.return_, 1) := by decide +kernel
theorem dX6_function_0 : decode cX6_function 0 = .ok (.aload_n 0, 1) := by decide +kernel
theorem dX6_function_1 : decode cX6_function 1 = .ok (.invokevirtual 120, 3) := by decide +kernel
theorem dX6_function_4 : decode cX6_function 4 = .ok (.bipush 78, 2) := by decide +kernel
theorem dX6_function_6 : decode cX6_function 6 = .ok (.if_icmp .ne 7, 3) := by decide +kernel
theorem dX6_function_9 : decode cX6_function 9 = .ok (.iconst 1, 1) := by decide +kernel
theorem dX6_function_10 : decode cX6_function 10 = .ok (.goto 4, 3) := by decide +kernel
theorem dX6_function_13 : decode cX6_function 13 = .ok (.iconst 0, 1) := by decide +kernel
theorem dX6_function_14 : decode cX6_function 14 = .ok (.istore_n 2, 1) := by decide +kernel
theorem dX6_function_15 : decode cX6_function 15 = .ok (.aload_n 0, 1) := by decide +kernel
theorem dX6_function_16 : decode cX6_function 16 = .ok (.iload_n 1, 1) := by decide +kernel
theorem dX6_function_17 : decode cX6_function 17 = .ok (.iload_n 2, 1) := by decide +kernel
theorem dX6_function_18 : decode cX6_function 18 = .ok (.ifCond .eq 7, 3) := by decide +kernel
theorem dX6_function_21 : decode cX6_function 21 = .ok (.iconst 3, 1) := by decide +kernel
theorem dX6_function_22 : decode cX6_function 22 = .ok (.goto 4, 3) := by decide +kernel
theorem dX6_function_25 : decode cX6_function 25 = .ok (.iconst 2, 1) := by decide +kernel
theorem dX6_function_26 : decode cX6_function 26 = .ok (.aload_n 0, 1) := by decide +kernel
theorem dX6_function_27 : decode cX6_function 27 = .ok (.getfield 77, 3) := by decide +kernel
theorem dX6_function_30 : decode cX6_function 30 = .ok (.invokevirtual 99, 3) := by decide +kernel
theorem dX6_function_33 : decode cX6_function 33 = .ok (.istore_n 3, 1) := by decide +kernel
theorem dX6_function_34 : decode cX6_function 34 = .ok (.aload_n 0, 1) := by decide +kernel
theorem dX6_function_35 : decode cX6_function 35 = .ok (.dup, 1) := by decide +kernel
theorem dX6_function_36 : decode cX6_function 36 = .ok (.getfield 77, 3) := by decide +kernel
theorem dX6_function_39 : decode cX6_function 39 = .ok (.iconst 1, 1) := by decide +kernel
theorem dX6_function_40 : decode cX6_function 40 = .ok (.iadd, 1) := by decide +kernel
theorem dX6_function_41 : decode cX6_function 41 = .ok (.putfield 77, 3) := by decide +kernel
theorem dX6_function_44 : decode cX6_function 44 = .ok (.aload_n 0, 1) := by decide +kernel
theorem dX6_function_45 : decode cX6_function 45 = .ok (.bipush 38, 2) := by decide +kernel
theorem dX6_function_47 : decode cX6_function 47 = .ok (.iload_n 3, 1) := by decide +kernel
theorem dX6_function_48 : decode cX6_function 48 = .ok (.iconst 0, 1) := by decide +kernel
theorem dX6_function_49 : decode cX6_function 49 = .ok (.invokevirtual 106, 3) := by decide +kernel
theorem dX6_function_52 : decode cX6_function 52 = .ok (.aload_n 0, 1) := by decide +kernel
theorem dX6_function_53 : decode cX6_function 53 = .ok (.bipush 21, 2) := by decide +kernel
theorem dX6_function_55 : decode cX6_function 55 = .ok (.iload_n 3, 1) := by decide +kernel
theorem dX6_function_56 : decode cX6_function 56 = .ok (.iconst 0, 1) := by decide +kernel
theorem dX6_function_57 : decode cX6_function 57 = .ok (.invokevirtual 106, 3) := by decide +kernel
theorem dX6_function_60 : decode cX6_function 60 = .ok (.iload_n 2, 1) := by decide +kernel
theorem dX6_function_61 : decode cX6_function 61 = .ok (.ifCond .ne 10, 3) := by decide +kernel
theorem dX6_function_64 : decode cX6_function 64 = .ok (.aload_n 0, 1) := by decide +kernel
theorem dX6_function_65 : decode cX6_function 65 = .ok (.iload_n 3, 1) := by decide +kernel
theorem dX6_function_66 : decode cX6_function 66 = .ok (.invokevirtual 130, 3) := by decide +kernel
theorem dX6_function_69 : decode cX6_function 69 = .ok (.pop, 1) := by decide +kernel
theorem dX6_function_70 : decode cX6_function 70 = .ok (.return_, 1) := by decide +kernel
theorem dX6_function_71 : decode cX6_function 71 = .ok (.aload_n 0, 1) := by decide +kernel
theorem dX6_function_72 : decode cX6_function 72 = .ok (.iload_n 3, 1) := by decide +kernel
theorem dX6_function_73 : decode cX6_function 73 = .ok (.iconst 4, 1) := by decide +kernel
theorem dX6_function_74 : decode cX6_function 74 = .ok (.aload_n 0, 1) := by decide +kernel
theorem dX6_function_75 : decode cX6_function 75 = .ok (.getfield 77, 3) := by decide +kernel
theorem dX6_function_78 : decode cX6_function 78 = .ok (.invokevirtual 99, 3) := by decide +kernel
theorem dX6_function_81 : decode cX6_function 81 = .ok (.istore 4, 2) := by decide +kernel
theorem dX6_function_83 : decode cX6_function 83 = .ok (.aload_n 0, 1) := by decide +kernel
theorem dX6_function_84 : decode cX6_function 84 = .ok (.invokevirtual 123, 3) := by decide +kernel
theorem dX6_function_87 : decode cX6_function 87 = .ok (.aload_n 0, 1) := by decide +kernel
theorem dX6_function_88 : decode cX6_function 88 = .ok (.dup, 1) := by decide +kernel
theorem dX6_function_89 : decode cX6_function 89 = .ok (.getfield 77, 3) := by decide +kernel
theorem dX6_function_92 : decode cX6_function 92 = .ok (.iconst 1, 1) := by decide +kernel
theorem dX6_function_93 : decode cX6_function 93 = .ok (.iadd, 1) := by decide +kernel
theorem dX6_function_94 : decode cX6_function 94 = .ok (.putfield 77, 3) := by decide +kernel
theorem dX6_function_97 : decode cX6_function 97 = .ok (.aload_n 0, 1) := by decide +kernel
theorem dX6_function_98 : decode cX6_function 98 = .ok (.bipush 57, 2) := by decide +kernel
theorem dX6_function_100 : decode cX6_function 100 = .ok (.iload_n 3, 1) := by decide +kernel
theorem dX6_function_101 : decode cX6_function 101 = .ok (.iconst 0, 1) := by decide +kernel
theorem dX6_function_102 : decode cX6_function 102 = .ok (.invokevirtual 106, 3) := by decide +kernel
theorem dX6_function_105 : decode cX6_function 105 = .ok (.aload_n 0, 1) := by decide +kernel
theorem dX6_function_106 : decode cX6_function 106 = .ok (.bipush 8, 2) := by decide +kernel
theorem dX6_function_108 : decode cX6_function 108 = .ok (.bipush 79, 2) := by decide +kernel
theorem dX6_function_110 : decode cX6_function 110 = .ok (.iconst 0, 1) := by decide +kernel
theorem dX6_function_111 : decode cX6_function 111 = .ok (.invokevirtual 106, 3) := by decide +kernel
theorem dX6_function_114 : decode cX6_function 114 = .ok (.aload_n 0, 1) := by decide +kernel
theorem dX6_function_115 : decode cX6_function 115 = .ok (.bipush 18, 2) := by decide +kernel
theorem dX6_function_117 : decode cX6_function 117 = .ok (.iload 4, 2) := by decide +kernel
theorem dX6_function_119 : decode cX6_function 119 = .ok (.iconst 0, 1) := by decide +kernel
theorem dX6_function_120 : decode cX6_function 120 = .ok (.invokevirtual 106, 3) := by decide +kernel
theorem dX6_function_123 : decode cX6_function 123 = .ok (.aload_n 0, 1) := by decide +kernel
theorem dX6_function_124 : decode cX6_function 124 = .ok (.invokevirtual 83, 3) := by decide +kernel
theorem dX6_function_127 : decode cX6_function 127 = .ok (.iconst 1, 1) := by decide +kernel
theorem dX6_function_128 : decode cX6_function 128 = .ok (.if_icmp .ne 19, 3) := by decide +kernel
theorem dX6_function_131 : decode cX6_function 131 = .ok (.aload_n 0, 1) := by decide +kernel
theorem dX6_function_132 : decode cX6_function 132 = .ok (.invokevirtual 120, 3) := by decide +kernel
theorem dX6_function_135 : decode cX6_function 135 = .ok (.bipush 79, 2) := by decide +kernel
theorem dX6_function_137 : decode cX6_function 137 = .ok (.if_icmp .eq 10, 3) := by decide +kernel
theorem dX6_function_140 : decode cX6_function 140 = .ok (.aload_n 0, 1) := by decide +kernel
theorem dX6_function_141 : decode cX6_function 141 = .ok (.iload 4, 2) := by decide +kernel
theorem dX6_function_143 : decode cX6_function 143 = .ok (.invokevirtual 130, 3) := by decide +kernel
theorem dX6_function_146 : decode cX6_function 146 = .ok (.pop, 1) := by decide +kernel
theorem dX6_function_147 : decode cX6_function 147 = .ok (.return_, 1) := by decide +kernel
theorem dX6_tops_0 : decode cX6_tops 0 = .ok (.aload_n 0, 1) := by decide +kernel
theorem dX6_tops_1 : decode cX6_tops 1 = .ok (.getfield 77, 3) := by decide +kernel
theorem dX6_tops_4 : decode cX6_tops 4 = .ok (.aload_n 0, 1) := by decide +kernel
theorem dX6_tops_5 : decode cX6_tops 5 = .ok (.getfield 72, 3) := by decide +kernel
theorem dX6_tops_8 : decode cX6_tops 8 = .ok (.if_icmp .lt 4, 3) := by decide +kernel
theorem dX6_tops_11 : decode cX6_tops 11 = .ok (.return_, 1) := by decide +kernel
theorem dX6_tops_12 : decode cX6_tops 12 = .ok (.aload_n 0, 1) := by decide +kernel
theorem dX6_tops_13 : decode cX6_tops 13 = .ok (.invokevirtual 83, 3) := by decide +kernel
theorem dX6_tops_16 : decode cX6_tops 16 = .ok (.istore_n 2, 1) := by decide +kernel
theorem dX6_tops_17 : decode cX6_tops 17 = .ok (.aload_n 0, 1) := by decide +kernel
theorem dX6_tops_18 : decode cX6_tops 18 = .ok (.bipush 55, 2) := by decide +kernel
theorem dX6_tops_20 : decode cX6_tops 20 = .ok (.iload_n 1, 1) := by decide +kernel
theorem dX6_tops_21 : decode cX6_tops 21 = .ok (.iconst 0, 1) := by decide +kernel
theorem dX6_tops_22 : decode cX6_tops 22 = .ok (.invokevirtual 106, 3) := by decide +kernel
theorem dX6_tops_25 : decode cX6_tops 25 = .ok (.iload_n 2, 1) := by decide +kernel
theorem dX6_tops_26 : decode cX6_tops 26 = .ok (.bipush 13, 2) := by decide +kernel
theorem dX6_tops_28 : decode cX6_tops 28 = .ok (.if_icmp .eq 15, 3) := by decide +kernel
theorem dX6_tops_31 : decode cX6_tops 31 = .ok (.iload_n 2, 1) := by decide +kernel
theorem dX6_tops_32 : decode cX6_tops 32 = .ok (.bipush 33, 2) := by decide +kernel
theorem dX6_tops_34 : decode cX6_tops 34 = .ok (.if_icmp .eq 9, 3) := by decide +kernel
theorem dX6_tops_37 : decode cX6_tops 37 = .ok (.iload_n 2, 1) := by decide +kernel
theorem dX6_tops_38 : decode cX6_tops 38 = .ok (.bipush 34, 2) := by decide +kernel
theorem dX6_tops_40 : decode cX6_tops 40 = .ok (.if_icmp .ne 11, 3) := by decide +kernel
theorem dX6_tops_43 : decode cX6_tops 43 = .ok (.aload_n 0, 1) := by decide +kernel
theorem dX6_tops_44 : decode cX6_tops 44 = .ok (.iload_n 1, 1) := by decide +kernel
theorem dX6_tops_45 : decode cX6_tops 45 = .ok (.invokevirtual 165, 3) := by decide +kernel
theorem dX6_tops_48 : decode cX6_tops 48 = .ok (.goto 21, 3) := by decide +kernel
theorem dX6_tops_51 : decode cX6_tops 51 = .ok (.iload_n 2, 1) := by decide +kernel
theorem dX6_tops_52 : decode cX6_tops 52 = .ok (.bipush 20, 2) := by decide +kernel
theorem dX6_tops_54 : decode cX6_tops 54 = .ok (.if_icmp .ne 11, 3) := by decide +kernel
theorem dX6_tops_57 : decode cX6_tops 57 = .ok (.aload_n 0, 1) := by decide +kernel
theorem dX6_tops_58 : decode cX6_tops 58 = .ok (.iload_n 1, 1) := by decide +kernel
theorem dX6_tops_59 : decode cX6_tops 59 = .ok (.invokevirtual 168, 3) := by decide +kernel
theorem dX6_tops_62 : decode cX6_tops 62 = .ok (.goto 7, 3) := by decide +kernel
theorem dX6_tops_65 : decode cX6_tops 65 = .ok (.aload_n 0, 1) := by decide +kernel
theorem dX6_tops_66 : decode cX6_tops 66 = .ok (.invokevirtual 87, 3) := by decide +kernel
theorem dX6_tops_69 : decode cX6_tops 69 = .ok (.return_, 1) := by decide +kernel
theorem dX6_beginsStatement_0 : decode cX6_beginsStatement 0 = .ok (.iload_n 0, 1) := by decide +kernel
theorem dX6_beginsStatement_1 : decode cX6_beginsStatement 1 = .ok (.invokestatic 171, 3) := by decide +kernel
theorem dX6_beginsStatement_4 : decode cX6_beginsStatement 4 = .ok (.ifCond .ne 87, 3) := by decide +kernel
theorem dX6_beginsStatement_7 : decode cX6_beginsStatement 7 = .ok (.iload_n 0, 1) := by decide +kernel
theorem dX6_beginsStatement_8 : decode cX6_beginsStatement 8 = .ok (.bipush 13, 2) := by decide +kernel
theorem dX6_beginsStatement_10 : decode cX6_beginsStatement 10 = .ok (.if_icmp .eq 81, 3) := by decide +kernel
theorem dX6_beginsStatement_13 : decode cX6_beginsStatement 13 = .ok (.iload_n 0, 1) := by decide +kernel
theorem dX6_beginsStatement_14 : decode cX6_beginsStatement 14 = .ok (.bipush 33, 2) := by decide +kernel
theorem dX6_beginsStatement_16 : decode cX6_beginsStatement 16 = .ok (.if_icmp .eq 75, 3) := by decide +kernel
theorem dX6_beginsStatement_19 : decode cX6_beginsStatement 19 = .ok (.iload_n 0, 1) := by decide +kernel
theorem dX6_beginsStatement_20 : decode cX6_beginsStatement 20 = .ok (.bipush 34, 2) := by decide +kernel
theorem dX6_beginsStatement_22 : decode cX6_beginsStatement 22 = .ok (.if_icmp .eq 69, 3) := by decide +kernel
theorem dX6_beginsStatement_25 : decode cX6_beginsStatement 25 = .ok (.iload_n 0, 1) := by decide +kernel
theorem dX6_beginsStatement_26 : decode cX6_beginsStatement 26 = .ok (.bipush 21, 2) := by decide +kernel
theorem dX6_beginsStatement_28 : decode cX6_beginsStatement 28 = .ok (.if_icmp .eq 63, 3) := by decide +kernel
theorem dX6_beginsStatement_31 : decode cX6_beginsStatement 31 = .ok (.iload_n 0, 1) := by decide +kernel
theorem dX6_beginsStatement_32 : decode cX6_beginsStatement 32 = .ok (.bipush 16, 2) := by decide +kernel
theorem dX6_beginsStatement_34 : decode cX6_beginsStatement 34 = .ok (.if_icmp .eq 57, 3) := by decide +kernel
theorem dX6_beginsStatement_37 : decode cX6_beginsStatement 37 = .ok (.iload_n 0, 1) := by decide +kernel
theorem dX6_beginsStatement_38 : decode cX6_beginsStatement 38 = .ok (.bipush 29, 2) := by decide +kernel
theorem dX6_beginsStatement_40 : decode cX6_beginsStatement 40 = .ok (.if_icmp .eq 51, 3) := by decide +kernel
theorem dX6_beginsStatement_43 : decode cX6_beginsStatement 43 = .ok (.iload_n 0, 1) := by decide +kernel
theorem dX6_beginsStatement_44 : decode cX6_beginsStatement 44 = .ok (.bipush 10, 2) := by decide +kernel
theorem dX6_beginsStatement_46 : decode cX6_beginsStatement 46 = .ok (.if_icmp .eq 45, 3) := by decide +kernel
theorem dX6_beginsStatement_49 : decode cX6_beginsStatement 49 = .ok (.iload_n 0, 1) := by decide +kernel
theorem dX6_beginsStatement_50 : decode cX6_beginsStatement 50 = .ok (.bipush 14, 2) := by decide +kernel
theorem dX6_beginsStatement_52 : decode cX6_beginsStatement 52 = .ok (.if_icmp .eq 39, 3) := by decide +kernel
theorem dX6_beginsStatement_55 : decode cX6_beginsStatement 55 = .ok (.iload_n 0, 1) := by decide +kernel
theorem dX6_beginsStatement_56 : decode cX6_beginsStatement 56 = .ok (.bipush 18, 2) := by decide +kernel
theorem dX6_beginsStatement_58 : decode cX6_beginsStatement 58 = .ok (.if_icmp .eq 33, 3) := by decide +kernel
theorem dX6_beginsStatement_61 : decode cX6_beginsStatement 61 = .ok (.iload_n 0, 1) := by decide +kernel
theorem dX6_beginsStatement_62 : decode cX6_beginsStatement 62 = .ok (.bipush 82, 2) := by decide +kernel
theorem dX6_beginsStatement_64 : decode cX6_beginsStatement 64 = .ok (.if_icmp .eq 27, 3) := by decide +kernel
theorem dX6_beginsStatement_67 : decode cX6_beginsStatement 67 = .ok (.iload_n 0, 1) := by decide +kernel
theorem dX6_beginsStatement_68 : decode cX6_beginsStatement 68 = .ok (.bipush 23, 2) := by decide +kernel
theorem dX6_beginsStatement_70 : decode cX6_beginsStatement 70 = .ok (.if_icmp .eq 21, 3) := by decide +kernel
theorem dX6_beginsStatement_73 : decode cX6_beginsStatement 73 = .ok (.iload_n 0, 1) := by decide +kernel
theorem dX6_beginsStatement_74 : decode cX6_beginsStatement 74 = .ok (.bipush 32, 2) := by decide +kernel
theorem dX6_beginsStatement_76 : decode cX6_beginsStatement 76 = .ok (.if_icmp .eq 15, 3) := by decide +kernel
theorem dX6_beginsStatement_79 : decode cX6_beginsStatement 79 = .ok (.iload_n 0, 1) := by decide +kernel
theorem dX6_beginsStatement_80 : decode cX6_beginsStatement 80 = .ok (.bipush 30, 2) := by decide +kernel
theorem dX6_beginsStatement_82 : decode cX6_beginsStatement 82 = .ok (.if_icmp .eq 9, 3) := by decide +kernel
theorem dX6_beginsStatement_85 : decode cX6_beginsStatement 85 = .ok (.iload_n 0, 1) := by decide +kernel
theorem dX6_beginsStatement_86 : decode cX6_beginsStatement 86 = .ok (.bipush 19, 2) := by decide +kernel
theorem dX6_beginsStatement_88 : decode cX6_beginsStatement 88 = .ok (.if_icmp .ne 7, 3) := by decide +kernel
theorem dX6_beginsStatement_91 : decode cX6_beginsStatement 91 = .ok (.iconst 1, 1) := by decide +kernel
theorem dX6_beginsStatement_92 : decode cX6_beginsStatement 92 = .ok (.goto 4, 3) := by decide +kernel
theorem dX6_beginsStatement_95 : decode cX6_beginsStatement 95 = .ok (.iconst 0, 1) := by decide +kernel
theorem dX6_beginsStatement_96 : decode cX6_beginsStatement 96 = .ok (.ireturn, 1) := by decide +kernel
theorem dX6_block_0 : decode cX6_block 0 = .ok (.aload_n 0, 1) := by decide +kernel
theorem dX6_block_1 : decode cX6_block 1 = .ok (.invokevirtual 83, 3) := by decide +kernel
theorem dX6_block_4 : decode cX6_block 4 = .ok (.bipush 82, 2) := by decide +kernel
theorem dX6_block_6 : decode cX6_block 6 = .ok (.if_icmp .eq 8, 3) := by decide +kernel
theorem dX6_block_9 : decode cX6_block 9 = .ok (.aload_n 0, 1) := by decide +kernel
theorem dX6_block_10 : decode cX6_block 10 = .ok (.invokevirtual 87, 3) := by decide +kernel
theorem dX6_block_13 : decode cX6_block 13 = .ok (.return_, 1) := by decide +kernel
theorem dX6_block_14 : decode cX6_block 14 = .ok (.aload_n 0, 1) := by decide +kernel
theorem dX6_block_15 : decode cX6_block 15 = .ok (.iload_n 1, 1) := by decide +kernel
theorem dX6_block_16 : decode cX6_block 16 = .ok (.bipush 40, 2) := by decide +kernel
theorem dX6_block_18 : decode cX6_block 18 = .ok (.aload_n 0, 1) := by decide +kernel
theorem dX6_block_19 : decode cX6_block 19 = .ok (.getfield 77, 3) := by decide +kernel
theorem dX6_block_22 : decode cX6_block 22 = .ok (.invokevirtual 99, 3) := by decide +kernel
theorem dX6_block_25 : decode cX6_block 25 = .ok (.istore_n 2, 1) := by decide +kernel
theorem dX6_block_26 : decode cX6_block 26 = .ok (.aload_n 0, 1) := by decide +kernel
theorem dX6_block_27 : decode cX6_block 27 = .ok (.invokevirtual 123, 3) := by decide +kernel
theorem dX6_block_30 : decode cX6_block 30 = .ok (.aload_n 0, 1) := by decide +kernel
theorem dX6_block_31 : decode cX6_block 31 = .ok (.dup, 1) := by decide +kernel
theorem dX6_block_32 : decode cX6_block 32 = .ok (.getfield 77, 3) := by decide +kernel
theorem dX6_block_35 : decode cX6_block 35 = .ok (.iconst 1, 1) := by decide +kernel
theorem dX6_block_36 : decode cX6_block 36 = .ok (.iadd, 1) := by decide +kernel
theorem dX6_block_37 : decode cX6_block 37 = .ok (.putfield 77, 3) := by decide +kernel
theorem dX6_block_40 : decode cX6_block 40 = .ok (.aload_n 0, 1) := by decide +kernel
theorem dX6_block_41 : decode cX6_block 41 = .ok (.bipush 8, 2) := by decide +kernel
theorem dX6_block_43 : decode cX6_block 43 = .ok (.bipush 83, 2) := by decide +kernel
theorem dX6_block_45 : decode cX6_block 45 = .ok (.iconst 0, 1) := by decide +kernel
theorem dX6_block_46 : decode cX6_block 46 = .ok (.invokevirtual 106, 3) := by decide +kernel
theorem dX6_block_49 : decode cX6_block 49 = .ok (.aload_n 0, 1) := by decide +kernel
theorem dX6_block_50 : decode cX6_block 50 = .ok (.bipush 39, 2) := by decide +kernel
theorem dX6_block_52 : decode cX6_block 52 = .ok (.iload_n 2, 1) := by decide +kernel
theorem dX6_block_53 : decode cX6_block 53 = .ok (.iconst 0, 1) := by decide +kernel
theorem dX6_block_54 : decode cX6_block 54 = .ok (.invokevirtual 106, 3) := by decide +kernel
theorem dX6_block_57 : decode cX6_block 57 = .ok (.return_, 1) := by decide +kernel
theorem dX6_statements_0 : decode cX6_statements 0 = .ok (.aload_n 0, 1) := by decide +kernel
theorem dX6_statements_1 : decode cX6_statements 1 = .ok (.invokevirtual 83, 3) := by decide +kernel
theorem dX6_statements_4 : decode cX6_statements 4 = .ok (.istore_n 2, 1) := by decide +kernel
theorem dX6_statements_5 : decode cX6_statements 5 = .ok (.iload_n 2, 1) := by decide +kernel
theorem dX6_statements_6 : decode cX6_statements 6 = .ok (.bipush 85, 2) := by decide +kernel
theorem dX6_statements_8 : decode cX6_statements 8 = .ok (.if_icmp .ne 24, 3) := by decide +kernel
theorem dX6_statements_11 : decode cX6_statements 11 = .ok (.aload_n 0, 1) := by decide +kernel
theorem dX6_statements_12 : decode cX6_statements 12 = .ok (.dup, 1) := by decide +kernel
theorem dX6_statements_13 : decode cX6_statements 13 = .ok (.getfield 77, 3) := by decide +kernel
theorem dX6_statements_16 : decode cX6_statements 16 = .ok (.iconst 1, 1) := by decide +kernel
theorem dX6_statements_17 : decode cX6_statements 17 = .ok (.iadd, 1) := by decide +kernel
theorem dX6_statements_18 : decode cX6_statements 18 = .ok (.putfield 77, 3) := by decide +kernel
theorem dX6_statements_21 : decode cX6_statements 21 = .ok (.aload_n 0, 1) := by decide +kernel
theorem dX6_statements_22 : decode cX6_statements 22 = .ok (.bipush 39, 2) := by decide +kernel
theorem dX6_statements_24 : decode cX6_statements 24 = .ok (.iload_n 1, 1) := by decide +kernel
theorem dX6_statements_25 : decode cX6_statements 25 = .ok (.iconst 0, 1) := by decide +kernel
theorem dX6_statements_26 : decode cX6_statements 26 = .ok (.invokevirtual 106, 3) := by decide +kernel
theorem dX6_statements_29 : decode cX6_statements 29 = .ok (.goto 23, 3) := by decide +kernel
theorem dX6_statements_32 : decode cX6_statements 32 = .ok (.iload_n 2, 1) := by decide +kernel
theorem dX6_statements_33 : decode cX6_statements 33 = .ok (.invokestatic 174, 3) := by decide +kernel
theorem dX6_statements_36 : decode cX6_statements 36 = .ok (.ifCond .eq 16, 3) := by decide +kernel
theorem dX6_statements_39 : decode cX6_statements 39 = .ok (.aload_n 0, 1) := by decide +kernel
theorem dX6_statements_40 : decode cX6_statements 40 = .ok (.bipush 40, 2) := by decide +kernel
theorem dX6_statements_42 : decode cX6_statements 42 = .ok (.iload_n 1, 1) := by decide +kernel
theorem dX6_statements_43 : decode cX6_statements 43 = .ok (.iconst 0, 1) := by decide +kernel
theorem dX6_statements_44 : decode cX6_statements 44 = .ok (.invokevirtual 106, 3) := by decide +kernel
theorem dX6_statements_47 : decode cX6_statements 47 = .ok (.aload_n 0, 1) := by decide +kernel
theorem dX6_statements_48 : decode cX6_statements 48 = .ok (.iload_n 1, 1) := by decide +kernel
theorem dX6_statements_49 : decode cX6_statements 49 = .ok (.invokevirtual 177, 3) := by decide +kernel
theorem dX6_statements_52 : decode cX6_statements 52 = .ok (.return_, 1) := by decide +kernel
theorem dX6_statementsMore_0 : decode cX6_statementsMore 0 = .ok (.aload_n 0, 1) := by decide +kernel
theorem dX6_statementsMore_1 : decode cX6_statementsMore 1 = .ok (.invokevirtual 83, 3) := by decide +kernel
theorem dX6_statementsMore_4 : decode cX6_statementsMore 4 = .ok (.bipush 85, 2) := by decide +kernel
theorem dX6_statementsMore_6 : decode cX6_statementsMore 6 = .ok (.if_icmp .eq 4, 3) := by decide +kernel
theorem dX6_statementsMore_9 : decode cX6_statementsMore 9 = .ok (.return_, 1) := by decide +kernel
theorem dX6_statementsMore_10 : decode cX6_statementsMore 10 = .ok (.aload_n 0, 1) := by decide +kernel
theorem dX6_statementsMore_11 : decode cX6_statementsMore 11 = .ok (.dup, 1) := by decide +kernel
theorem dX6_statementsMore_12 : decode cX6_statementsMore 12 = .ok (.getfield 77, 3) := by decide +kernel
theorem dX6_statementsMore_15 : decode cX6_statementsMore 15 = .ok (.iconst 1, 1) := by decide +kernel
theorem dX6_statementsMore_16 : decode cX6_statementsMore 16 = .ok (.iadd, 1) := by decide +kernel
theorem dX6_statementsMore_17 : decode cX6_statementsMore 17 = .ok (.putfield 77, 3) := by decide +kernel
theorem dX6_statementsMore_20 : decode cX6_statementsMore 20 = .ok (.aload_n 0, 1) := by decide +kernel
theorem dX6_statementsMore_21 : decode cX6_statementsMore 21 = .ok (.bipush 39, 2) := by decide +kernel
theorem dX6_statementsMore_23 : decode cX6_statementsMore 23 = .ok (.iload_n 1, 1) := by decide +kernel
theorem dX6_statementsMore_24 : decode cX6_statementsMore 24 = .ok (.iconst 0, 1) := by decide +kernel
theorem dX6_statementsMore_25 : decode cX6_statementsMore 25 = .ok (.invokevirtual 106, 3) := by decide +kernel
theorem dX6_statementsMore_28 : decode cX6_statementsMore 28 = .ok (.return_, 1) := by decide +kernel
theorem dX6_statement_0 : decode cX6_statement 0 = .ok (.aload_n 0, 1) := by decide +kernel
theorem dX6_statement_1 : decode cX6_statement 1 = .ok (.invokevirtual 83, 3) := by decide +kernel
theorem dX6_statement_4 : decode cX6_statement 4 = .ok (.istore_n 2, 1) := by decide +kernel
theorem dX6_statement_5 : decode cX6_statement 5 = .ok (.iload_n 2, 1) := by decide +kernel
theorem dX6_statement_6 : decode cX6_statement 6 = .ok (.bipush 13, 2) := by decide +kernel
theorem dX6_statement_8 : decode cX6_statement 8 = .ok (.if_icmp .eq 15, 3) := by decide +kernel
theorem dX6_statement_11 : decode cX6_statement 11 = .ok (.iload_n 2, 1) := by decide +kernel
theorem dX6_statement_12 : decode cX6_statement 12 = .ok (.bipush 33, 2) := by decide +kernel
theorem dX6_statement_14 : decode cX6_statement 14 = .ok (.if_icmp .eq 9, 3) := by decide +kernel
theorem dX6_statement_17 : decode cX6_statement 17 = .ok (.iload_n 2, 1) := by decide +kernel
theorem dX6_statement_18 : decode cX6_statement 18 = .ok (.bipush 34, 2) := by decide +kernel
theorem dX6_statement_20 : decode cX6_statement 20 = .ok (.if_icmp .ne 11, 3) := by decide +kernel
theorem dX6_statement_23 : decode cX6_statement 23 = .ok (.aload_n 0, 1) := by decide +kernel
theorem dX6_statement_24 : decode cX6_statement 24 = .ok (.iload_n 1, 1) := by decide +kernel
theorem dX6_statement_25 : decode cX6_statement 25 = .ok (.invokevirtual 165, 3) := by decide +kernel
theorem dX6_statement_28 : decode cX6_statement 28 = .ok (.goto 230, 3) := by decide +kernel
theorem dX6_statement_31 : decode cX6_statement 31 = .ok (.iload_n 2, 1) := by decide +kernel
theorem dX6_statement_32 : decode cX6_statement 32 = .ok (.iconst 1, 1) := by decide +kernel
theorem dX6_statement_33 : decode cX6_statement 33 = .ok (.if_icmp .ne 79, 3) := by decide +kernel
theorem dX6_statement_36 : decode cX6_statement 36 = .ok (.aload_n 0, 1) := by decide +kernel
theorem dX6_statement_37 : decode cX6_statement 37 = .ok (.invokevirtual 120, 3) := by decide +kernel
theorem dX6_statement_40 : decode cX6_statement 40 = .ok (.bipush 87, 2) := by decide +kernel
theorem dX6_statement_42 : decode cX6_statement 42 = .ok (.if_icmp .ne 70, 3) := by decide +kernel
theorem dX6_statement_45 : decode cX6_statement 45 = .ok (.aload_n 0, 1) := by decide +kernel
theorem dX6_statement_46 : decode cX6_statement 46 = .ok (.iload_n 1, 1) := by decide +kernel
theorem dX6_statement_47 : decode cX6_statement 47 = .ok (.bipush 41, 2) := by decide +kernel
theorem dX6_statement_49 : decode cX6_statement 49 = .ok (.aload_n 0, 1) := by decide +kernel
theorem dX6_statement_50 : decode cX6_statement 50 = .ok (.getfield 77, 3) := by decide +kernel
theorem dX6_statement_53 : decode cX6_statement 53 = .ok (.iconst 1, 1) := by decide +kernel
theorem dX6_statement_54 : decode cX6_statement 54 = .ok (.iadd, 1) := by decide +kernel
theorem dX6_statement_55 : decode cX6_statement 55 = .ok (.invokevirtual 99, 3) := by decide +kernel
theorem dX6_statement_58 : decode cX6_statement 58 = .ok (.istore_n 3, 1) := by decide +kernel
theorem dX6_statement_59 : decode cX6_statement 59 = .ok (.aload_n 0, 1) := by decide +kernel
theorem dX6_statement_60 : decode cX6_statement 60 = .ok (.iload_n 3, 1) := by decide +kernel
theorem dX6_statement_61 : decode cX6_statement 61 = .ok (.invokevirtual 130, 3) := by decide +kernel
theorem dX6_statement_64 : decode cX6_statement 64 = .ok (.pop, 1) := by decide +kernel
theorem dX6_statement_65 : decode cX6_statement 65 = .ok (.aload_n 0, 1) := by decide +kernel
theorem dX6_statement_66 : decode cX6_statement 66 = .ok (.invokevirtual 123, 3) := by decide +kernel
theorem dX6_statement_69 : decode cX6_statement 69 = .ok (.aload_n 0, 1) := by decide +kernel
theorem dX6_statement_70 : decode cX6_statement 70 = .ok (.dup, 1) := by decide +kernel
theorem dX6_statement_71 : decode cX6_statement 71 = .ok (.getfield 77, 3) := by decide +kernel
theorem dX6_statement_74 : decode cX6_statement 74 = .ok (.iconst 1, 1) := by decide +kernel
theorem dX6_statement_75 : decode cX6_statement 75 = .ok (.iadd, 1) := by decide +kernel
theorem dX6_statement_76 : decode cX6_statement 76 = .ok (.putfield 77, 3) := by decide +kernel
theorem dX6_statement_79 : decode cX6_statement 79 = .ok (.aload_n 0, 1) := by decide +kernel
theorem dX6_statement_80 : decode cX6_statement 80 = .ok (.bipush 6, 2) := by decide +kernel
theorem dX6_statement_82 : decode cX6_statement 82 = .ok (.iload_n 3, 1) := by decide +kernel
theorem dX6_statement_83 : decode cX6_statement 83 = .ok (.iconst 0, 1) := by decide +kernel
theorem dX6_statement_84 : decode cX6_statement 84 = .ok (.invokevirtual 106, 3) := by decide +kernel
theorem dX6_statement_87 : decode cX6_statement 87 = .ok (.aload_n 0, 1) := by decide +kernel
theorem dX6_statement_88 : decode cX6_statement 88 = .ok (.getfield 80, 3) := by decide +kernel
theorem dX6_statement_91 : decode cX6_statement 91 = .ok (.ifCond .ge 18, 3) := by decide +kernel
theorem dX6_statement_94 : decode cX6_statement 94 = .ok (.aload_n 0, 1) := by decide +kernel
theorem dX6_statement_95 : decode cX6_statement 95 = .ok (.invokevirtual 83, 3) := by decide +kernel
theorem dX6_statement_98 : decode cX6_statement 98 = .ok (.invokestatic 174, 3) := by decide +kernel
theorem dX6_statement_101 : decode cX6_statement 101 = .ok (.ifCond .eq 8, 3) := by decide +kernel
theorem dX6_statement_104 : decode cX6_statement 104 = .ok (.aload_n 0, 1) := by decide +kernel
theorem dX6_statement_105 : decode cX6_statement 105 = .ok (.iload_n 3, 1) := by decide +kernel
theorem dX6_statement_106 : decode cX6_statement 106 = .ok (.invokevirtual 177, 3) := by decide +kernel
theorem dX6_statement_109 : decode cX6_statement 109 = .ok (.goto 149, 3) := by decide +kernel
theorem dX6_statement_112 : decode cX6_statement 112 = .ok (.iload_n 2, 1) := by decide +kernel
theorem dX6_statement_113 : decode cX6_statement 113 = .ok (.bipush 82, 2) := by decide +kernel
theorem dX6_statement_115 : decode cX6_statement 115 = .ok (.if_icmp .ne 11, 3) := by decide +kernel
theorem dX6_statement_118 : decode cX6_statement 118 = .ok (.aload_n 0, 1) := by decide +kernel
theorem dX6_statement_119 : decode cX6_statement 119 = .ok (.iload_n 1, 1) := by decide +kernel
theorem dX6_statement_120 : decode cX6_statement 120 = .ok (.invokevirtual 180, 3) := by decide +kernel
theorem dX6_statement_123 : decode cX6_statement 123 = .ok (.goto 135, 3) := by decide +kernel
theorem dX6_statement_126 : decode cX6_statement 126 = .ok (.iload_n 2, 1) := by decide +kernel
theorem dX6_statement_127 : decode cX6_statement 127 = .ok (.bipush 23, 2) := by decide +kernel
theorem dX6_statement_129 : decode cX6_statement 129 = .ok (.if_icmp .ne 11, 3) := by decide +kernel
theorem dX6_statement_132 : decode cX6_statement 132 = .ok (.aload_n 0, 1) := by decide +kernel
theorem dX6_statement_133 : decode cX6_statement 133 = .ok (.iload_n 1, 1) := by decide +kernel
theorem dX6_statement_134 : decode cX6_statement 134 = .ok (.invokevirtual 183, 3) := by decide +kernel
theorem dX6_statement_137 : decode cX6_statement 137 = .ok (.goto 121, 3) := by decide +kernel
theorem dX6_statement_140 : decode cX6_statement 140 = .ok (.iload_n 2, 1) := by decide +kernel
theorem dX6_statement_141 : decode cX6_statement 141 = .ok (.bipush 19, 2) := by decide +kernel
theorem dX6_statement_143 : decode cX6_statement 143 = .ok (.if_icmp .ne 11, 3) := by decide +kernel
theorem dX6_statement_146 : decode cX6_statement 146 = .ok (.aload_n 0, 1) := by decide +kernel
theorem dX6_statement_147 : decode cX6_statement 147 = .ok (.iload_n 1, 1) := by decide +kernel
theorem dX6_statement_148 : decode cX6_statement 148 = .ok (.invokevirtual 186, 3) := by decide +kernel
theorem dX6_statement_151 : decode cX6_statement 151 = .ok (.goto 107, 3) := by decide +kernel
theorem dX6_statement_154 : decode cX6_statement 154 = .ok (.iload_n 2, 1) := by decide +kernel
theorem dX6_statement_155 : decode cX6_statement 155 = .ok (.bipush 32, 2) := by decide +kernel
theorem dX6_statement_157 : decode cX6_statement 157 = .ok (.if_icmp .ne 11, 3) := by decide +kernel
theorem dX6_statement_160 : decode cX6_statement 160 = .ok (.aload_n 0, 1) := by decide +kernel
theorem dX6_statement_161 : decode cX6_statement 161 = .ok (.iload_n 1, 1) := by decide +kernel
theorem dX6_statement_162 : decode cX6_statement 162 = .ok (.invokevirtual 189, 3) := by decide +kernel
theorem dX6_statement_165 : decode cX6_statement 165 = .ok (.goto 93, 3) := by decide +kernel
theorem dX6_statement_168 : decode cX6_statement 168 = .ok (.iload_n 2, 1) := by decide +kernel
theorem dX6_statement_169 : decode cX6_statement 169 = .ok (.bipush 30, 2) := by decide +kernel
theorem dX6_statement_171 : decode cX6_statement 171 = .ok (.if_icmp .ne 34, 3) := by decide +kernel
theorem dX6_statement_174 : decode cX6_statement 174 = .ok (.aload_n 0, 1) := by decide +kernel
theorem dX6_statement_175 : decode cX6_statement 175 = .ok (.iload_n 1, 1) := by decide +kernel
theorem dX6_statement_176 : decode cX6_statement 176 = .ok (.bipush 73, 2) := by decide +kernel
theorem dX6_statement_178 : decode cX6_statement 178 = .ok (.aload_n 0, 1) := by decide +kernel
theorem dX6_statement_179 : decode cX6_statement 179 = .ok (.getfield 77, 3) := by decide +kernel
theorem dX6_statement_182 : decode cX6_statement 182 = .ok (.invokevirtual 99, 3) := by decide +kernel
theorem dX6_statement_185 : decode cX6_statement 185 = .ok (.istore_n 3, 1) := by decide +kernel
theorem dX6_statement_186 : decode cX6_statement 186 = .ok (.aload_n 0, 1) := by decide +kernel
theorem dX6_statement_187 : decode cX6_statement 187 = .ok (.dup, 1) := by decide +kernel
theorem dX6_statement_188 : decode cX6_statement 188 = .ok (.getfield 77, 3) := by decide +kernel
theorem dX6_statement_191 : decode cX6_statement 191 = .ok (.iconst 1, 1) := by decide +kernel
theorem dX6_statement_192 : decode cX6_statement 192 = .ok (.iadd, 1) := by decide +kernel
theorem dX6_statement_193 : decode cX6_statement 193 = .ok (.putfield 77, 3) := by decide +kernel
theorem dX6_statement_196 : decode cX6_statement 196 = .ok (.aload_n 0, 1) := by decide +kernel
theorem dX6_statement_197 : decode cX6_statement 197 = .ok (.iload_n 3, 1) := by decide +kernel
theorem dX6_statement_198 : decode cX6_statement 198 = .ok (.iconst 2, 1) := by decide +kernel
theorem dX6_statement_199 : decode cX6_statement 199 = .ok (.invokevirtual 192, 3) := by decide +kernel
theorem dX6_statement_202 : decode cX6_statement 202 = .ok (.goto 56, 3) := by decide +kernel
theorem dX6_statement_205 : decode cX6_statement 205 = .ok (.iload_n 2, 1) := by decide +kernel
theorem dX6_statement_206 : decode cX6_statement 206 = .ok (.bipush 21, 2) := by decide +kernel
theorem dX6_statement_208 : decode cX6_statement 208 = .ok (.if_icmp .eq 33, 3) := by decide +kernel
theorem dX6_statement_211 : decode cX6_statement 211 = .ok (.iload_n 2, 1) := by decide +kernel
theorem dX6_statement_212 : decode cX6_statement 212 = .ok (.bipush 16, 2) := by decide +kernel
theorem dX6_statement_214 : decode cX6_statement 214 = .ok (.if_icmp .eq 27, 3) := by decide +kernel
theorem dX6_statement_217 : decode cX6_statement 217 = .ok (.iload_n 2, 1) := by decide +kernel
theorem dX6_statement_218 : decode cX6_statement 218 = .ok (.bipush 29, 2) := by decide +kernel
theorem dX6_statement_220 : decode cX6_statement 220 = .ok (.if_icmp .eq 21, 3) := by decide +kernel
theorem dX6_statement_223 : decode cX6_statement 223 = .ok (.iload_n 2, 1) := by decide +kernel
theorem dX6_statement_224 : decode cX6_statement 224 = .ok (.bipush 10, 2) := by decide +kernel
theorem dX6_statement_226 : decode cX6_statement 226 = .ok (.if_icmp .eq 15, 3) := by decide +kernel
theorem dX6_statement_229 : decode cX6_statement 229 = .ok (.iload_n 2, 1) := by decide +kernel
theorem dX6_statement_230 : decode cX6_statement 230 = .ok (.bipush 14, 2) := by decide +kernel
theorem dX6_statement_232 : decode cX6_statement 232 = .ok (.if_icmp .eq 9, 3) := by decide +kernel
theorem dX6_statement_235 : decode cX6_statement 235 = .ok (.iload_n 2, 1) := by decide +kernel
theorem dX6_statement_236 : decode cX6_statement 236 = .ok (.bipush 18, 2) := by decide +kernel
theorem dX6_statement_238 : decode cX6_statement 238 = .ok (.if_icmp .ne 12, 3) := by decide +kernel
theorem dX6_statement_241 : decode cX6_statement 241 = .ok (.aload_n 0, 1) := by decide +kernel
theorem dX6_statement_242 : decode cX6_statement 242 = .ok (.iload_n 1, 1) := by decide +kernel
theorem dX6_statement_243 : decode cX6_statement 243 = .ok (.iload_n 2, 1) := by decide +kernel
theorem dX6_statement_244 : decode cX6_statement 244 = .ok (.invokevirtual 195, 3) := by decide +kernel
theorem dX6_statement_247 : decode cX6_statement 247 = .ok (.goto 11, 3) := by decide +kernel
theorem dX6_statement_250 : decode cX6_statement 250 = .ok (.aload_n 0, 1) := by decide +kernel
theorem dX6_statement_251 : decode cX6_statement 251 = .ok (.bipush 41, 2) := by decide +kernel
theorem dX6_statement_253 : decode cX6_statement 253 = .ok (.iload_n 1, 1) := by decide +kernel
theorem dX6_statement_254 : decode cX6_statement 254 = .ok (.iconst 0, 1) := by decide +kernel
theorem dX6_statement_255 : decode cX6_statement 255 = .ok (.invokevirtual 106, 3) := by decide +kernel
theorem dX6_statement_258 : decode cX6_statement 258 = .ok (.return_, 1) := by decide +kernel
theorem dX6_leaving_0 : decode cX6_leaving 0 = .ok (.aload_n 0, 1) := by decide +kernel
theorem dX6_leaving_1 : decode cX6_leaving 1 = .ok (.iload_n 1, 1) := by decide +kernel
theorem dX6_leaving_2 : decode cX6_leaving 2 = .ok (.iload_n 2, 1) := by decide +kernel
theorem dX6_leaving_3 : decode cX6_leaving 3 = .ok (.bipush 21, 2) := by decide +kernel
theorem dX6_leaving_5 : decode cX6_leaving 5 = .ok (.if_icmp .ne 8, 3) := by decide +kernel
theorem dX6_leaving_8 : decode cX6_leaving 8 = .ok (.bipush 42, 2) := by decide +kernel
theorem dX6_leaving_10 : decode cX6_leaving 10 = .ok (.goto 49, 3) := by decide +kernel
theorem dX6_leaving_13 : decode cX6_leaving 13 = .ok (.iload_n 2, 1) := by decide +kernel
theorem dX6_leaving_14 : decode cX6_leaving 14 = .ok (.bipush 16, 2) := by decide +kernel
theorem dX6_leaving_16 : decode cX6_leaving 16 = .ok (.if_icmp .ne 8, 3) := by decide +kernel
theorem dX6_leaving_19 : decode cX6_leaving 19 = .ok (.bipush 43, 2) := by decide +kernel
theorem dX6_leaving_21 : decode cX6_leaving 21 = .ok (.goto 38, 3) := by decide +kernel
theorem dX6_leaving_24 : decode cX6_leaving 24 = .ok (.iload_n 2, 1) := by decide +kernel
theorem dX6_leaving_25 : decode cX6_leaving 25 = .ok (.bipush 29, 2) := by decide +kernel
theorem dX6_leaving_27 : decode cX6_leaving 27 = .ok (.if_icmp .ne 8, 3) := by decide +kernel
theorem dX6_leaving_30 : decode cX6_leaving 30 = .ok (.bipush 44, 2) := by decide +kernel
theorem dX6_leaving_32 : decode cX6_leaving 32 = .ok (.goto 27, 3) := by decide +kernel
theorem dX6_leaving_35 : decode cX6_leaving 35 = .ok (.iload_n 2, 1) := by decide +kernel
theorem dX6_leaving_36 : decode cX6_leaving 36 = .ok (.bipush 10, 2) := by decide +kernel
theorem dX6_leaving_38 : decode cX6_leaving 38 = .ok (.if_icmp .ne 8, 3) := by decide +kernel
theorem dX6_leaving_41 : decode cX6_leaving 41 = .ok (.bipush 45, 2) := by decide +kernel
theorem dX6_leaving_43 : decode cX6_leaving 43 = .ok (.goto 16, 3) := by decide +kernel
theorem dX6_leaving_46 : decode cX6_leaving 46 = .ok (.iload_n 2, 1) := by decide +kernel
theorem dX6_leaving_47 : decode cX6_leaving 47 = .ok (.bipush 14, 2) := by decide +kernel
theorem dX6_leaving_49 : decode cX6_leaving 49 = .ok (.if_icmp .ne 8, 3) := by decide +kernel
theorem dX6_leaving_52 : decode cX6_leaving 52 = .ok (.bipush 46, 2) := by decide +kernel
theorem dX6_leaving_54 : decode cX6_leaving 54 = .ok (.goto 5, 3) := by decide +kernel
theorem dX6_leaving_57 : decode cX6_leaving 57 = .ok (.bipush 47, 2) := by decide +kernel
theorem dX6_leaving_59 : decode cX6_leaving 59 = .ok (.aload_n 0, 1) := by decide +kernel
theorem dX6_leaving_60 : decode cX6_leaving 60 = .ok (.getfield 77, 3) := by decide +kernel
theorem dX6_leaving_63 : decode cX6_leaving 63 = .ok (.invokevirtual 99, 3) := by decide +kernel
theorem dX6_leaving_66 : decode cX6_leaving 66 = .ok (.istore_n 3, 1) := by decide +kernel
theorem dX6_leaving_67 : decode cX6_leaving 67 = .ok (.aload_n 0, 1) := by decide +kernel
theorem dX6_leaving_68 : decode cX6_leaving 68 = .ok (.dup, 1) := by decide +kernel
theorem dX6_leaving_69 : decode cX6_leaving 69 = .ok (.getfield 77, 3) := by decide +kernel
theorem dX6_leaving_72 : decode cX6_leaving 72 = .ok (.iconst 1, 1) := by decide +kernel
theorem dX6_leaving_73 : decode cX6_leaving 73 = .ok (.iadd, 1) := by decide +kernel
theorem dX6_leaving_74 : decode cX6_leaving 74 = .ok (.putfield 77, 3) := by decide +kernel
theorem dX6_leaving_77 : decode cX6_leaving 77 = .ok (.iload_n 2, 1) := by decide +kernel
theorem dX6_leaving_78 : decode cX6_leaving 78 = .ok (.bipush 21, 2) := by decide +kernel
theorem dX6_leaving_80 : decode cX6_leaving 80 = .ok (.if_icmp .eq 9, 3) := by decide +kernel
theorem dX6_leaving_83 : decode cX6_leaving 83 = .ok (.iload_n 2, 1) := by decide +kernel
theorem dX6_leaving_84 : decode cX6_leaving 84 = .ok (.bipush 16, 2) := by decide +kernel
theorem dX6_leaving_86 : decode cX6_leaving 86 = .ok (.if_icmp .ne 13, 3) := by decide +kernel
theorem dX6_leaving_89 : decode cX6_leaving 89 = .ok (.aload_n 0, 1) := by decide +kernel
theorem dX6_leaving_90 : decode cX6_leaving 90 = .ok (.iload_n 3, 1) := by decide +kernel
theorem dX6_leaving_91 : decode cX6_leaving 91 = .ok (.iconst 0, 1) := by decide +kernel
theorem dX6_leaving_92 : decode cX6_leaving 92 = .ok (.iconst 1, 1) := by decide +kernel
theorem dX6_leaving_93 : decode cX6_leaving 93 = .ok (.invokevirtual 117, 3) := by decide +kernel
theorem dX6_leaving_96 : decode cX6_leaving 96 = .ok (.goto 54, 3) := by decide +kernel
theorem dX6_leaving_99 : decode cX6_leaving 99 = .ok (.iload_n 2, 1) := by decide +kernel
theorem dX6_leaving_100 : decode cX6_leaving 100 = .ok (.bipush 29, 2) := by decide +kernel
theorem dX6_leaving_102 : decode cX6_leaving 102 = .ok (.if_icmp .ne 22, 3) := by decide +kernel
theorem dX6_leaving_105 : decode cX6_leaving 105 = .ok (.aload_n 0, 1) := by decide +kernel
theorem dX6_leaving_106 : decode cX6_leaving 106 = .ok (.invokevirtual 83, 3) := by decide +kernel
theorem dX6_leaving_109 : decode cX6_leaving 109 = .ok (.invokestatic 171, 3) := by decide +kernel
theorem dX6_leaving_112 : decode cX6_leaving 112 = .ok (.ifCond .eq 12, 3) := by decide +kernel
theorem dX6_leaving_115 : decode cX6_leaving 115 = .ok (.aload_n 0, 1) := by decide +kernel
theorem dX6_leaving_116 : decode cX6_leaving 116 = .ok (.iload_n 3, 1) := by decide +kernel
theorem dX6_leaving_117 : decode cX6_leaving 117 = .ok (.iconst 0, 1) := by decide +kernel
theorem dX6_leaving_118 : decode cX6_leaving 118 = .ok (.invokevirtual 159, 3) := by decide +kernel
theorem dX6_leaving_121 : decode cX6_leaving 121 = .ok (.goto 29, 3) := by decide +kernel
theorem dX6_leaving_124 : decode cX6_leaving 124 = .ok (.iload_n 2, 1) := by decide +kernel
theorem dX6_leaving_125 : decode cX6_leaving 125 = .ok (.bipush 10, 2) := by decide +kernel
theorem dX6_leaving_127 : decode cX6_leaving 127 = .ok (.if_icmp .eq 9, 3) := by decide +kernel
theorem dX6_leaving_130 : decode cX6_leaving 130 = .ok (.iload_n 2, 1) := by decide +kernel
theorem dX6_leaving_131 : decode cX6_leaving 131 = .ok (.bipush 14, 2) := by decide +kernel
theorem dX6_leaving_133 : decode cX6_leaving 133 = .ok (.if_icmp .ne 17, 3) := by decide +kernel
theorem dX6_leaving_136 : decode cX6_leaving 136 = .ok (.aload_n 0, 1) := by decide +kernel
theorem dX6_leaving_137 : decode cX6_leaving 137 = .ok (.invokevirtual 83, 3) := by decide +kernel
theorem dX6_leaving_140 : decode cX6_leaving 140 = .ok (.iconst 1, 1) := by decide +kernel
theorem dX6_leaving_141 : decode cX6_leaving 141 = .ok (.if_icmp .ne 9, 3) := by decide +kernel
theorem dX6_leaving_144 : decode cX6_leaving 144 = .ok (.aload_n 0, 1) := by decide +kernel
theorem dX6_leaving_145 : decode cX6_leaving 145 = .ok (.iload_n 3, 1) := by decide +kernel
theorem dX6_leaving_146 : decode cX6_leaving 146 = .ok (.invokevirtual 130, 3) := by decide +kernel
theorem dX6_leaving_149 : decode cX6_leaving 149 = .ok (.pop, 1) := by decide +kernel
theorem dX6_leaving_150 : decode cX6_leaving 150 = .ok (.return_, 1) := by decide +kernel
theorem dX6_simple_0 : decode cX6_simple 0 = .ok (.aload_n 0, 1) := by decide +kernel
theorem dX6_simple_1 : decode cX6_simple 1 = .ok (.bipush 42, 2) := by decide +kernel
theorem dX6_simple_3 : decode cX6_simple 3 = .ok (.iload_n 1, 1) := by decide +kernel
theorem dX6_simple_4 : decode cX6_simple 4 = .ok (.iload_n 2, 1) := by decide +kernel
theorem dX6_simple_5 : decode cX6_simple 5 = .ok (.aload_n 0, 1) := by decide +kernel
theorem dX6_simple_6 : decode cX6_simple 6 = .ok (.getfield 77, 3) := by decide +kernel
theorem dX6_simple_9 : decode cX6_simple 9 = .ok (.bipush 8, 2) := by decide +kernel
theorem dX6_simple_11 : decode cX6_simple 11 = .ok (.ishl, 1) := by decide +kernel
theorem dX6_simple_12 : decode cX6_simple 12 = .ok (.ior, 1) := by decide +kernel
theorem dX6_simple_13 : decode cX6_simple 13 = .ok (.invokevirtual 106, 3) := by decide +kernel
theorem dX6_simple_16 : decode cX6_simple 16 = .ok (.aload_n 0, 1) := by decide +kernel
theorem dX6_simple_17 : decode cX6_simple 17 = .ok (.iload_n 1, 1) := by decide +kernel
theorem dX6_simple_18 : decode cX6_simple 18 = .ok (.iload_n 2, 1) := by decide +kernel
theorem dX6_simple_19 : decode cX6_simple 19 = .ok (.iconst 1, 1) := by decide +kernel
theorem dX6_simple_20 : decode cX6_simple 20 = .ok (.iand, 1) := by decide +kernel
theorem dX6_simple_21 : decode cX6_simple 21 = .ok (.iload_n 2, 1) := by decide +kernel
theorem dX6_simple_22 : decode cX6_simple 22 = .ok (.bipush 8, 2) := by decide +kernel
theorem dX6_simple_24 : decode cX6_simple 24 = .ok (.invokestatic 133, 3) := by decide +kernel
theorem dX6_simple_27 : decode cX6_simple 27 = .ok (.ifCond .eq 7, 3) := by decide +kernel
theorem dX6_simple_30 : decode cX6_simple 30 = .ok (.iconst 2, 1) := by decide +kernel
theorem dX6_simple_31 : decode cX6_simple 31 = .ok (.goto 4, 3) := by decide +kernel
theorem dX6_simple_34 : decode cX6_simple 34 = .ok (.iconst 0, 1) := by decide +kernel
theorem dX6_simple_35 : decode cX6_simple 35 = .ok (.ior, 1) := by decide +kernel
theorem dX6_simple_36 : decode cX6_simple 36 = .ok (.iconst 1, 1) := by decide +kernel
theorem dX6_simple_37 : decode cX6_simple 37 = .ok (.invokevirtual 117, 3) := by decide +kernel
theorem dX6_simple_40 : decode cX6_simple 40 = .ok (.return_, 1) := by decide +kernel
theorem dX6_simpleRest_0 : decode cX6_simpleRest 0 = .ok (.iload_n 2, 1) := by decide +kernel
theorem dX6_simpleRest_1 : decode cX6_simpleRest 1 = .ok (.sipush 255, 3) := by decide +kernel
theorem dX6_simpleRest_4 : decode cX6_simpleRest 4 = .ok (.iand, 1) := by decide +kernel
theorem dX6_simpleRest_5 : decode cX6_simpleRest 5 = .ok (.istore_n 3, 1) := by decide +kernel
theorem dX6_simpleRest_6 : decode cX6_simpleRest 6 = .ok (.iload_n 2, 1) := by decide +kernel
theorem dX6_simpleRest_7 : decode cX6_simpleRest 7 = .ok (.bipush 8, 2) := by decide +kernel
theorem dX6_simpleRest_9 : decode cX6_simpleRest 9 = .ok (.ishr, 1) := by decide +kernel
theorem dX6_simpleRest_10 : decode cX6_simpleRest 10 = .ok (.istore 4, 2) := by decide +kernel
theorem dX6_simpleRest_12 : decode cX6_simpleRest 12 = .ok (.aload_n 0, 1) := by decide +kernel
theorem dX6_simpleRest_13 : decode cX6_simpleRest 13 = .ok (.invokevirtual 83, 3) := by decide +kernel
theorem dX6_simpleRest_16 : decode cX6_simpleRest 16 = .ok (.istore 5, 2) := by decide +kernel
theorem dX6_simpleRest_18 : decode cX6_simpleRest 18 = .ok (.aload_n 0, 1) := by decide +kernel
theorem dX6_simpleRest_19 : decode cX6_simpleRest 19 = .ok (.getfield 14, 3) := by decide +kernel
theorem dX6_simpleRest_22 : decode cX6_simpleRest 22 = .ok (.aload_n 0, 1) := by decide +kernel
theorem dX6_simpleRest_23 : decode cX6_simpleRest 23 = .ok (.getfield 27, 3) := by decide +kernel
theorem dX6_simpleRest_26 : decode cX6_simpleRest 26 = .ok (.iload_n 1, 1) := by decide +kernel
theorem dX6_simpleRest_27 : decode cX6_simpleRest 27 = .ok (.iaload, 1) := by decide +kernel
theorem dX6_simpleRest_28 : decode cX6_simpleRest 28 = .ok (.iaload, 1) := by decide +kernel
theorem dX6_simpleRest_29 : decode cX6_simpleRest 29 = .ok (.iconst 5, 1) := by decide +kernel
theorem dX6_simpleRest_30 : decode cX6_simpleRest 30 = .ok (.if_icmp .ne 7, 3) := by decide +kernel
theorem dX6_simpleRest_33 : decode cX6_simpleRest 33 = .ok (.iconst 1, 1) := by decide +kernel
theorem dX6_simpleRest_34 : decode cX6_simpleRest 34 = .ok (.goto 4, 3) := by decide +kernel
theorem dX6_simpleRest_37 : decode cX6_simpleRest 37 = .ok (.iconst 0, 1) := by decide +kernel
theorem dX6_simpleRest_38 : decode cX6_simpleRest 38 = .ok (.istore 6, 2) := by decide +kernel
theorem dX6_simpleRest_40 : decode cX6_simpleRest 40 = .ok (.aload_n 0, 1) := by decide +kernel
theorem dX6_simpleRest_41 : decode cX6_simpleRest 41 = .ok (.getfield 14, 3) := by decide +kernel
theorem dX6_simpleRest_44 : decode cX6_simpleRest 44 = .ok (.aload_n 0, 1) := by decide +kernel
theorem dX6_simpleRest_45 : decode cX6_simpleRest 45 = .ok (.getfield 27, 3) := by decide +kernel
theorem dX6_simpleRest_48 : decode cX6_simpleRest 48 = .ok (.iload_n 1, 1) := by decide +kernel
theorem dX6_simpleRest_49 : decode cX6_simpleRest 49 = .ok (.iaload, 1) := by decide +kernel
theorem dX6_simpleRest_50 : decode cX6_simpleRest 50 = .ok (.iaload, 1) := by decide +kernel
theorem dX6_simpleRest_51 : decode cX6_simpleRest 51 = .ok (.bipush 69, 2) := by decide +kernel
theorem dX6_simpleRest_53 : decode cX6_simpleRest 53 = .ok (.if_icmp .ne 4, 3) := by decide +kernel
theorem dX6_simpleRest_56 : decode cX6_simpleRest 56 = .ok (.return_, 1) := by decide +kernel
theorem dX6_simpleRest_57 : decode cX6_simpleRest 57 = .ok (.iload_n 3, 1) := by decide +kernel
theorem dX6_simpleRest_58 : decode cX6_simpleRest 58 = .ok (.bipush 16, 2) := by decide +kernel
theorem dX6_simpleRest_60 : decode cX6_simpleRest 60 = .ok (.invokestatic 133, 3) := by decide +kernel
theorem dX6_simpleRest_63 : decode cX6_simpleRest 63 = .ok (.ifCond .eq 16, 3) := by decide +kernel
theorem dX6_simpleRest_66 : decode cX6_simpleRest 66 = .ok (.iload 5, 2) := by decide +kernel
theorem dX6_simpleRest_68 : decode cX6_simpleRest 68 = .ok (.bipush 76, 2) := by decide +kernel
theorem dX6_simpleRest_70 : decode cX6_simpleRest 70 = .ok (.if_icmp .ne 8, 3) := by decide +kernel
theorem dX6_simpleRest_73 : decode cX6_simpleRest 73 = .ok (.iload 6, 2) := by decide +kernel
theorem dX6_simpleRest_75 : decode cX6_simpleRest 75 = .ok (.ifCond .ne 4, 3) := by decide +kernel
theorem dX6_simpleRest_78 : decode cX6_simpleRest 78 = .ok (.return_, 1) := by decide +kernel
theorem dX6_simpleRest_79 : decode cX6_simpleRest 79 = .ok (.iload_n 3, 1) := by decide +kernel
theorem dX6_simpleRest_80 : decode cX6_simpleRest 80 = .ok (.bipush 32, 2) := by decide +kernel
theorem dX6_simpleRest_82 : decode cX6_simpleRest 82 = .ok (.invokestatic 133, 3) := by decide +kernel
theorem dX6_simpleRest_85 : decode cX6_simpleRest 85 = .ok (.ifCond .ne 7, 3) := by decide +kernel
theorem dX6_simpleRest_88 : decode cX6_simpleRest 88 = .ok (.iconst 1, 1) := by decide +kernel
theorem dX6_simpleRest_89 : decode cX6_simpleRest 89 = .ok (.goto 4, 3) := by decide +kernel
theorem dX6_simpleRest_92 : decode cX6_simpleRest 92 = .ok (.iconst 0, 1) := by decide +kernel
theorem dX6_simpleRest_93 : decode cX6_simpleRest 93 = .ok (.istore 7, 2) := by decide +kernel
theorem dX6_simpleRest_95 : decode cX6_simpleRest 95 = .ok (.iload 5, 2) := by decide +kernel
theorem dX6_simpleRest_97 : decode cX6_simpleRest 97 = .ok (.bipush 64, 2) := by decide +kernel
theorem dX6_simpleRest_99 : decode cX6_simpleRest 99 = .ok (.if_icmp .eq 36, 3) := by decide +kernel
theorem dX6_simpleRest_102 : decode cX6_simpleRest 102 = .ok (.iload 7, 2) := by decide +kernel
theorem dX6_simpleRest_104 : decode cX6_simpleRest 104 = .ok (.ifCond .eq 117, 3) := by decide +kernel
theorem dX6_simpleRest_107 : decode cX6_simpleRest 107 = .ok (.iload 5, 2) := by decide +kernel
theorem dX6_simpleRest_109 : decode cX6_simpleRest 109 = .ok (.bipush 65, 2) := by decide +kernel
theorem dX6_simpleRest_111 : decode cX6_simpleRest 111 = .ok (.if_icmp .eq 24, 3) := by decide +kernel
theorem dX6_simpleRest_114 : decode cX6_simpleRest 114 = .ok (.iload 5, 2) := by decide +kernel
theorem dX6_simpleRest_116 : decode cX6_simpleRest 116 = .ok (.bipush 66, 2) := by decide +kernel
theorem dX6_simpleRest_118 : decode cX6_simpleRest 118 = .ok (.if_icmp .eq 17, 3) := by decide +kernel
theorem dX6_simpleRest_121 : decode cX6_simpleRest 121 = .ok (.iload 5, 2) := by decide +kernel
theorem dX6_simpleRest_123 : decode cX6_simpleRest 123 = .ok (.bipush 51, 2) := by decide +kernel
theorem dX6_simpleRest_125 : decode cX6_simpleRest 125 = .ok (.if_icmp .lt 96, 3) := by decide +kernel
theorem dX6_simpleRest_128 : decode cX6_simpleRest 128 = .ok (.iload 5, 2) := by decide +kernel
theorem dX6_simpleRest_130 : decode cX6_simpleRest 130 = .ok (.bipush 61, 2) := by decide +kernel
theorem dX6_simpleRest_132 : decode cX6_simpleRest 132 = .ok (.if_icmp .gt 89, 3) := by decide +kernel
theorem dX6_simpleRest_135 : decode cX6_simpleRest 135 = .ok (.aload_n 0, 1) := by decide +kernel
theorem dX6_simpleRest_136 : decode cX6_simpleRest 136 = .ok (.iload_n 1, 1) := by decide +kernel
theorem dX6_simpleRest_137 : decode cX6_simpleRest 137 = .ok (.iload 5, 2) := by decide +kernel
theorem dX6_simpleRest_139 : decode cX6_simpleRest 139 = .ok (.bipush 64, 2) := by decide +kernel
theorem dX6_simpleRest_141 : decode cX6_simpleRest 141 = .ok (.if_icmp .ne 8, 3) := by decide +kernel
theorem dX6_simpleRest_144 : decode cX6_simpleRest 144 = .ok (.bipush 51, 2) := by decide +kernel
theorem dX6_simpleRest_146 : decode cX6_simpleRest 146 = .ok (.goto 29, 3) := by decide +kernel
theorem dX6_simpleRest_149 : decode cX6_simpleRest 149 = .ok (.iload 5, 2) := by decide +kernel
theorem dX6_simpleRest_151 : decode cX6_simpleRest 151 = .ok (.bipush 65, 2) := by decide +kernel
theorem dX6_simpleRest_153 : decode cX6_simpleRest 153 = .ok (.if_icmp .ne 8, 3) := by decide +kernel
theorem dX6_simpleRest_156 : decode cX6_simpleRest 156 = .ok (.bipush 52, 2) := by decide +kernel
theorem dX6_simpleRest_158 : decode cX6_simpleRest 158 = .ok (.goto 17, 3) := by decide +kernel
theorem dX6_simpleRest_161 : decode cX6_simpleRest 161 = .ok (.iload 5, 2) := by decide +kernel
theorem dX6_simpleRest_163 : decode cX6_simpleRest 163 = .ok (.bipush 66, 2) := by decide +kernel
theorem dX6_simpleRest_165 : decode cX6_simpleRest 165 = .ok (.if_icmp .ne 8, 3) := by decide +kernel
theorem dX6_simpleRest_168 : decode cX6_simpleRest 168 = .ok (.bipush 53, 2) := by decide +kernel
theorem dX6_simpleRest_170 : decode cX6_simpleRest 170 = .ok (.goto 5, 3) := by decide +kernel
theorem dX6_simpleRest_173 : decode cX6_simpleRest 173 = .ok (.bipush 55, 2) := by decide +kernel
theorem dX6_simpleRest_175 : decode cX6_simpleRest 175 = .ok (.aload_n 0, 1) := by decide +kernel
theorem dX6_simpleRest_176 : decode cX6_simpleRest 176 = .ok (.getfield 77, 3) := by decide +kernel
theorem dX6_simpleRest_179 : decode cX6_simpleRest 179 = .ok (.invokevirtual 114, 3) := by decide +kernel
theorem dX6_simpleRest_182 : decode cX6_simpleRest 182 = .ok (.istore 8, 2) := by decide +kernel
theorem dX6_simpleRest_184 : decode cX6_simpleRest 184 = .ok (.aload_n 0, 1) := by decide +kernel
theorem dX6_simpleRest_185 : decode cX6_simpleRest 185 = .ok (.dup, 1) := by decide +kernel
theorem dX6_simpleRest_186 : decode cX6_simpleRest 186 = .ok (.getfield 77, 3) := by decide +kernel
theorem dX6_simpleRest_189 : decode cX6_simpleRest 189 = .ok (.iconst 1, 1) := by decide +kernel
theorem dX6_simpleRest_190 : decode cX6_simpleRest 190 = .ok (.iadd, 1) := by decide +kernel
theorem dX6_simpleRest_191 : decode cX6_simpleRest 191 = .ok (.putfield 77, 3) := by decide +kernel
theorem dX6_simpleRest_194 : decode cX6_simpleRest 194 = .ok (.iload 5, 2) := by decide +kernel
theorem dX6_simpleRest_196 : decode cX6_simpleRest 196 = .ok (.bipush 65, 2) := by decide +kernel
theorem dX6_simpleRest_198 : decode cX6_simpleRest 198 = .ok (.if_icmp .eq 20, 3) := by decide +kernel
theorem dX6_simpleRest_201 : decode cX6_simpleRest 201 = .ok (.iload 5, 2) := by decide +kernel
theorem dX6_simpleRest_203 : decode cX6_simpleRest 203 = .ok (.bipush 66, 2) := by decide +kernel
theorem dX6_simpleRest_205 : decode cX6_simpleRest 205 = .ok (.if_icmp .eq 13, 3) := by decide +kernel
theorem dX6_simpleRest_208 : decode cX6_simpleRest 208 = .ok (.aload_n 0, 1) := by decide +kernel
theorem dX6_simpleRest_209 : decode cX6_simpleRest 209 = .ok (.iload 8, 2) := by decide +kernel
theorem dX6_simpleRest_211 : decode cX6_simpleRest 211 = .ok (.iload_n 3, 1) := by decide +kernel
theorem dX6_simpleRest_212 : decode cX6_simpleRest 212 = .ok (.iconst 1, 1) := by decide +kernel
theorem dX6_simpleRest_213 : decode cX6_simpleRest 213 = .ok (.iand, 1) := by decide +kernel
theorem dX6_simpleRest_214 : decode cX6_simpleRest 214 = .ok (.iconst 1, 1) := by decide +kernel
theorem dX6_simpleRest_215 : decode cX6_simpleRest 215 = .ok (.invokevirtual 117, 3) := by decide +kernel
theorem dX6_simpleRest_218 : decode cX6_simpleRest 218 = .ok (.goto 140, 3) := by decide +kernel
theorem dX6_simpleRest_221 : decode cX6_simpleRest 221 = .ok (.iload 5, 2) := by decide +kernel
theorem dX6_simpleRest_223 : decode cX6_simpleRest 223 = .ok (.bipush 84, 2) := by decide +kernel
theorem dX6_simpleRest_225 : decode cX6_simpleRest 225 = .ok (.if_icmp .ne 56, 3) := by decide +kernel
theorem dX6_simpleRest_228 : decode cX6_simpleRest 228 = .ok (.aload_n 0, 1) := by decide +kernel
theorem dX6_simpleRest_229 : decode cX6_simpleRest 229 = .ok (.iload_n 1, 1) := by decide +kernel
theorem dX6_simpleRest_230 : decode cX6_simpleRest 230 = .ok (.bipush 13, 2) := by decide +kernel
theorem dX6_simpleRest_232 : decode cX6_simpleRest 232 = .ok (.iload 4, 2) := by decide +kernel
theorem dX6_simpleRest_234 : decode cX6_simpleRest 234 = .ok (.invokevirtual 114, 3) := by decide +kernel
theorem dX6_simpleRest_237 : decode cX6_simpleRest 237 = .ok (.istore 8, 2) := by decide +kernel
theorem dX6_simpleRest_239 : decode cX6_simpleRest 239 = .ok (.aload_n 0, 1) := by decide +kernel
theorem dX6_simpleRest_240 : decode cX6_simpleRest 240 = .ok (.dup, 1) := by decide +kernel
theorem dX6_simpleRest_241 : decode cX6_simpleRest 241 = .ok (.getfield 77, 3) := by decide +kernel
theorem dX6_simpleRest_244 : decode cX6_simpleRest 244 = .ok (.iconst 1, 1) := by decide +kernel
theorem dX6_simpleRest_245 : decode cX6_simpleRest 245 = .ok (.iadd, 1) := by decide +kernel
theorem dX6_simpleRest_246 : decode cX6_simpleRest 246 = .ok (.putfield 77, 3) := by decide +kernel
theorem dX6_simpleRest_249 : decode cX6_simpleRest 249 = .ok (.aload_n 0, 1) := by decide +kernel
theorem dX6_simpleRest_250 : decode cX6_simpleRest 250 = .ok (.bipush 43, 2) := by decide +kernel
theorem dX6_simpleRest_252 : decode cX6_simpleRest 252 = .ok (.iload_n 1, 1) := by decide +kernel
theorem dX6_simpleRest_253 : decode cX6_simpleRest 253 = .ok (.iload_n 3, 1) := by decide +kernel
theorem dX6_simpleRest_254 : decode cX6_simpleRest 254 = .ok (.invokevirtual 106, 3) := by decide +kernel
theorem dX6_simpleRest_257 : decode cX6_simpleRest 257 = .ok (.aload_n 0, 1) := by decide +kernel
theorem dX6_simpleRest_258 : decode cX6_simpleRest 258 = .ok (.bipush 32, 2) := by decide +kernel
theorem dX6_simpleRest_260 : decode cX6_simpleRest 260 = .ok (.iload 8, 2) := by decide +kernel
theorem dX6_simpleRest_262 : decode cX6_simpleRest 262 = .ok (.iload_n 3, 1) := by decide +kernel
theorem dX6_simpleRest_263 : decode cX6_simpleRest 263 = .ok (.iconst 1, 1) := by decide +kernel
theorem dX6_simpleRest_264 : decode cX6_simpleRest 264 = .ok (.iand, 1) := by decide +kernel
theorem dX6_simpleRest_265 : decode cX6_simpleRest 265 = .ok (.invokevirtual 106, 3) := by decide +kernel
theorem dX6_simpleRest_268 : decode cX6_simpleRest 268 = .ok (.aload_n 0, 1) := by decide +kernel
theorem dX6_simpleRest_269 : decode cX6_simpleRest 269 = .ok (.iload 8, 2) := by decide +kernel
theorem dX6_simpleRest_271 : decode cX6_simpleRest 271 = .ok (.iload_n 3, 1) := by decide +kernel
theorem dX6_simpleRest_272 : decode cX6_simpleRest 272 = .ok (.iconst 1, 1) := by decide +kernel
theorem dX6_simpleRest_273 : decode cX6_simpleRest 273 = .ok (.iand, 1) := by decide +kernel
theorem dX6_simpleRest_274 : decode cX6_simpleRest 274 = .ok (.iconst 1, 1) := by decide +kernel
theorem dX6_simpleRest_275 : decode cX6_simpleRest 275 = .ok (.invokevirtual 117, 3) := by decide +kernel
theorem dX6_simpleRest_278 : decode cX6_simpleRest 278 = .ok (.goto 80, 3) := by decide +kernel
theorem dX6_simpleRest_281 : decode cX6_simpleRest 281 = .ok (.iload 5, 2) := by decide +kernel
theorem dX6_simpleRest_283 : decode cX6_simpleRest 283 = .ok (.bipush 70, 2) := by decide +kernel
theorem dX6_simpleRest_285 : decode cX6_simpleRest 285 = .ok (.if_icmp .ne 22, 3) := by decide +kernel
theorem dX6_simpleRest_288 : decode cX6_simpleRest 288 = .ok (.aload_n 0, 1) := by decide +kernel
theorem dX6_simpleRest_289 : decode cX6_simpleRest 289 = .ok (.iload_n 1, 1) := by decide +kernel
theorem dX6_simpleRest_290 : decode cX6_simpleRest 290 = .ok (.bipush 13, 2) := by decide +kernel
theorem dX6_simpleRest_292 : decode cX6_simpleRest 292 = .ok (.iload 4, 2) := by decide +kernel
theorem dX6_simpleRest_294 : decode cX6_simpleRest 294 = .ok (.invokevirtual 114, 3) := by decide +kernel
theorem dX6_simpleRest_297 : decode cX6_simpleRest 297 = .ok (.pop, 1) := by decide +kernel
theorem dX6_simpleRest_298 : decode cX6_simpleRest 298 = .ok (.aload_n 0, 1) := by decide +kernel
theorem dX6_simpleRest_299 : decode cX6_simpleRest 299 = .ok (.iload_n 1, 1) := by decide +kernel
theorem dX6_simpleRest_300 : decode cX6_simpleRest 300 = .ok (.iload_n 3, 1) := by decide +kernel
theorem dX6_simpleRest_301 : decode cX6_simpleRest 301 = .ok (.invokevirtual 198, 3) := by decide +kernel
theorem dX6_simpleRest_304 : decode cX6_simpleRest 304 = .ok (.goto 54, 3) := by decide +kernel
theorem dX6_simpleRest_307 : decode cX6_simpleRest 307 = .ok (.iload 5, 2) := by decide +kernel
theorem dX6_simpleRest_309 : decode cX6_simpleRest 309 = .ok (.bipush 76, 2) := by decide +kernel
theorem dX6_simpleRest_311 : decode cX6_simpleRest 311 = .ok (.if_icmp .ne 37, 3) := by decide +kernel
theorem dX6_simpleRest_314 : decode cX6_simpleRest 314 = .ok (.iload 6, 2) := by decide +kernel
theorem dX6_simpleRest_316 : decode cX6_simpleRest 316 = .ok (.ifCond .eq 32, 3) := by decide +kernel
theorem dX6_simpleRest_319 : decode cX6_simpleRest 319 = .ok (.iload_n 3, 1) := by decide +kernel
theorem dX6_simpleRest_320 : decode cX6_simpleRest 320 = .ok (.bipush 64, 2) := by decide +kernel
theorem dX6_simpleRest_322 : decode cX6_simpleRest 322 = .ok (.invokestatic 133, 3) := by decide +kernel
theorem dX6_simpleRest_325 : decode cX6_simpleRest 325 = .ok (.ifCond .ne 23, 3) := by decide +kernel
theorem dX6_simpleRest_328 : decode cX6_simpleRest 328 = .ok (.aload_n 0, 1) := by decide +kernel
theorem dX6_simpleRest_329 : decode cX6_simpleRest 329 = .ok (.iload_n 1, 1) := by decide +kernel
theorem dX6_simpleRest_330 : decode cX6_simpleRest 330 = .ok (.bipush 12, 2) := by decide +kernel
theorem dX6_simpleRest_332 : decode cX6_simpleRest 332 = .ok (.iload 4, 2) := by decide +kernel
theorem dX6_simpleRest_334 : decode cX6_simpleRest 334 = .ok (.invokevirtual 114, 3) := by decide +kernel
theorem dX6_simpleRest_337 : decode cX6_simpleRest 337 = .ok (.pop, 1) := by decide +kernel
theorem dX6_simpleRest_338 : decode cX6_simpleRest 338 = .ok (.aload_n 0, 1) := by decide +kernel
theorem dX6_simpleRest_339 : decode cX6_simpleRest 339 = .ok (.iload_n 1, 1) := by decide +kernel
theorem dX6_simpleRest_340 : decode cX6_simpleRest 340 = .ok (.iload_n 3, 1) := by decide +kernel
theorem dX6_simpleRest_341 : decode cX6_simpleRest 341 = .ok (.iconst 1, 1) := by decide +kernel
theorem dX6_simpleRest_342 : decode cX6_simpleRest 342 = .ok (.invokevirtual 201, 3) := by decide +kernel
theorem dX6_simpleRest_345 : decode cX6_simpleRest 345 = .ok (.goto 13, 3) := by decide +kernel
theorem dX6_simpleRest_348 : decode cX6_simpleRest 348 = .ok (.aload_n 0, 1) := by decide +kernel
theorem dX6_simpleRest_349 : decode cX6_simpleRest 349 = .ok (.iload_n 1, 1) := by decide +kernel
theorem dX6_simpleRest_350 : decode cX6_simpleRest 350 = .ok (.bipush 50, 2) := by decide +kernel
theorem dX6_simpleRest_352 : decode cX6_simpleRest 352 = .ok (.iload 4, 2) := by decide +kernel
theorem dX6_simpleRest_354 : decode cX6_simpleRest 354 = .ok (.invokevirtual 114, 3) := by decide +kernel
theorem dX6_simpleRest_357 : decode cX6_simpleRest 357 = .ok (.pop, 1) := by decide +kernel
theorem dX6_simpleRest_358 : decode cX6_simpleRest 358 = .ok (.return_, 1) := by decide +kernel
theorem dX6_listRest_0 : decode cX6_listRest 0 = .ok (.aload_n 0, 1) := by decide +kernel
theorem dX6_listRest_1 : decode cX6_listRest 1 = .ok (.getfield 27, 3) := by decide +kernel
theorem dX6_listRest_4 : decode cX6_listRest 4 = .ok (.iload_n 1, 1) := by decide +kernel
theorem dX6_listRest_5 : decode cX6_listRest 5 = .ok (.iaload, 1) := by decide +kernel
theorem dX6_listRest_6 : decode cX6_listRest 6 = .ok (.istore_n 3, 1) := by decide +kernel
theorem dX6_listRest_7 : decode cX6_listRest 7 = .ok (.iconst 1, 1) := by decide +kernel
theorem dX6_listRest_8 : decode cX6_listRest 8 = .ok (.istore 4, 2) := by decide +kernel
theorem dX6_listRest_10 : decode cX6_listRest 10 = .ok (.aload_n 0, 1) := by decide +kernel
theorem dX6_listRest_11 : decode cX6_listRest 11 = .ok (.getfield 24, 3) := by decide +kernel
theorem dX6_listRest_14 : decode cX6_listRest 14 = .ok (.iload_n 3, 1) := by decide +kernel
theorem dX6_listRest_15 : decode cX6_listRest 15 = .ok (.iaload, 1) := by decide +kernel
theorem dX6_listRest_16 : decode cX6_listRest 16 = .ok (.istore 5, 2) := by decide +kernel
theorem dX6_listRest_18 : decode cX6_listRest 18 = .ok (.iload 5, 2) := by decide +kernel
theorem dX6_listRest_20 : decode cX6_listRest 20 = .ok (.ifCond .lt 38, 3) := by decide +kernel
theorem dX6_listRest_23 : decode cX6_listRest 23 = .ok (.iload 4, 2) := by decide +kernel
theorem dX6_listRest_25 : decode cX6_listRest 25 = .ok (.ifCond .eq 18, 3) := by decide +kernel
theorem dX6_listRest_28 : decode cX6_listRest 28 = .ok (.aload_n 0, 1) := by decide +kernel
theorem dX6_listRest_29 : decode cX6_listRest 29 = .ok (.getfield 14, 3) := by decide +kernel
theorem dX6_listRest_32 : decode cX6_listRest 32 = .ok (.iload 5, 2) := by decide +kernel
theorem dX6_listRest_34 : decode cX6_listRest 34 = .ok (.iaload, 1) := by decide +kernel
theorem dX6_listRest_35 : decode cX6_listRest 35 = .ok (.iconst 5, 1) := by decide +kernel
theorem dX6_listRest_36 : decode cX6_listRest 36 = .ok (.if_icmp .ne 7, 3) := by decide +kernel
theorem dX6_listRest_39 : decode cX6_listRest 39 = .ok (.iconst 1, 1) := by decide +kernel
theorem dX6_listRest_40 : decode cX6_listRest 40 = .ok (.goto 4, 3) := by decide +kernel
theorem dX6_listRest_43 : decode cX6_listRest 43 = .ok (.iconst 0, 1) := by decide +kernel
theorem dX6_listRest_44 : decode cX6_listRest 44 = .ok (.istore 4, 2) := by decide +kernel
theorem dX6_listRest_46 : decode cX6_listRest 46 = .ok (.aload_n 0, 1) := by decide +kernel
theorem dX6_listRest_47 : decode cX6_listRest 47 = .ok (.getfield 30, 3) := by decide +kernel
theorem dX6_listRest_50 : decode cX6_listRest 50 = .ok (.iload 5, 2) := by decide +kernel
theorem dX6_listRest_52 : decode cX6_listRest 52 = .ok (.iaload, 1) := by decide +kernel
theorem dX6_listRest_53 : decode cX6_listRest 53 = .ok (.istore 5, 2) := by decide +kernel
theorem dX6_listRest_55 : decode cX6_listRest 55 = .ok (.goto (-37), 3) := by decide +kernel
theorem dX6_listRest_58 : decode cX6_listRest 58 = .ok (.aload_n 0, 1) := by decide +kernel
theorem dX6_listRest_59 : decode cX6_listRest 59 = .ok (.invokevirtual 83, 3) := by decide +kernel
theorem dX6_listRest_62 : decode cX6_listRest 62 = .ok (.bipush 70, 2) := by decide +kernel
theorem dX6_listRest_64 : decode cX6_listRest 64 = .ok (.if_icmp .ne 12, 3) := by decide +kernel
theorem dX6_listRest_67 : decode cX6_listRest 67 = .ok (.aload_n 0, 1) := by decide +kernel
theorem dX6_listRest_68 : decode cX6_listRest 68 = .ok (.iload_n 1, 1) := by decide +kernel
theorem dX6_listRest_69 : decode cX6_listRest 69 = .ok (.iload_n 2, 1) := by decide +kernel
theorem dX6_listRest_70 : decode cX6_listRest 70 = .ok (.invokevirtual 198, 3) := by decide +kernel
theorem dX6_listRest_73 : decode cX6_listRest 73 = .ok (.goto 48, 3) := by decide +kernel
theorem dX6_listRest_76 : decode cX6_listRest 76 = .ok (.aload_n 0, 1) := by decide +kernel
theorem dX6_listRest_77 : decode cX6_listRest 77 = .ok (.invokevirtual 83, 3) := by decide +kernel
theorem dX6_listRest_80 : decode cX6_listRest 80 = .ok (.bipush 76, 2) := by decide +kernel
theorem dX6_listRest_82 : decode cX6_listRest 82 = .ok (.if_icmp .ne 35, 3) := by decide +kernel
theorem dX6_listRest_85 : decode cX6_listRest 85 = .ok (.iload 4, 2) := by decide +kernel
theorem dX6_listRest_87 : decode cX6_listRest 87 = .ok (.ifCond .eq 30, 3) := by decide +kernel
theorem dX6_listRest_90 : decode cX6_listRest 90 = .ok (.iload_n 2, 1) := by decide +kernel
theorem dX6_listRest_91 : decode cX6_listRest 91 = .ok (.bipush 64, 2) := by decide +kernel
theorem dX6_listRest_93 : decode cX6_listRest 93 = .ok (.invokestatic 133, 3) := by decide +kernel
theorem dX6_listRest_96 : decode cX6_listRest 96 = .ok (.ifCond .ne 21, 3) := by decide +kernel
theorem dX6_listRest_99 : decode cX6_listRest 99 = .ok (.aload_n 0, 1) := by decide +kernel
theorem dX6_listRest_100 : decode cX6_listRest 100 = .ok (.getfield 14, 3) := by decide +kernel
theorem dX6_listRest_103 : decode cX6_listRest 103 = .ok (.iload_n 3, 1) := by decide +kernel
theorem dX6_listRest_104 : decode cX6_listRest 104 = .ok (.bipush 12, 2) := by decide +kernel
theorem dX6_listRest_106 : decode cX6_listRest 106 = .ok (.iastore, 1) := by decide +kernel
theorem dX6_listRest_107 : decode cX6_listRest 107 = .ok (.aload_n 0, 1) := by decide +kernel
theorem dX6_listRest_108 : decode cX6_listRest 108 = .ok (.iload_n 1, 1) := by decide +kernel
theorem dX6_listRest_109 : decode cX6_listRest 109 = .ok (.iload_n 2, 1) := by decide +kernel
theorem dX6_listRest_110 : decode cX6_listRest 110 = .ok (.iconst 0, 1) := by decide +kernel
theorem dX6_listRest_111 : decode cX6_listRest 111 = .ok (.invokevirtual 201, 3) := by decide +kernel
theorem dX6_listRest_114 : decode cX6_listRest 114 = .ok (.goto 7, 3) := by decide +kernel
theorem dX6_listRest_117 : decode cX6_listRest 117 = .ok (.aload_n 0, 1) := by decide +kernel
theorem dX6_listRest_118 : decode cX6_listRest 118 = .ok (.invokevirtual 87, 3) := by decide +kernel
theorem dX6_listRest_121 : decode cX6_listRest 121 = .ok (.return_, 1) := by decide +kernel
theorem dX6_ranges_0 : decode cX6_ranges 0 = .ok (.iload_n 2, 1) := by decide +kernel
theorem dX6_ranges_1 : decode cX6_ranges 1 = .ok (.iconst 4, 1) := by decide +kernel
theorem dX6_ranges_2 : decode cX6_ranges 2 = .ok (.invokestatic 133, 3) := by decide +kernel
theorem dX6_ranges_5 : decode cX6_ranges 5 = .ok (.ifCond .eq 12, 3) := by decide +kernel
theorem dX6_ranges_8 : decode cX6_ranges 8 = .ok (.aload_n 0, 1) := by decide +kernel
theorem dX6_ranges_9 : decode cX6_ranges 9 = .ok (.invokevirtual 120, 3) := by decide +kernel
theorem dX6_ranges_12 : decode cX6_ranges 12 = .ok (.bipush 28, 2) := by decide +kernel
theorem dX6_ranges_14 : decode cX6_ranges 14 = .ok (.if_icmp .eq 5, 3) := by decide +kernel
theorem dX6_ranges_17 : decode cX6_ranges 17 = .ok (.iconst 0, 1) := by decide +kernel
theorem dX6_ranges_18 : decode cX6_ranges 18 = .ok (.ireturn, 1) := by decide +kernel
theorem dX6_ranges_19 : decode cX6_ranges 19 = .ok (.aload_n 0, 1) := by decide +kernel
theorem dX6_ranges_20 : decode cX6_ranges 20 = .ok (.invokevirtual 83, 3) := by decide +kernel
theorem dX6_ranges_23 : decode cX6_ranges 23 = .ok (.bipush 76, 2) := by decide +kernel
theorem dX6_ranges_25 : decode cX6_ranges 25 = .ok (.if_icmp .ne 15, 3) := by decide +kernel
theorem dX6_ranges_28 : decode cX6_ranges 28 = .ok (.aload_n 0, 1) := by decide +kernel
theorem dX6_ranges_29 : decode cX6_ranges 29 = .ok (.iload_n 1, 1) := by decide +kernel
theorem dX6_ranges_30 : decode cX6_ranges 30 = .ok (.bipush 67, 2) := by decide +kernel
theorem dX6_ranges_32 : decode cX6_ranges 32 = .ok (.aload_n 0, 1) := by decide +kernel
theorem dX6_ranges_33 : decode cX6_ranges 33 = .ok (.getfield 77, 3) := by decide +kernel
theorem dX6_ranges_36 : decode cX6_ranges 36 = .ok (.invokevirtual 114, 3) := by decide +kernel
theorem dX6_ranges_39 : decode cX6_ranges 39 = .ok (.pop, 1) := by decide +kernel
theorem dX6_ranges_40 : decode cX6_ranges 40 = .ok (.aload_n 0, 1) := by decide +kernel
theorem dX6_ranges_41 : decode cX6_ranges 41 = .ok (.dup, 1) := by decide +kernel
theorem dX6_ranges_42 : decode cX6_ranges 42 = .ok (.getfield 77, 3) := by decide +kernel
theorem dX6_ranges_45 : decode cX6_ranges 45 = .ok (.iconst 1, 1) := by decide +kernel
theorem dX6_ranges_46 : decode cX6_ranges 46 = .ok (.iadd, 1) := by decide +kernel
theorem dX6_ranges_47 : decode cX6_ranges 47 = .ok (.putfield 77, 3) := by decide +kernel
theorem dX6_ranges_50 : decode cX6_ranges 50 = .ok (.aload_n 0, 1) := by decide +kernel
theorem dX6_ranges_51 : decode cX6_ranges 51 = .ok (.iload_n 1, 1) := by decide +kernel
theorem dX6_ranges_52 : decode cX6_ranges 52 = .ok (.bipush 66, 2) := by decide +kernel
theorem dX6_ranges_54 : decode cX6_ranges 54 = .ok (.aload_n 0, 1) := by decide +kernel
theorem dX6_ranges_55 : decode cX6_ranges 55 = .ok (.getfield 77, 3) := by decide +kernel
theorem dX6_ranges_58 : decode cX6_ranges 58 = .ok (.invokevirtual 114, 3) := by decide +kernel
theorem dX6_ranges_61 : decode cX6_ranges 61 = .ok (.istore_n 3, 1) := by decide +kernel
theorem dX6_ranges_62 : decode cX6_ranges 62 = .ok (.aload_n 0, 1) := by decide +kernel
theorem dX6_ranges_63 : decode cX6_ranges 63 = .ok (.dup, 1) := by decide +kernel
theorem dX6_ranges_64 : decode cX6_ranges 64 = .ok (.getfield 77, 3) := by decide +kernel
theorem dX6_ranges_67 : decode cX6_ranges 67 = .ok (.iconst 1, 1) := by decide +kernel
theorem dX6_ranges_68 : decode cX6_ranges 68 = .ok (.iadd, 1) := by decide +kernel
theorem dX6_ranges_69 : decode cX6_ranges 69 = .ok (.putfield 77, 3) := by decide +kernel
theorem dX6_ranges_72 : decode cX6_ranges 72 = .ok (.aload_n 0, 1) := by decide +kernel
theorem dX6_ranges_73 : decode cX6_ranges 73 = .ok (.iload_n 3, 1) := by decide +kernel
theorem dX6_ranges_74 : decode cX6_ranges 74 = .ok (.iconst 1, 1) := by decide +kernel
theorem dX6_ranges_75 : decode cX6_ranges 75 = .ok (.iconst 1, 1) := by decide +kernel
theorem dX6_ranges_76 : decode cX6_ranges 76 = .ok (.invokevirtual 117, 3) := by decide +kernel
theorem dX6_ranges_79 : decode cX6_ranges 79 = .ok (.iconst 1, 1) := by decide +kernel
theorem dX6_ranges_80 : decode cX6_ranges 80 = .ok (.ireturn, 1) := by decide +kernel
theorem dX6_assign_0 : decode cX6_assign 0 = .ok (.aload_n 0, 1) := by decide +kernel
theorem dX6_assign_1 : decode cX6_assign 1 = .ok (.iload_n 1, 1) := by decide +kernel
theorem dX6_assign_2 : decode cX6_assign 2 = .ok (.iload_n 2, 1) := by decide +kernel
theorem dX6_assign_3 : decode cX6_assign 3 = .ok (.invokevirtual 205, 3) := by decide +kernel
theorem dX6_assign_6 : decode cX6_assign 6 = .ok (.ifCond .eq 4, 3) := by decide +kernel
theorem dX6_assign_9 : decode cX6_assign 9 = .ok (.return_, 1) := by decide +kernel
theorem dX6_assign_10 : decode cX6_assign 10 = .ok (.aload_n 0, 1) := by decide +kernel
theorem dX6_assign_11 : decode cX6_assign 11 = .ok (.iload_n 1, 1) := by decide +kernel
theorem dX6_assign_12 : decode cX6_assign 12 = .ok (.bipush 54, 2) := by decide +kernel
theorem dX6_assign_14 : decode cX6_assign 14 = .ok (.aload_n 0, 1) := by decide +kernel
theorem dX6_assign_15 : decode cX6_assign 15 = .ok (.getfield 77, 3) := by decide +kernel
theorem dX6_assign_18 : decode cX6_assign 18 = .ok (.invokevirtual 114, 3) := by decide +kernel
theorem dX6_assign_21 : decode cX6_assign 21 = .ok (.istore_n 3, 1) := by decide +kernel
theorem dX6_assign_22 : decode cX6_assign 22 = .ok (.aload_n 0, 1) := by decide +kernel
theorem dX6_assign_23 : decode cX6_assign 23 = .ok (.dup, 1) := by decide +kernel
theorem dX6_assign_24 : decode cX6_assign 24 = .ok (.getfield 77, 3) := by decide +kernel
theorem dX6_assign_27 : decode cX6_assign 27 = .ok (.iconst 1, 1) := by decide +kernel
theorem dX6_assign_28 : decode cX6_assign 28 = .ok (.iadd, 1) := by decide +kernel
theorem dX6_assign_29 : decode cX6_assign 29 = .ok (.putfield 77, 3) := by decide +kernel
theorem dX6_assign_32 : decode cX6_assign 32 = .ok (.aload_n 0, 1) := by decide +kernel
theorem dX6_assign_33 : decode cX6_assign 33 = .ok (.iload_n 3, 1) := by decide +kernel
theorem dX6_assign_34 : decode cX6_assign 34 = .ok (.iload_n 2, 1) := by decide +kernel
theorem dX6_assign_35 : decode cX6_assign 35 = .ok (.iconst 0, 1) := by decide +kernel
theorem dX6_assign_36 : decode cX6_assign 36 = .ok (.invokevirtual 208, 3) := by decide +kernel
theorem dX6_assign_39 : decode cX6_assign 39 = .ok (.return_, 1) := by decide +kernel
theorem dX6_right_0 : decode cX6_right 0 = .ok (.aload_n 0, 1) := by decide +kernel
theorem dX6_right_1 : decode cX6_right 1 = .ok (.iload_n 1, 1) := by decide +kernel
theorem dX6_right_2 : decode cX6_right 2 = .ok (.bipush 13, 2) := by decide +kernel
theorem dX6_right_4 : decode cX6_right 4 = .ok (.aload_n 0, 1) := by decide +kernel
theorem dX6_right_5 : decode cX6_right 5 = .ok (.getfield 77, 3) := by decide +kernel
theorem dX6_right_8 : decode cX6_right 8 = .ok (.invokevirtual 99, 3) := by decide +kernel
theorem dX6_right_11 : decode cX6_right 11 = .ok (.istore 4, 2) := by decide +kernel
theorem dX6_right_13 : decode cX6_right 13 = .ok (.iload_n 2, 1) := by decide +kernel
theorem dX6_right_14 : decode cX6_right 14 = .ok (.bipush 32, 2) := by decide +kernel
theorem dX6_right_16 : decode cX6_right 16 = .ok (.invokestatic 133, 3) := by decide +kernel
theorem dX6_right_19 : decode cX6_right 19 = .ok (.ifCond .ne 14, 3) := by decide +kernel
theorem dX6_right_22 : decode cX6_right 22 = .ok (.aload_n 0, 1) := by decide +kernel
theorem dX6_right_23 : decode cX6_right 23 = .ok (.bipush 32, 2) := by decide +kernel
theorem dX6_right_25 : decode cX6_right 25 = .ok (.iload 4, 2) := by decide +kernel
theorem dX6_right_27 : decode cX6_right 27 = .ok (.iload_n 2, 1) := by decide +kernel
theorem dX6_right_28 : decode cX6_right 28 = .ok (.iconst 1, 1) := by decide +kernel
theorem dX6_right_29 : decode cX6_right 29 = .ok (.iand, 1) := by decide +kernel
theorem dX6_right_30 : decode cX6_right 30 = .ok (.invokevirtual 106, 3) := by decide +kernel
theorem dX6_right_33 : decode cX6_right 33 = .ok (.aload_n 0, 1) := by decide +kernel
theorem dX6_right_34 : decode cX6_right 34 = .ok (.iload 4, 2) := by decide +kernel
theorem dX6_right_36 : decode cX6_right 36 = .ok (.iload_n 2, 1) := by decide +kernel
theorem dX6_right_37 : decode cX6_right 37 = .ok (.iconst 1, 1) := by decide +kernel
theorem dX6_right_38 : decode cX6_right 38 = .ok (.iand, 1) := by decide +kernel
theorem dX6_right_39 : decode cX6_right 39 = .ok (.iload_n 3, 1) := by decide +kernel
theorem dX6_right_40 : decode cX6_right 40 = .ok (.ior, 1) := by decide +kernel
theorem dX6_right_41 : decode cX6_right 41 = .ok (.iconst 1, 1) := by decide +kernel
theorem dX6_right_42 : decode cX6_right 42 = .ok (.invokevirtual 117, 3) := by decide +kernel
theorem dX6_right_45 : decode cX6_right 45 = .ok (.return_, 1) := by decide +kernel
theorem dX6_define_0 : decode cX6_define 0 = .ok (.aload_n 0, 1) := by decide +kernel
theorem dX6_define_1 : decode cX6_define 1 = .ok (.iload_n 1, 1) := by decide +kernel
theorem dX6_define_2 : decode cX6_define 2 = .ok (.iload_n 2, 1) := by decide +kernel
theorem dX6_define_3 : decode cX6_define 3 = .ok (.invokevirtual 205, 3) := by decide +kernel
theorem dX6_define_6 : decode cX6_define 6 = .ok (.ifCond .eq 4, 3) := by decide +kernel
theorem dX6_define_9 : decode cX6_define 9 = .ok (.return_, 1) := by decide +kernel
theorem dX6_define_10 : decode cX6_define 10 = .ok (.aload_n 0, 1) := by decide +kernel
theorem dX6_define_11 : decode cX6_define 11 = .ok (.iload_n 1, 1) := by decide +kernel
theorem dX6_define_12 : decode cX6_define 12 = .ok (.bipush 56, 2) := by decide +kernel
theorem dX6_define_14 : decode cX6_define 14 = .ok (.aload_n 0, 1) := by decide +kernel
theorem dX6_define_15 : decode cX6_define 15 = .ok (.getfield 77, 3) := by decide +kernel
theorem dX6_define_18 : decode cX6_define 18 = .ok (.invokevirtual 114, 3) := by decide +kernel
theorem dX6_define_21 : decode cX6_define 21 = .ok (.istore 4, 2) := by decide +kernel
theorem dX6_define_23 : decode cX6_define 23 = .ok (.aload_n 0, 1) := by decide +kernel
theorem dX6_define_24 : decode cX6_define 24 = .ok (.dup, 1) := by decide +kernel
theorem dX6_define_25 : decode cX6_define 25 = .ok (.getfield 77, 3) := by decide +kernel
theorem dX6_define_28 : decode cX6_define 28 = .ok (.iconst 1, 1) := by decide +kernel
theorem dX6_define_29 : decode cX6_define 29 = .ok (.iadd, 1) := by decide +kernel
theorem dX6_define_30 : decode cX6_define 30 = .ok (.putfield 77, 3) := by decide +kernel
theorem dX6_define_33 : decode cX6_define 33 = .ok (.iload_n 2, 1) := by decide +kernel
theorem dX6_define_34 : decode cX6_define 34 = .ok (.bipush 8, 2) := by decide +kernel
theorem dX6_define_36 : decode cX6_define 36 = .ok (.invokestatic 133, 3) := by decide +kernel
theorem dX6_define_39 : decode cX6_define 39 = .ok (.ifCond .eq 29, 3) := by decide +kernel
theorem dX6_define_42 : decode cX6_define 42 = .ok (.iload_n 3, 1) := by decide +kernel
theorem dX6_define_43 : decode cX6_define 43 = .ok (.ifCond .eq 25, 3) := by decide +kernel
theorem dX6_define_46 : decode cX6_define 46 = .ok (.aload_n 0, 1) := by decide +kernel
theorem dX6_define_47 : decode cX6_define 47 = .ok (.bipush 56, 2) := by decide +kernel
theorem dX6_define_49 : decode cX6_define 49 = .ok (.iload 4, 2) := by decide +kernel
theorem dX6_define_51 : decode cX6_define 51 = .ok (.iload_n 2, 1) := by decide +kernel
theorem dX6_define_52 : decode cX6_define 52 = .ok (.bipush 16, 2) := by decide +kernel
theorem dX6_define_54 : decode cX6_define 54 = .ok (.invokestatic 133, 3) := by decide +kernel
theorem dX6_define_57 : decode cX6_define 57 = .ok (.ifCond .eq 7, 3) := by decide +kernel
theorem dX6_define_60 : decode cX6_define 60 = .ok (.iconst 2, 1) := by decide +kernel
theorem dX6_define_61 : decode cX6_define 61 = .ok (.goto 4, 3) := by decide +kernel
theorem dX6_define_64 : decode cX6_define 64 = .ok (.iconst 1, 1) := by decide +kernel
theorem dX6_define_65 : decode cX6_define 65 = .ok (.invokevirtual 106, 3) := by decide +kernel
theorem dX6_define_68 : decode cX6_define 68 = .ok (.iload_n 2, 1) := by decide +kernel
theorem dX6_define_69 : decode cX6_define 69 = .ok (.bipush 16, 2) := by decide +kernel
theorem dX6_define_71 : decode cX6_define 71 = .ok (.invokestatic 133, 3) := by decide +kernel
theorem dX6_define_74 : decode cX6_define 74 = .ok (.ifCond .ne 29, 3) := by decide +kernel
theorem dX6_define_77 : decode cX6_define 77 = .ok (.aload_n 0, 1) := by decide +kernel
theorem dX6_define_78 : decode cX6_define 78 = .ok (.iload 4, 2) := by decide +kernel
theorem dX6_define_80 : decode cX6_define 80 = .ok (.iload_n 2, 1) := by decide +kernel
theorem dX6_define_81 : decode cX6_define 81 = .ok (.iload_n 2, 1) := by decide +kernel
theorem dX6_define_82 : decode cX6_define 82 = .ok (.bipush 8, 2) := by decide +kernel
theorem dX6_define_84 : decode cX6_define 84 = .ok (.invokestatic 133, 3) := by decide +kernel
theorem dX6_define_87 : decode cX6_define 87 = .ok (.ifCond .eq 11, 3) := by decide +kernel
theorem dX6_define_90 : decode cX6_define 90 = .ok (.iload_n 3, 1) := by decide +kernel
theorem dX6_define_91 : decode cX6_define 91 = .ok (.ifCond .eq 7, 3) := by decide +kernel
theorem dX6_define_94 : decode cX6_define 94 = .ok (.iconst 2, 1) := by decide +kernel
theorem dX6_define_95 : decode cX6_define 95 = .ok (.goto 4, 3) := by decide +kernel
theorem dX6_define_98 : decode cX6_define 98 = .ok (.iconst 0, 1) := by decide +kernel
theorem dX6_define_99 : decode cX6_define 99 = .ok (.invokevirtual 208, 3) := by decide +kernel
theorem dX6_define_102 : decode cX6_define 102 = .ok (.return_, 1) := by decide +kernel
theorem dX6_define_103 : decode cX6_define 103 = .ok (.aload_n 0, 1) := by decide +kernel
theorem dX6_define_104 : decode cX6_define 104 = .ok (.iload 4, 2) := by decide +kernel
theorem dX6_define_106 : decode cX6_define 106 = .ok (.bipush 13, 2) := by decide +kernel
theorem dX6_define_108 : decode cX6_define 108 = .ok (.aload_n 0, 1) := by decide +kernel
theorem dX6_define_109 : decode cX6_define 109 = .ok (.getfield 77, 3) := by decide +kernel
theorem dX6_define_112 : decode cX6_define 112 = .ok (.invokevirtual 99, 3) := by decide +kernel
theorem dX6_define_115 : decode cX6_define 115 = .ok (.istore 5, 2) := by decide +kernel
theorem dX6_define_117 : decode cX6_define 117 = .ok (.aload_n 0, 1) := by decide +kernel
theorem dX6_define_118 : decode cX6_define 118 = .ok (.iconst 4, 1) := by decide +kernel
theorem dX6_define_119 : decode cX6_define 119 = .ok (.iload 5, 2) := by decide +kernel
theorem dX6_define_121 : decode cX6_define 121 = .ok (.iconst 3, 1) := by decide +kernel
theorem dX6_define_122 : decode cX6_define 122 = .ok (.invokevirtual 106, 3) := by decide +kernel
theorem dX6_define_125 : decode cX6_define 125 = .ok (.aload_n 0, 1) := by decide +kernel
theorem dX6_define_126 : decode cX6_define 126 = .ok (.iload 5, 2) := by decide +kernel
theorem dX6_define_128 : decode cX6_define 128 = .ok (.iconst 3, 1) := by decide +kernel
theorem dX6_define_129 : decode cX6_define 129 = .ok (.invokevirtual 126, 3) := by decide +kernel
theorem dX6_define_132 : decode cX6_define 132 = .ok (.return_, 1) := by decide +kernel
theorem dX6_guarded_0 : decode cX6_guarded 0 = .ok (.iload_n 2, 1) := by decide +kernel
theorem dX6_guarded_1 : decode cX6_guarded 1 = .ok (.ifCond .ne 17, 3) := by decide +kernel
theorem dX6_guarded_4 : decode cX6_guarded 4 = .ok (.aload_n 0, 1) := by decide +kernel
theorem dX6_guarded_5 : decode cX6_guarded 5 = .ok (.invokevirtual 83, 3) := by decide +kernel
theorem dX6_guarded_8 : decode cX6_guarded 8 = .ok (.bipush 82, 2) := by decide +kernel
theorem dX6_guarded_10 : decode cX6_guarded 10 = .ok (.if_icmp .eq 7, 3) := by decide +kernel
theorem dX6_guarded_13 : decode cX6_guarded 13 = .ok (.aload_n 0, 1) := by decide +kernel
theorem dX6_guarded_14 : decode cX6_guarded 14 = .ok (.invokevirtual 87, 3) := by decide +kernel
theorem dX6_guarded_17 : decode cX6_guarded 17 = .ok (.return_, 1) := by decide +kernel
theorem dX6_guarded_18 : decode cX6_guarded 18 = .ok (.aload_n 0, 1) := by decide +kernel
theorem dX6_guarded_19 : decode cX6_guarded 19 = .ok (.getfield 27, 3) := by decide +kernel
theorem dX6_guarded_22 : decode cX6_guarded 22 = .ok (.iload_n 1, 1) := by decide +kernel
theorem dX6_guarded_23 : decode cX6_guarded 23 = .ok (.iaload, 1) := by decide +kernel
theorem dX6_guarded_24 : decode cX6_guarded 24 = .ok (.istore_n 3, 1) := by decide +kernel
theorem dX6_guarded_25 : decode cX6_guarded 25 = .ok (.aload_n 0, 1) := by decide +kernel
theorem dX6_guarded_26 : decode cX6_guarded 26 = .ok (.getfield 27, 3) := by decide +kernel
theorem dX6_guarded_29 : decode cX6_guarded 29 = .ok (.iload_n 3, 1) := by decide +kernel
theorem dX6_guarded_30 : decode cX6_guarded 30 = .ok (.iaload, 1) := by decide +kernel
theorem dX6_guarded_31 : decode cX6_guarded 31 = .ok (.istore 4, 2) := by decide +kernel
theorem dX6_guarded_33 : decode cX6_guarded 33 = .ok (.aload_n 0, 1) := by decide +kernel
theorem dX6_guarded_34 : decode cX6_guarded 34 = .ok (.getfield 14, 3) := by decide +kernel
theorem dX6_guarded_37 : decode cX6_guarded 37 = .ok (.iload 4, 2) := by decide +kernel
theorem dX6_guarded_39 : decode cX6_guarded 39 = .ok (.iaload, 1) := by decide +kernel
theorem dX6_guarded_40 : decode cX6_guarded 40 = .ok (.bipush 69, 2) := by decide +kernel
theorem dX6_guarded_42 : decode cX6_guarded 42 = .ok (.if_icmp .eq 13, 3) := by decide +kernel
theorem dX6_guarded_45 : decode cX6_guarded 45 = .ok (.iload_n 2, 1) := by decide +kernel
theorem dX6_guarded_46 : decode cX6_guarded 46 = .ok (.iconst 2, 1) := by decide +kernel
theorem dX6_guarded_47 : decode cX6_guarded 47 = .ok (.if_icmp .ne 7, 3) := by decide +kernel
theorem dX6_guarded_50 : decode cX6_guarded 50 = .ok (.aload_n 0, 1) := by decide +kernel
theorem dX6_guarded_51 : decode cX6_guarded 51 = .ok (.invokevirtual 87, 3) := by decide +kernel
theorem dX6_guarded_54 : decode cX6_guarded 54 = .ok (.return_, 1) := by decide +kernel
theorem dX6_guarded_55 : decode cX6_guarded 55 = .ok (.aload_n 0, 1) := by decide +kernel
theorem dX6_guarded_56 : decode cX6_guarded 56 = .ok (.getfield 14, 3) := by decide +kernel
theorem dX6_guarded_59 : decode cX6_guarded 59 = .ok (.iload_n 1, 1) := by decide +kernel
theorem dX6_guarded_60 : decode cX6_guarded 60 = .ok (.bipush 69, 2) := by decide +kernel
theorem dX6_guarded_62 : decode cX6_guarded 62 = .ok (.iastore, 1) := by decide +kernel
theorem dX6_guarded_63 : decode cX6_guarded 63 = .ok (.aload_n 0, 1) := by decide +kernel
theorem dX6_guarded_64 : decode cX6_guarded 64 = .ok (.getfield 18, 3) := by decide +kernel
theorem dX6_guarded_67 : decode cX6_guarded 67 = .ok (.iload_n 1, 1) := by decide +kernel
theorem dX6_guarded_68 : decode cX6_guarded 68 = .ok (.aload_n 0, 1) := by decide +kernel
theorem dX6_guarded_69 : decode cX6_guarded 69 = .ok (.getfield 18, 3) := by decide +kernel
theorem dX6_guarded_72 : decode cX6_guarded 72 = .ok (.iload 4, 2) := by decide +kernel
theorem dX6_guarded_74 : decode cX6_guarded 74 = .ok (.iaload, 1) := by decide +kernel
theorem dX6_guarded_75 : decode cX6_guarded 75 = .ok (.iastore, 1) := by decide +kernel
theorem dX6_guarded_76 : decode cX6_guarded 76 = .ok (.aload_n 0, 1) := by decide +kernel
theorem dX6_guarded_77 : decode cX6_guarded 77 = .ok (.getfield 24, 3) := by decide +kernel
theorem dX6_guarded_80 : decode cX6_guarded 80 = .ok (.iload 4, 2) := by decide +kernel
theorem dX6_guarded_82 : decode cX6_guarded 82 = .ok (.iaload, 1) := by decide +kernel
theorem dX6_guarded_83 : decode cX6_guarded 83 = .ok (.istore 5, 2) := by decide +kernel
theorem dX6_guarded_85 : decode cX6_guarded 85 = .ok (.aload_n 0, 1) := by decide +kernel
theorem dX6_guarded_86 : decode cX6_guarded 86 = .ok (.getfield 21, 3) := by decide +kernel
theorem dX6_guarded_89 : decode cX6_guarded 89 = .ok (.iload 5, 2) := by decide +kernel
theorem dX6_guarded_91 : decode cX6_guarded 91 = .ok (.iload_n 1, 1) := by decide +kernel
theorem dX6_guarded_92 : decode cX6_guarded 92 = .ok (.iastore, 1) := by decide +kernel
theorem dX6_guarded_93 : decode cX6_guarded 93 = .ok (.aload_n 0, 1) := by decide +kernel
theorem dX6_guarded_94 : decode cX6_guarded 94 = .ok (.getfield 30, 3) := by decide +kernel
theorem dX6_guarded_97 : decode cX6_guarded 97 = .ok (.aload_n 0, 1) := by decide +kernel
theorem dX6_guarded_98 : decode cX6_guarded 98 = .ok (.getfield 24, 3) := by decide +kernel
theorem dX6_guarded_101 : decode cX6_guarded 101 = .ok (.iload_n 1, 1) := by decide +kernel
theorem dX6_guarded_102 : decode cX6_guarded 102 = .ok (.iaload, 1) := by decide +kernel
theorem dX6_guarded_103 : decode cX6_guarded 103 = .ok (.iload 5, 2) := by decide +kernel
theorem dX6_guarded_105 : decode cX6_guarded 105 = .ok (.iastore, 1) := by decide +kernel
theorem dX6_guarded_106 : decode cX6_guarded 106 = .ok (.aload_n 0, 1) := by decide +kernel
theorem dX6_guarded_107 : decode cX6_guarded 107 = .ok (.getfield 30, 3) := by decide +kernel
theorem dX6_guarded_110 : decode cX6_guarded 110 = .ok (.iload 5, 2) := by decide +kernel
theorem dX6_guarded_112 : decode cX6_guarded 112 = .ok (.iconst (-1), 1) := by decide +kernel
theorem dX6_guarded_113 : decode cX6_guarded 113 = .ok (.iastore, 1) := by decide +kernel
theorem dX6_guarded_114 : decode cX6_guarded 114 = .ok (.aload_n 0, 1) := by decide +kernel
theorem dX6_guarded_115 : decode cX6_guarded 115 = .ok (.getfield 27, 3) := by decide +kernel
theorem dX6_guarded_118 : decode cX6_guarded 118 = .ok (.iload_n 1, 1) := by decide +kernel
theorem dX6_guarded_119 : decode cX6_guarded 119 = .ok (.iload 5, 2) := by decide +kernel
theorem dX6_guarded_121 : decode cX6_guarded 121 = .ok (.iastore, 1) := by decide +kernel
theorem dX6_guarded_122 : decode cX6_guarded 122 = .ok (.return_, 1) := by decide +kernel
theorem dX6_ifs_0 : decode cX6_ifs 0 = .ok (.aload_n 0, 1) := by decide +kernel
theorem dX6_ifs_1 : decode cX6_ifs 1 = .ok (.iload_n 1, 1) := by decide +kernel
theorem dX6_ifs_2 : decode cX6_ifs 2 = .ok (.bipush 60, 2) := by decide +kernel
theorem dX6_ifs_4 : decode cX6_ifs 4 = .ok (.aload_n 0, 1) := by decide +kernel
theorem dX6_ifs_5 : decode cX6_ifs 5 = .ok (.getfield 77, 3) := by decide +kernel
theorem dX6_ifs_8 : decode cX6_ifs 8 = .ok (.invokevirtual 99, 3) := by decide +kernel
theorem dX6_ifs_11 : decode cX6_ifs 11 = .ok (.istore_n 2, 1) := by decide +kernel
theorem dX6_ifs_12 : decode cX6_ifs 12 = .ok (.aload_n 0, 1) := by decide +kernel
theorem dX6_ifs_13 : decode cX6_ifs 13 = .ok (.dup, 1) := by decide +kernel
theorem dX6_ifs_14 : decode cX6_ifs 14 = .ok (.getfield 77, 3) := by decide +kernel
theorem dX6_ifs_17 : decode cX6_ifs 17 = .ok (.iconst 1, 1) := by decide +kernel
theorem dX6_ifs_18 : decode cX6_ifs 18 = .ok (.iadd, 1) := by decide +kernel
theorem dX6_ifs_19 : decode cX6_ifs 19 = .ok (.putfield 77, 3) := by decide +kernel
theorem dX6_ifs_22 : decode cX6_ifs 22 = .ok (.aload_n 0, 1) := by decide +kernel
theorem dX6_ifs_23 : decode cX6_ifs 23 = .ok (.bipush 45, 2) := by decide +kernel
theorem dX6_ifs_25 : decode cX6_ifs 25 = .ok (.iload_n 2, 1) := by decide +kernel
theorem dX6_ifs_26 : decode cX6_ifs 26 = .ok (.iconst 0, 1) := by decide +kernel
theorem dX6_ifs_27 : decode cX6_ifs 27 = .ok (.invokevirtual 106, 3) := by decide +kernel
theorem dX6_ifs_30 : decode cX6_ifs 30 = .ok (.aload_n 0, 1) := by decide +kernel
theorem dX6_ifs_31 : decode cX6_ifs 31 = .ok (.bipush 38, 2) := by decide +kernel
theorem dX6_ifs_33 : decode cX6_ifs 33 = .ok (.iload_n 2, 1) := by decide +kernel
theorem dX6_ifs_34 : decode cX6_ifs 34 = .ok (.iconst 0, 1) := by decide +kernel
theorem dX6_ifs_35 : decode cX6_ifs 35 = .ok (.invokevirtual 106, 3) := by decide +kernel
theorem dX6_ifs_38 : decode cX6_ifs 38 = .ok (.aload_n 0, 1) := by decide +kernel
theorem dX6_ifs_39 : decode cX6_ifs 39 = .ok (.invokevirtual 83, 3) := by decide +kernel
theorem dX6_ifs_42 : decode cX6_ifs 42 = .ok (.bipush 85, 2) := by decide +kernel
theorem dX6_ifs_44 : decode cX6_ifs 44 = .ok (.if_icmp .ne 33, 3) := by decide +kernel
theorem dX6_ifs_47 : decode cX6_ifs 47 = .ok (.aload_n 0, 1) := by decide +kernel
theorem dX6_ifs_48 : decode cX6_ifs 48 = .ok (.iload_n 2, 1) := by decide +kernel
theorem dX6_ifs_49 : decode cX6_ifs 49 = .ok (.bipush 61, 2) := by decide +kernel
theorem dX6_ifs_51 : decode cX6_ifs 51 = .ok (.aload_n 0, 1) := by decide +kernel
theorem dX6_ifs_52 : decode cX6_ifs 52 = .ok (.getfield 77, 3) := by decide +kernel
theorem dX6_ifs_55 : decode cX6_ifs 55 = .ok (.invokevirtual 99, 3) := by decide +kernel
theorem dX6_ifs_58 : decode cX6_ifs 58 = .ok (.pop, 1) := by decide +kernel
theorem dX6_ifs_59 : decode cX6_ifs 59 = .ok (.aload_n 0, 1) := by decide +kernel
theorem dX6_ifs_60 : decode cX6_ifs 60 = .ok (.dup, 1) := by decide +kernel
theorem dX6_ifs_61 : decode cX6_ifs 61 = .ok (.getfield 77, 3) := by decide +kernel
theorem dX6_ifs_64 : decode cX6_ifs 64 = .ok (.iconst 1, 1) := by decide +kernel
theorem dX6_ifs_65 : decode cX6_ifs 65 = .ok (.iadd, 1) := by decide +kernel
theorem dX6_ifs_66 : decode cX6_ifs 66 = .ok (.putfield 77, 3) := by decide +kernel
theorem dX6_ifs_69 : decode cX6_ifs 69 = .ok (.aload_n 0, 1) := by decide +kernel
theorem dX6_ifs_70 : decode cX6_ifs 70 = .ok (.iload_n 2, 1) := by decide +kernel
theorem dX6_ifs_71 : decode cX6_ifs 71 = .ok (.iconst 1, 1) := by decide +kernel
theorem dX6_ifs_72 : decode cX6_ifs 72 = .ok (.iconst 1, 1) := by decide +kernel
theorem dX6_ifs_73 : decode cX6_ifs 73 = .ok (.invokevirtual 117, 3) := by decide +kernel
theorem dX6_ifs_76 : decode cX6_ifs 76 = .ok (.return_, 1) := by decide +kernel
theorem dX6_ifs_77 : decode cX6_ifs 77 = .ok (.aload_n 0, 1) := by decide +kernel
theorem dX6_ifs_78 : decode cX6_ifs 78 = .ok (.bipush 44, 2) := by decide +kernel
theorem dX6_ifs_80 : decode cX6_ifs 80 = .ok (.iload_n 2, 1) := by decide +kernel
theorem dX6_ifs_81 : decode cX6_ifs 81 = .ok (.iconst 0, 1) := by decide +kernel
theorem dX6_ifs_82 : decode cX6_ifs 82 = .ok (.invokevirtual 106, 3) := by decide +kernel
theorem dX6_ifs_85 : decode cX6_ifs 85 = .ok (.aload_n 0, 1) := by decide +kernel
theorem dX6_ifs_86 : decode cX6_ifs 86 = .ok (.bipush 41, 2) := by decide +kernel
theorem dX6_ifs_88 : decode cX6_ifs 88 = .ok (.iload_n 2, 1) := by decide +kernel
theorem dX6_ifs_89 : decode cX6_ifs 89 = .ok (.iconst 1, 1) := by decide +kernel
theorem dX6_ifs_90 : decode cX6_ifs 90 = .ok (.invokevirtual 106, 3) := by decide +kernel
theorem dX6_ifs_93 : decode cX6_ifs 93 = .ok (.return_, 1) := by decide +kernel
theorem dX6_ifRest_0 : decode cX6_ifRest 0 = .ok (.aload_n 0, 1) := by decide +kernel
theorem dX6_ifRest_1 : decode cX6_ifRest 1 = .ok (.invokevirtual 83, 3) := by decide +kernel
theorem dX6_ifRest_4 : decode cX6_ifRest 4 = .ok (.bipush 85, 2) := by decide +kernel
theorem dX6_ifRest_6 : decode cX6_ifRest 6 = .ok (.if_icmp .ne 35, 3) := by decide +kernel
theorem dX6_ifRest_9 : decode cX6_ifRest 9 = .ok (.aload_n 0, 1) := by decide +kernel
theorem dX6_ifRest_10 : decode cX6_ifRest 10 = .ok (.iload_n 1, 1) := by decide +kernel
theorem dX6_ifRest_11 : decode cX6_ifRest 11 = .ok (.bipush 61, 2) := by decide +kernel
theorem dX6_ifRest_13 : decode cX6_ifRest 13 = .ok (.aload_n 0, 1) := by decide +kernel
theorem dX6_ifRest_14 : decode cX6_ifRest 14 = .ok (.getfield 77, 3) := by decide +kernel
theorem dX6_ifRest_17 : decode cX6_ifRest 17 = .ok (.invokevirtual 114, 3) := by decide +kernel
theorem dX6_ifRest_20 : decode cX6_ifRest 20 = .ok (.pop, 1) := by decide +kernel
theorem dX6_ifRest_21 : decode cX6_ifRest 21 = .ok (.aload_n 0, 1) := by decide +kernel
theorem dX6_ifRest_22 : decode cX6_ifRest 22 = .ok (.dup, 1) := by decide +kernel
theorem dX6_ifRest_23 : decode cX6_ifRest 23 = .ok (.getfield 77, 3) := by decide +kernel
theorem dX6_ifRest_26 : decode cX6_ifRest 26 = .ok (.iconst 1, 1) := by decide +kernel
theorem dX6_ifRest_27 : decode cX6_ifRest 27 = .ok (.iadd, 1) := by decide +kernel
theorem dX6_ifRest_28 : decode cX6_ifRest 28 = .ok (.putfield 77, 3) := by decide +kernel
theorem dX6_ifRest_31 : decode cX6_ifRest 31 = .ok (.aload_n 0, 1) := by decide +kernel
theorem dX6_ifRest_32 : decode cX6_ifRest 32 = .ok (.iload_n 1, 1) := by decide +kernel
theorem dX6_ifRest_33 : decode cX6_ifRest 33 = .ok (.iconst 1, 1) := by decide +kernel
theorem dX6_ifRest_34 : decode cX6_ifRest 34 = .ok (.iconst 1, 1) := by decide +kernel
theorem dX6_ifRest_35 : decode cX6_ifRest 35 = .ok (.invokevirtual 117, 3) := by decide +kernel
theorem dX6_ifRest_38 : decode cX6_ifRest 38 = .ok (.goto 31, 3) := by decide +kernel
theorem dX6_ifRest_41 : decode cX6_ifRest 41 = .ok (.aload_n 0, 1) := by decide +kernel
theorem dX6_ifRest_42 : decode cX6_ifRest 42 = .ok (.getfield 14, 3) := by decide +kernel
theorem dX6_ifRest_45 : decode cX6_ifRest 45 = .ok (.aload_n 0, 1) := by decide +kernel
theorem dX6_ifRest_46 : decode cX6_ifRest 46 = .ok (.getfield 27, 3) := by decide +kernel
theorem dX6_ifRest_49 : decode cX6_ifRest 49 = .ok (.iload_n 1, 1) := by decide +kernel
theorem dX6_ifRest_50 : decode cX6_ifRest 50 = .ok (.iaload, 1) := by decide +kernel
theorem dX6_ifRest_51 : decode cX6_ifRest 51 = .ok (.iaload, 1) := by decide +kernel
theorem dX6_ifRest_52 : decode cX6_ifRest 52 = .ok (.bipush 50, 2) := by decide +kernel
theorem dX6_ifRest_54 : decode cX6_ifRest 54 = .ok (.if_icmp .ne 11, 3) := by decide +kernel
theorem dX6_ifRest_57 : decode cX6_ifRest 57 = .ok (.aload_n 0, 1) := by decide +kernel
theorem dX6_ifRest_58 : decode cX6_ifRest 58 = .ok (.iload_n 1, 1) := by decide +kernel
theorem dX6_ifRest_59 : decode cX6_ifRest 59 = .ok (.invokevirtual 211, 3) := by decide +kernel
theorem dX6_ifRest_62 : decode cX6_ifRest 62 = .ok (.goto 7, 3) := by decide +kernel
theorem dX6_ifRest_65 : decode cX6_ifRest 65 = .ok (.aload_n 0, 1) := by decide +kernel
theorem dX6_ifRest_66 : decode cX6_ifRest 66 = .ok (.invokevirtual 87, 3) := by decide +kernel
theorem dX6_ifRest_69 : decode cX6_ifRest 69 = .ok (.return_, 1) := by decide +kernel
theorem dX6_ifElse_0 : decode cX6_ifElse 0 = .ok (.aload_n 0, 1) := by decide +kernel
theorem dX6_ifElse_1 : decode cX6_ifElse 1 = .ok (.invokevirtual 83, 3) := by decide +kernel
theorem dX6_ifElse_4 : decode cX6_ifElse 4 = .ok (.bipush 17, 2) := by decide +kernel
theorem dX6_ifElse_6 : decode cX6_ifElse 6 = .ok (.if_icmp .eq 4, 3) := by decide +kernel
theorem dX6_ifElse_9 : decode cX6_ifElse 9 = .ok (.return_, 1) := by decide +kernel
theorem dX6_ifElse_10 : decode cX6_ifElse 10 = .ok (.aload_n 0, 1) := by decide +kernel
theorem dX6_ifElse_11 : decode cX6_ifElse 11 = .ok (.invokevirtual 123, 3) := by decide +kernel
theorem dX6_ifElse_14 : decode cX6_ifElse 14 = .ok (.aload_n 0, 1) := by decide +kernel
theorem dX6_ifElse_15 : decode cX6_ifElse 15 = .ok (.dup, 1) := by decide +kernel
theorem dX6_ifElse_16 : decode cX6_ifElse 16 = .ok (.getfield 77, 3) := by decide +kernel
theorem dX6_ifElse_19 : decode cX6_ifElse 19 = .ok (.iconst 1, 1) := by decide +kernel
theorem dX6_ifElse_20 : decode cX6_ifElse 20 = .ok (.iadd, 1) := by decide +kernel
theorem dX6_ifElse_21 : decode cX6_ifElse 21 = .ok (.putfield 77, 3) := by decide +kernel
theorem dX6_ifElse_24 : decode cX6_ifElse 24 = .ok (.aload_n 0, 1) := by decide +kernel
theorem dX6_ifElse_25 : decode cX6_ifElse 25 = .ok (.bipush 6, 2) := by decide +kernel
theorem dX6_ifElse_27 : decode cX6_ifElse 27 = .ok (.iload_n 1, 1) := by decide +kernel
theorem dX6_ifElse_28 : decode cX6_ifElse 28 = .ok (.iconst 0, 1) := by decide +kernel
theorem dX6_ifElse_29 : decode cX6_ifElse 29 = .ok (.invokevirtual 106, 3) := by decide +kernel
theorem dX6_ifElse_32 : decode cX6_ifElse 32 = .ok (.aload_n 0, 1) := by decide +kernel
theorem dX6_ifElse_33 : decode cX6_ifElse 33 = .ok (.invokevirtual 83, 3) := by decide +kernel
theorem dX6_ifElse_36 : decode cX6_ifElse 36 = .ok (.bipush 23, 2) := by decide +kernel
theorem dX6_ifElse_38 : decode cX6_ifElse 38 = .ok (.if_icmp .ne 11, 3) := by decide +kernel
theorem dX6_ifElse_41 : decode cX6_ifElse 41 = .ok (.aload_n 0, 1) := by decide +kernel
theorem dX6_ifElse_42 : decode cX6_ifElse 42 = .ok (.iload_n 1, 1) := by decide +kernel
theorem dX6_ifElse_43 : decode cX6_ifElse 43 = .ok (.invokevirtual 183, 3) := by decide +kernel
theorem dX6_ifElse_46 : decode cX6_ifElse 46 = .ok (.goto 8, 3) := by decide +kernel
theorem dX6_ifElse_49 : decode cX6_ifElse 49 = .ok (.aload_n 0, 1) := by decide +kernel
theorem dX6_ifElse_50 : decode cX6_ifElse 50 = .ok (.iload_n 1, 1) := by decide +kernel
theorem dX6_ifElse_51 : decode cX6_ifElse 51 = .ok (.invokevirtual 180, 3) := by decide +kernel
theorem dX6_ifElse_54 : decode cX6_ifElse 54 = .ok (.return_, 1) := by decide +kernel
theorem dX6_loop_0 : decode cX6_loop 0 = .ok (.aload_n 0, 1) := by decide +kernel
theorem dX6_loop_1 : decode cX6_loop 1 = .ok (.iload_n 1, 1) := by decide +kernel
theorem dX6_loop_2 : decode cX6_loop 2 = .ok (.bipush 62, 2) := by decide +kernel
theorem dX6_loop_4 : decode cX6_loop 4 = .ok (.aload_n 0, 1) := by decide +kernel
theorem dX6_loop_5 : decode cX6_loop 5 = .ok (.getfield 77, 3) := by decide +kernel
theorem dX6_loop_8 : decode cX6_loop 8 = .ok (.invokevirtual 99, 3) := by decide +kernel
theorem dX6_loop_11 : decode cX6_loop 11 = .ok (.istore_n 2, 1) := by decide +kernel
theorem dX6_loop_12 : decode cX6_loop 12 = .ok (.aload_n 0, 1) := by decide +kernel
theorem dX6_loop_13 : decode cX6_loop 13 = .ok (.dup, 1) := by decide +kernel
theorem dX6_loop_14 : decode cX6_loop 14 = .ok (.getfield 77, 3) := by decide +kernel
theorem dX6_loop_17 : decode cX6_loop 17 = .ok (.iconst 1, 1) := by decide +kernel
theorem dX6_loop_18 : decode cX6_loop 18 = .ok (.iadd, 1) := by decide +kernel
theorem dX6_loop_19 : decode cX6_loop 19 = .ok (.putfield 77, 3) := by decide +kernel
theorem dX6_loop_22 : decode cX6_loop 22 = .ok (.aload_n 0, 1) := by decide +kernel
theorem dX6_loop_23 : decode cX6_loop 23 = .ok (.invokevirtual 83, 3) := by decide +kernel
theorem dX6_loop_26 : decode cX6_loop 26 = .ok (.istore_n 3, 1) := by decide +kernel
theorem dX6_loop_27 : decode cX6_loop 27 = .ok (.iload_n 3, 1) := by decide +kernel
theorem dX6_loop_28 : decode cX6_loop 28 = .ok (.bipush 82, 2) := by decide +kernel
theorem dX6_loop_30 : decode cX6_loop 30 = .ok (.if_icmp .ne 11, 3) := by decide +kernel
theorem dX6_loop_33 : decode cX6_loop 33 = .ok (.aload_n 0, 1) := by decide +kernel
theorem dX6_loop_34 : decode cX6_loop 34 = .ok (.iload_n 2, 1) := by decide +kernel
theorem dX6_loop_35 : decode cX6_loop 35 = .ok (.invokevirtual 180, 3) := by decide +kernel
theorem dX6_loop_38 : decode cX6_loop 38 = .ok (.goto 103, 3) := by decide +kernel
theorem dX6_loop_41 : decode cX6_loop 41 = .ok (.iload_n 3, 1) := by decide +kernel
theorem dX6_loop_42 : decode cX6_loop 42 = .ok (.bipush 28, 2) := by decide +kernel
theorem dX6_loop_44 : decode cX6_loop 44 = .ok (.if_icmp .ne 45, 3) := by decide +kernel
theorem dX6_loop_47 : decode cX6_loop 47 = .ok (.aload_n 0, 1) := by decide +kernel
theorem dX6_loop_48 : decode cX6_loop 48 = .ok (.iload_n 2, 1) := by decide +kernel
theorem dX6_loop_49 : decode cX6_loop 49 = .ok (.bipush 66, 2) := by decide +kernel
theorem dX6_loop_51 : decode cX6_loop 51 = .ok (.aload_n 0, 1) := by decide +kernel
theorem dX6_loop_52 : decode cX6_loop 52 = .ok (.getfield 77, 3) := by decide +kernel
theorem dX6_loop_55 : decode cX6_loop 55 = .ok (.invokevirtual 99, 3) := by decide +kernel
theorem dX6_loop_58 : decode cX6_loop 58 = .ok (.istore 4, 2) := by decide +kernel
theorem dX6_loop_60 : decode cX6_loop 60 = .ok (.aload_n 0, 1) := by decide +kernel
theorem dX6_loop_61 : decode cX6_loop 61 = .ok (.dup, 1) := by decide +kernel
theorem dX6_loop_62 : decode cX6_loop 62 = .ok (.getfield 77, 3) := by decide +kernel
theorem dX6_loop_65 : decode cX6_loop 65 = .ok (.iconst 1, 1) := by decide +kernel
theorem dX6_loop_66 : decode cX6_loop 66 = .ok (.iadd, 1) := by decide +kernel
theorem dX6_loop_67 : decode cX6_loop 67 = .ok (.putfield 77, 3) := by decide +kernel
theorem dX6_loop_70 : decode cX6_loop 70 = .ok (.aload_n 0, 1) := by decide +kernel
theorem dX6_loop_71 : decode cX6_loop 71 = .ok (.bipush 38, 2) := by decide +kernel
theorem dX6_loop_73 : decode cX6_loop 73 = .ok (.iload_n 2, 1) := by decide +kernel
theorem dX6_loop_74 : decode cX6_loop 74 = .ok (.iconst 0, 1) := by decide +kernel
theorem dX6_loop_75 : decode cX6_loop 75 = .ok (.invokevirtual 106, 3) := by decide +kernel
theorem dX6_loop_78 : decode cX6_loop 78 = .ok (.aload_n 0, 1) := by decide +kernel
theorem dX6_loop_79 : decode cX6_loop 79 = .ok (.iload 4, 2) := by decide +kernel
theorem dX6_loop_81 : decode cX6_loop 81 = .ok (.iconst 1, 1) := by decide +kernel
theorem dX6_loop_82 : decode cX6_loop 82 = .ok (.iconst 1, 1) := by decide +kernel
theorem dX6_loop_83 : decode cX6_loop 83 = .ok (.invokevirtual 117, 3) := by decide +kernel
theorem dX6_loop_86 : decode cX6_loop 86 = .ok (.goto 55, 3) := by decide +kernel
theorem dX6_loop_89 : decode cX6_loop 89 = .ok (.iload_n 3, 1) := by decide +kernel
theorem dX6_loop_90 : decode cX6_loop 90 = .ok (.bipush 85, 2) := by decide +kernel
theorem dX6_loop_92 : decode cX6_loop 92 = .ok (.if_icmp .ne 33, 3) := by decide +kernel
theorem dX6_loop_95 : decode cX6_loop 95 = .ok (.aload_n 0, 1) := by decide +kernel
theorem dX6_loop_96 : decode cX6_loop 96 = .ok (.iload_n 2, 1) := by decide +kernel
theorem dX6_loop_97 : decode cX6_loop 97 = .ok (.bipush 63, 2) := by decide +kernel
theorem dX6_loop_99 : decode cX6_loop 99 = .ok (.aload_n 0, 1) := by decide +kernel
theorem dX6_loop_100 : decode cX6_loop 100 = .ok (.getfield 77, 3) := by decide +kernel
theorem dX6_loop_103 : decode cX6_loop 103 = .ok (.invokevirtual 99, 3) := by decide +kernel
theorem dX6_loop_106 : decode cX6_loop 106 = .ok (.pop, 1) := by decide +kernel
theorem dX6_loop_107 : decode cX6_loop 107 = .ok (.aload_n 0, 1) := by decide +kernel
theorem dX6_loop_108 : decode cX6_loop 108 = .ok (.dup, 1) := by decide +kernel
theorem dX6_loop_109 : decode cX6_loop 109 = .ok (.getfield 77, 3) := by decide +kernel
theorem dX6_loop_112 : decode cX6_loop 112 = .ok (.iconst 1, 1) := by decide +kernel
theorem dX6_loop_113 : decode cX6_loop 113 = .ok (.iadd, 1) := by decide +kernel
theorem dX6_loop_114 : decode cX6_loop 114 = .ok (.putfield 77, 3) := by decide +kernel
theorem dX6_loop_117 : decode cX6_loop 117 = .ok (.aload_n 0, 1) := by decide +kernel
theorem dX6_loop_118 : decode cX6_loop 118 = .ok (.iload_n 2, 1) := by decide +kernel
theorem dX6_loop_119 : decode cX6_loop 119 = .ok (.invokevirtual 214, 3) := by decide +kernel
theorem dX6_loop_122 : decode cX6_loop 122 = .ok (.goto 19, 3) := by decide +kernel
theorem dX6_loop_125 : decode cX6_loop 125 = .ok (.aload_n 0, 1) := by decide +kernel
theorem dX6_loop_126 : decode cX6_loop 126 = .ok (.bipush 46, 2) := by decide +kernel
theorem dX6_loop_128 : decode cX6_loop 128 = .ok (.iload_n 2, 1) := by decide +kernel
theorem dX6_loop_129 : decode cX6_loop 129 = .ok (.iconst 0, 1) := by decide +kernel
theorem dX6_loop_130 : decode cX6_loop 130 = .ok (.invokevirtual 106, 3) := by decide +kernel
theorem dX6_loop_133 : decode cX6_loop 133 = .ok (.aload_n 0, 1) := by decide +kernel
theorem dX6_loop_134 : decode cX6_loop 134 = .ok (.bipush 41, 2) := by decide +kernel
theorem dX6_loop_136 : decode cX6_loop 136 = .ok (.iload_n 2, 1) := by decide +kernel
theorem dX6_loop_137 : decode cX6_loop 137 = .ok (.iconst 5, 1) := by decide +kernel
theorem dX6_loop_138 : decode cX6_loop 138 = .ok (.invokevirtual 106, 3) := by decide +kernel
theorem dX6_loop_141 : decode cX6_loop 141 = .ok (.return_, 1) := by decide +kernel
theorem dX6_forRest_0 : decode cX6_forRest 0 = .ok (.aload_n 0, 1) := by decide +kernel
theorem dX6_forRest_1 : decode cX6_forRest 1 = .ok (.getfield 14, 3) := by decide +kernel
theorem dX6_forRest_4 : decode cX6_forRest 4 = .ok (.aload_n 0, 1) := by decide +kernel
theorem dX6_forRest_5 : decode cX6_forRest 5 = .ok (.getfield 27, 3) := by decide +kernel
theorem dX6_forRest_8 : decode cX6_forRest 8 = .ok (.iload_n 1, 1) := by decide +kernel
theorem dX6_forRest_9 : decode cX6_forRest 9 = .ok (.iaload, 1) := by decide +kernel
theorem dX6_forRest_10 : decode cX6_forRest 10 = .ok (.iaload, 1) := by decide +kernel
theorem dX6_forRest_11 : decode cX6_forRest 11 = .ok (.bipush 66, 2) := by decide +kernel
theorem dX6_forRest_13 : decode cX6_forRest 13 = .ok (.if_icmp .ne 11, 3) := by decide +kernel
theorem dX6_forRest_16 : decode cX6_forRest 16 = .ok (.aload_n 0, 1) := by decide +kernel
theorem dX6_forRest_17 : decode cX6_forRest 17 = .ok (.iload_n 1, 1) := by decide +kernel
theorem dX6_forRest_18 : decode cX6_forRest 18 = .ok (.invokevirtual 180, 3) := by decide +kernel
theorem dX6_forRest_21 : decode cX6_forRest 21 = .ok (.goto 75, 3) := by decide +kernel
theorem dX6_forRest_24 : decode cX6_forRest 24 = .ok (.aload_n 0, 1) := by decide +kernel
theorem dX6_forRest_25 : decode cX6_forRest 25 = .ok (.invokevirtual 83, 3) := by decide +kernel
theorem dX6_forRest_28 : decode cX6_forRest 28 = .ok (.bipush 85, 2) := by decide +kernel
theorem dX6_forRest_30 : decode cX6_forRest 30 = .ok (.if_icmp .ne 33, 3) := by decide +kernel
theorem dX6_forRest_33 : decode cX6_forRest 33 = .ok (.aload_n 0, 1) := by decide +kernel
theorem dX6_forRest_34 : decode cX6_forRest 34 = .ok (.iload_n 1, 1) := by decide +kernel
theorem dX6_forRest_35 : decode cX6_forRest 35 = .ok (.bipush 63, 2) := by decide +kernel
theorem dX6_forRest_37 : decode cX6_forRest 37 = .ok (.aload_n 0, 1) := by decide +kernel
theorem dX6_forRest_38 : decode cX6_forRest 38 = .ok (.getfield 77, 3) := by decide +kernel
theorem dX6_forRest_41 : decode cX6_forRest 41 = .ok (.invokevirtual 114, 3) := by decide +kernel
theorem dX6_forRest_44 : decode cX6_forRest 44 = .ok (.pop, 1) := by decide +kernel
theorem dX6_forRest_45 : decode cX6_forRest 45 = .ok (.aload_n 0, 1) := by decide +kernel
theorem dX6_forRest_46 : decode cX6_forRest 46 = .ok (.dup, 1) := by decide +kernel
theorem dX6_forRest_47 : decode cX6_forRest 47 = .ok (.getfield 77, 3) := by decide +kernel
theorem dX6_forRest_50 : decode cX6_forRest 50 = .ok (.iconst 1, 1) := by decide +kernel
theorem dX6_forRest_51 : decode cX6_forRest 51 = .ok (.iadd, 1) := by decide +kernel
theorem dX6_forRest_52 : decode cX6_forRest 52 = .ok (.putfield 77, 3) := by decide +kernel
theorem dX6_forRest_55 : decode cX6_forRest 55 = .ok (.aload_n 0, 1) := by decide +kernel
theorem dX6_forRest_56 : decode cX6_forRest 56 = .ok (.iload_n 1, 1) := by decide +kernel
theorem dX6_forRest_57 : decode cX6_forRest 57 = .ok (.invokevirtual 214, 3) := by decide +kernel
theorem dX6_forRest_60 : decode cX6_forRest 60 = .ok (.goto 36, 3) := by decide +kernel
theorem dX6_forRest_63 : decode cX6_forRest 63 = .ok (.aload_n 0, 1) := by decide +kernel
theorem dX6_forRest_64 : decode cX6_forRest 64 = .ok (.getfield 14, 3) := by decide +kernel
theorem dX6_forRest_67 : decode cX6_forRest 67 = .ok (.aload_n 0, 1) := by decide +kernel
theorem dX6_forRest_68 : decode cX6_forRest 68 = .ok (.getfield 27, 3) := by decide +kernel
theorem dX6_forRest_71 : decode cX6_forRest 71 = .ok (.iload_n 1, 1) := by decide +kernel
theorem dX6_forRest_72 : decode cX6_forRest 72 = .ok (.iaload, 1) := by decide +kernel
theorem dX6_forRest_73 : decode cX6_forRest 73 = .ok (.iaload, 1) := by decide +kernel
theorem dX6_forRest_74 : decode cX6_forRest 74 = .ok (.bipush 50, 2) := by decide +kernel
theorem dX6_forRest_76 : decode cX6_forRest 76 = .ok (.if_icmp .ne 16, 3) := by decide +kernel
theorem dX6_forRest_79 : decode cX6_forRest 79 = .ok (.aload_n 0, 1) := by decide +kernel
theorem dX6_forRest_80 : decode cX6_forRest 80 = .ok (.iload_n 1, 1) := by decide +kernel
theorem dX6_forRest_81 : decode cX6_forRest 81 = .ok (.invokevirtual 211, 3) := by decide +kernel
theorem dX6_forRest_84 : decode cX6_forRest 84 = .ok (.aload_n 0, 1) := by decide +kernel
theorem dX6_forRest_85 : decode cX6_forRest 85 = .ok (.iload_n 1, 1) := by decide +kernel
theorem dX6_forRest_86 : decode cX6_forRest 86 = .ok (.invokevirtual 180, 3) := by decide +kernel
theorem dX6_forRest_89 : decode cX6_forRest 89 = .ok (.goto 7, 3) := by decide +kernel
theorem dX6_forRest_92 : decode cX6_forRest 92 = .ok (.aload_n 0, 1) := by decide +kernel
theorem dX6_forRest_93 : decode cX6_forRest 93 = .ok (.invokevirtual 87, 3) := by decide +kernel
theorem dX6_forRest_96 : decode cX6_forRest 96 = .ok (.return_, 1) := by decide +kernel
theorem dX6_condition_0 : decode cX6_condition 0 = .ok (.aload_n 0, 1) := by decide +kernel
theorem dX6_condition_1 : decode cX6_condition 1 = .ok (.iload_n 1, 1) := by decide +kernel
theorem dX6_condition_2 : decode cX6_condition 2 = .ok (.bipush 64, 2) := by decide +kernel
theorem dX6_condition_4 : decode cX6_condition 4 = .ok (.aload_n 0, 1) := by decide +kernel
theorem dX6_condition_5 : decode cX6_condition 5 = .ok (.getfield 77, 3) := by decide +kernel
theorem dX6_condition_8 : decode cX6_condition 8 = .ok (.invokevirtual 99, 3) := by decide +kernel
theorem dX6_condition_11 : decode cX6_condition 11 = .ok (.istore_n 2, 1) := by decide +kernel
theorem dX6_condition_12 : decode cX6_condition 12 = .ok (.aload_n 0, 1) := by decide +kernel
theorem dX6_condition_13 : decode cX6_condition 13 = .ok (.bipush 48, 2) := by decide +kernel
theorem dX6_condition_15 : decode cX6_condition 15 = .ok (.iload_n 1, 1) := by decide +kernel
theorem dX6_condition_16 : decode cX6_condition 16 = .ok (.iload_n 2, 1) := by decide +kernel
theorem dX6_condition_17 : decode cX6_condition 17 = .ok (.invokevirtual 106, 3) := by decide +kernel
theorem dX6_condition_20 : decode cX6_condition 20 = .ok (.aload_n 0, 1) := by decide +kernel
theorem dX6_condition_21 : decode cX6_condition 21 = .ok (.invokevirtual 83, 3) := by decide +kernel
theorem dX6_condition_24 : decode cX6_condition 24 = .ok (.bipush 85, 2) := by decide +kernel
theorem dX6_condition_26 : decode cX6_condition 26 = .ok (.if_icmp .eq 10, 3) := by decide +kernel
theorem dX6_condition_29 : decode cX6_condition 29 = .ok (.aload_n 0, 1) := by decide +kernel
theorem dX6_condition_30 : decode cX6_condition 30 = .ok (.iload_n 2, 1) := by decide +kernel
theorem dX6_condition_31 : decode cX6_condition 31 = .ok (.iconst 1, 1) := by decide +kernel
theorem dX6_condition_32 : decode cX6_condition 32 = .ok (.iconst 1, 1) := by decide +kernel
theorem dX6_condition_33 : decode cX6_condition 33 = .ok (.invokevirtual 117, 3) := by decide +kernel
theorem dX6_condition_36 : decode cX6_condition 36 = .ok (.return_, 1) := by decide +kernel
theorem dX6_forPost_0 : decode cX6_forPost 0 = .ok (.aload_n 0, 1) := by decide +kernel
theorem dX6_forPost_1 : decode cX6_forPost 1 = .ok (.invokevirtual 83, 3) := by decide +kernel
theorem dX6_forPost_4 : decode cX6_forPost 4 = .ok (.bipush 85, 2) := by decide +kernel
theorem dX6_forPost_6 : decode cX6_forPost 6 = .ok (.if_icmp .eq 8, 3) := by decide +kernel
theorem dX6_forPost_9 : decode cX6_forPost 9 = .ok (.aload_n 0, 1) := by decide +kernel
theorem dX6_forPost_10 : decode cX6_forPost 10 = .ok (.invokevirtual 87, 3) := by decide +kernel
theorem dX6_forPost_13 : decode cX6_forPost 13 = .ok (.return_, 1) := by decide +kernel
theorem dX6_forPost_14 : decode cX6_forPost 14 = .ok (.aload_n 0, 1) := by decide +kernel
theorem dX6_forPost_15 : decode cX6_forPost 15 = .ok (.getfield 18, 3) := by decide +kernel
theorem dX6_forPost_18 : decode cX6_forPost 18 = .ok (.iload_n 2, 1) := by decide +kernel
theorem dX6_forPost_19 : decode cX6_forPost 19 = .ok (.aload_n 0, 1) := by decide +kernel
theorem dX6_forPost_20 : decode cX6_forPost 20 = .ok (.getfield 77, 3) := by decide +kernel
theorem dX6_forPost_23 : decode cX6_forPost 23 = .ok (.iastore, 1) := by decide +kernel
theorem dX6_forPost_24 : decode cX6_forPost 24 = .ok (.aload_n 0, 1) := by decide +kernel
theorem dX6_forPost_25 : decode cX6_forPost 25 = .ok (.iload_n 1, 1) := by decide +kernel
theorem dX6_forPost_26 : decode cX6_forPost 26 = .ok (.bipush 65, 2) := by decide +kernel
theorem dX6_forPost_28 : decode cX6_forPost 28 = .ok (.aload_n 0, 1) := by decide +kernel
theorem dX6_forPost_29 : decode cX6_forPost 29 = .ok (.getfield 77, 3) := by decide +kernel
theorem dX6_forPost_32 : decode cX6_forPost 32 = .ok (.invokevirtual 99, 3) := by decide +kernel
theorem dX6_forPost_35 : decode cX6_forPost 35 = .ok (.istore_n 3, 1) := by decide +kernel
theorem dX6_forPost_36 : decode cX6_forPost 36 = .ok (.aload_n 0, 1) := by decide +kernel
theorem dX6_forPost_37 : decode cX6_forPost 37 = .ok (.dup, 1) := by decide +kernel
theorem dX6_forPost_38 : decode cX6_forPost 38 = .ok (.getfield 77, 3) := by decide +kernel
theorem dX6_forPost_41 : decode cX6_forPost 41 = .ok (.iconst 1, 1) := by decide +kernel
theorem dX6_forPost_42 : decode cX6_forPost 42 = .ok (.iadd, 1) := by decide +kernel
theorem dX6_forPost_43 : decode cX6_forPost 43 = .ok (.putfield 77, 3) := by decide +kernel
theorem dX6_forPost_46 : decode cX6_forPost 46 = .ok (.aload_n 0, 1) := by decide +kernel
theorem dX6_forPost_47 : decode cX6_forPost 47 = .ok (.bipush 38, 2) := by decide +kernel
theorem dX6_forPost_49 : decode cX6_forPost 49 = .ok (.iload_n 1, 1) := by decide +kernel
theorem dX6_forPost_50 : decode cX6_forPost 50 = .ok (.iconst 0, 1) := by decide +kernel
theorem dX6_forPost_51 : decode cX6_forPost 51 = .ok (.invokevirtual 106, 3) := by decide +kernel
theorem dX6_forPost_54 : decode cX6_forPost 54 = .ok (.aload_n 0, 1) := by decide +kernel
theorem dX6_forPost_55 : decode cX6_forPost 55 = .ok (.invokevirtual 83, 3) := by decide +kernel
theorem dX6_forPost_58 : decode cX6_forPost 58 = .ok (.bipush 82, 2) := by decide +kernel
theorem dX6_forPost_60 : decode cX6_forPost 60 = .ok (.if_icmp .eq 12, 3) := by decide +kernel
theorem dX6_forPost_63 : decode cX6_forPost 63 = .ok (.aload_n 0, 1) := by decide +kernel
theorem dX6_forPost_64 : decode cX6_forPost 64 = .ok (.bipush 41, 2) := by decide +kernel
theorem dX6_forPost_66 : decode cX6_forPost 66 = .ok (.iload_n 3, 1) := by decide +kernel
theorem dX6_forPost_67 : decode cX6_forPost 67 = .ok (.bipush 65, 2) := by decide +kernel
theorem dX6_forPost_69 : decode cX6_forPost 69 = .ok (.invokevirtual 106, 3) := by decide +kernel
theorem dX6_forPost_72 : decode cX6_forPost 72 = .ok (.return_, 1) := by decide +kernel
theorem dX6_choice_0 : decode cX6_choice 0 = .ok (.aload_n 0, 1) := by decide +kernel
theorem dX6_choice_1 : decode cX6_choice 1 = .ok (.iload_n 1, 1) := by decide +kernel
theorem dX6_choice_2 : decode cX6_choice 2 = .ok (.bipush 68, 2) := by decide +kernel
theorem dX6_choice_4 : decode cX6_choice 4 = .ok (.aload_n 0, 1) := by decide +kernel
theorem dX6_choice_5 : decode cX6_choice 5 = .ok (.getfield 77, 3) := by decide +kernel
theorem dX6_choice_8 : decode cX6_choice 8 = .ok (.invokevirtual 99, 3) := by decide +kernel
theorem dX6_choice_11 : decode cX6_choice 11 = .ok (.istore_n 2, 1) := by decide +kernel
theorem dX6_choice_12 : decode cX6_choice 12 = .ok (.aload_n 0, 1) := by decide +kernel
theorem dX6_choice_13 : decode cX6_choice 13 = .ok (.dup, 1) := by decide +kernel
theorem dX6_choice_14 : decode cX6_choice 14 = .ok (.getfield 77, 3) := by decide +kernel
theorem dX6_choice_17 : decode cX6_choice 17 = .ok (.iconst 1, 1) := by decide +kernel
theorem dX6_choice_18 : decode cX6_choice 18 = .ok (.iadd, 1) := by decide +kernel
theorem dX6_choice_19 : decode cX6_choice 19 = .ok (.putfield 77, 3) := by decide +kernel
theorem dX6_choice_22 : decode cX6_choice 22 = .ok (.aload_n 0, 1) := by decide +kernel
theorem dX6_choice_23 : decode cX6_choice 23 = .ok (.invokevirtual 83, 3) := by decide +kernel
theorem dX6_choice_26 : decode cX6_choice 26 = .ok (.bipush 82, 2) := by decide +kernel
theorem dX6_choice_28 : decode cX6_choice 28 = .ok (.if_icmp .ne 12, 3) := by decide +kernel
theorem dX6_choice_31 : decode cX6_choice 31 = .ok (.aload_n 0, 1) := by decide +kernel
theorem dX6_choice_32 : decode cX6_choice 32 = .ok (.iload_n 2, 1) := by decide +kernel
theorem dX6_choice_33 : decode cX6_choice 33 = .ok (.iconst 0, 1) := by decide +kernel
theorem dX6_choice_34 : decode cX6_choice 34 = .ok (.invokevirtual 192, 3) := by decide +kernel
theorem dX6_choice_37 : decode cX6_choice 37 = .ok (.goto 59, 3) := by decide +kernel
theorem dX6_choice_40 : decode cX6_choice 40 = .ok (.aload_n 0, 1) := by decide +kernel
theorem dX6_choice_41 : decode cX6_choice 41 = .ok (.invokevirtual 83, 3) := by decide +kernel
theorem dX6_choice_44 : decode cX6_choice 44 = .ok (.bipush 85, 2) := by decide +kernel
theorem dX6_choice_46 : decode cX6_choice 46 = .ok (.if_icmp .ne 33, 3) := by decide +kernel
theorem dX6_choice_49 : decode cX6_choice 49 = .ok (.aload_n 0, 1) := by decide +kernel
theorem dX6_choice_50 : decode cX6_choice 50 = .ok (.iload_n 2, 1) := by decide +kernel
theorem dX6_choice_51 : decode cX6_choice 51 = .ok (.bipush 61, 2) := by decide +kernel
theorem dX6_choice_53 : decode cX6_choice 53 = .ok (.aload_n 0, 1) := by decide +kernel
theorem dX6_choice_54 : decode cX6_choice 54 = .ok (.getfield 77, 3) := by decide +kernel
theorem dX6_choice_57 : decode cX6_choice 57 = .ok (.invokevirtual 99, 3) := by decide +kernel
theorem dX6_choice_60 : decode cX6_choice 60 = .ok (.pop, 1) := by decide +kernel
theorem dX6_choice_61 : decode cX6_choice 61 = .ok (.aload_n 0, 1) := by decide +kernel
theorem dX6_choice_62 : decode cX6_choice 62 = .ok (.dup, 1) := by decide +kernel
theorem dX6_choice_63 : decode cX6_choice 63 = .ok (.getfield 77, 3) := by decide +kernel
theorem dX6_choice_66 : decode cX6_choice 66 = .ok (.iconst 1, 1) := by decide +kernel
theorem dX6_choice_67 : decode cX6_choice 67 = .ok (.iadd, 1) := by decide +kernel
theorem dX6_choice_68 : decode cX6_choice 68 = .ok (.putfield 77, 3) := by decide +kernel
theorem dX6_choice_71 : decode cX6_choice 71 = .ok (.aload_n 0, 1) := by decide +kernel
theorem dX6_choice_72 : decode cX6_choice 72 = .ok (.iload_n 2, 1) := by decide +kernel
theorem dX6_choice_73 : decode cX6_choice 73 = .ok (.invokevirtual 217, 3) := by decide +kernel
theorem dX6_choice_76 : decode cX6_choice 76 = .ok (.goto 20, 3) := by decide +kernel
theorem dX6_choice_79 : decode cX6_choice 79 = .ok (.aload_n 0, 1) := by decide +kernel
theorem dX6_choice_80 : decode cX6_choice 80 = .ok (.bipush 49, 2) := by decide +kernel
theorem dX6_choice_82 : decode cX6_choice 82 = .ok (.iload_n 2, 1) := by decide +kernel
theorem dX6_choice_83 : decode cX6_choice 83 = .ok (.iconst 0, 1) := by decide +kernel
theorem dX6_choice_84 : decode cX6_choice 84 = .ok (.invokevirtual 106, 3) := by decide +kernel
theorem dX6_choice_87 : decode cX6_choice 87 = .ok (.aload_n 0, 1) := by decide +kernel
theorem dX6_choice_88 : decode cX6_choice 88 = .ok (.bipush 41, 2) := by decide +kernel
theorem dX6_choice_90 : decode cX6_choice 90 = .ok (.iload_n 2, 1) := by decide +kernel
theorem dX6_choice_91 : decode cX6_choice 91 = .ok (.bipush 9, 2) := by decide +kernel
theorem dX6_choice_93 : decode cX6_choice 93 = .ok (.invokevirtual 106, 3) := by decide +kernel
theorem dX6_choice_96 : decode cX6_choice 96 = .ok (.return_, 1) := by decide +kernel
theorem dX6_second_0 : decode cX6_second 0 = .ok (.aload_n 0, 1) := by decide +kernel
theorem dX6_second_1 : decode cX6_second 1 = .ok (.invokevirtual 83, 3) := by decide +kernel
theorem dX6_second_4 : decode cX6_second 4 = .ok (.bipush 82, 2) := by decide +kernel
theorem dX6_second_6 : decode cX6_second 6 = .ok (.if_icmp .ne 10, 3) := by decide +kernel
theorem dX6_second_9 : decode cX6_second 9 = .ok (.aload_n 0, 1) := by decide +kernel
theorem dX6_second_10 : decode cX6_second 10 = .ok (.iload_n 1, 1) := by decide +kernel
theorem dX6_second_11 : decode cX6_second 11 = .ok (.iconst 0, 1) := by decide +kernel
theorem dX6_second_12 : decode cX6_second 12 = .ok (.invokevirtual 192, 3) := by decide +kernel
theorem dX6_second_15 : decode cX6_second 15 = .ok (.return_, 1) := by decide +kernel
theorem dX6_second_16 : decode cX6_second 16 = .ok (.aload_n 0, 1) := by decide +kernel
theorem dX6_second_17 : decode cX6_second 17 = .ok (.bipush 50, 2) := by decide +kernel
theorem dX6_second_19 : decode cX6_second 19 = .ok (.iload_n 1, 1) := by decide +kernel
theorem dX6_second_20 : decode cX6_second 20 = .ok (.iconst 0, 1) := by decide +kernel
theorem dX6_second_21 : decode cX6_second 21 = .ok (.invokevirtual 106, 3) := by decide +kernel
theorem dX6_second_24 : decode cX6_second 24 = .ok (.aload_n 0, 1) := by decide +kernel
theorem dX6_second_25 : decode cX6_second 25 = .ok (.bipush 41, 2) := by decide +kernel
theorem dX6_second_27 : decode cX6_second 27 = .ok (.iload_n 1, 1) := by decide +kernel
theorem dX6_second_28 : decode cX6_second 28 = .ok (.bipush 25, 2) := by decide +kernel
theorem dX6_second_30 : decode cX6_second 30 = .ok (.invokevirtual 106, 3) := by decide +kernel
theorem dX6_second_33 : decode cX6_second 33 = .ok (.return_, 1) := by decide +kernel
theorem dX6_switchRest_0 : decode cX6_switchRest 0 = .ok (.aload_n 0, 1) := by decide +kernel
theorem dX6_switchRest_1 : decode cX6_switchRest 1 = .ok (.getfield 14, 3) := by decide +kernel
theorem dX6_switchRest_4 : decode cX6_switchRest 4 = .ok (.aload_n 0, 1) := by decide +kernel
theorem dX6_switchRest_5 : decode cX6_switchRest 5 = .ok (.getfield 27, 3) := by decide +kernel
theorem dX6_switchRest_8 : decode cX6_switchRest 8 = .ok (.iload_n 1, 1) := by decide +kernel
theorem dX6_switchRest_9 : decode cX6_switchRest 9 = .ok (.iaload, 1) := by decide +kernel
theorem dX6_switchRest_10 : decode cX6_switchRest 10 = .ok (.iaload, 1) := by decide +kernel
theorem dX6_switchRest_11 : decode cX6_switchRest 11 = .ok (.istore_n 2, 1) := by decide +kernel
theorem dX6_switchRest_12 : decode cX6_switchRest 12 = .ok (.iload_n 2, 1) := by decide +kernel
theorem dX6_switchRest_13 : decode cX6_switchRest 13 = .ok (.bipush 69, 2) := by decide +kernel
theorem dX6_switchRest_15 : decode cX6_switchRest 15 = .ok (.if_icmp .ne 12, 3) := by decide +kernel
theorem dX6_switchRest_18 : decode cX6_switchRest 18 = .ok (.aload_n 0, 1) := by decide +kernel
theorem dX6_switchRest_19 : decode cX6_switchRest 19 = .ok (.iload_n 1, 1) := by decide +kernel
theorem dX6_switchRest_20 : decode cX6_switchRest 20 = .ok (.iconst 1, 1) := by decide +kernel
theorem dX6_switchRest_21 : decode cX6_switchRest 21 = .ok (.invokevirtual 192, 3) := by decide +kernel
theorem dX6_switchRest_24 : decode cX6_switchRest 24 = .ok (.goto 66, 3) := by decide +kernel
theorem dX6_switchRest_27 : decode cX6_switchRest 27 = .ok (.aload_n 0, 1) := by decide +kernel
theorem dX6_switchRest_28 : decode cX6_switchRest 28 = .ok (.invokevirtual 83, 3) := by decide +kernel
theorem dX6_switchRest_31 : decode cX6_switchRest 31 = .ok (.bipush 85, 2) := by decide +kernel
theorem dX6_switchRest_33 : decode cX6_switchRest 33 = .ok (.if_icmp .ne 33, 3) := by decide +kernel
theorem dX6_switchRest_36 : decode cX6_switchRest 36 = .ok (.aload_n 0, 1) := by decide +kernel
theorem dX6_switchRest_37 : decode cX6_switchRest 37 = .ok (.iload_n 1, 1) := by decide +kernel
theorem dX6_switchRest_38 : decode cX6_switchRest 38 = .ok (.bipush 61, 2) := by decide +kernel
theorem dX6_switchRest_40 : decode cX6_switchRest 40 = .ok (.aload_n 0, 1) := by decide +kernel
theorem dX6_switchRest_41 : decode cX6_switchRest 41 = .ok (.getfield 77, 3) := by decide +kernel
theorem dX6_switchRest_44 : decode cX6_switchRest 44 = .ok (.invokevirtual 114, 3) := by decide +kernel
theorem dX6_switchRest_47 : decode cX6_switchRest 47 = .ok (.pop, 1) := by decide +kernel
theorem dX6_switchRest_48 : decode cX6_switchRest 48 = .ok (.aload_n 0, 1) := by decide +kernel
theorem dX6_switchRest_49 : decode cX6_switchRest 49 = .ok (.dup, 1) := by decide +kernel
theorem dX6_switchRest_50 : decode cX6_switchRest 50 = .ok (.getfield 77, 3) := by decide +kernel
theorem dX6_switchRest_53 : decode cX6_switchRest 53 = .ok (.iconst 1, 1) := by decide +kernel
theorem dX6_switchRest_54 : decode cX6_switchRest 54 = .ok (.iadd, 1) := by decide +kernel
theorem dX6_switchRest_55 : decode cX6_switchRest 55 = .ok (.putfield 77, 3) := by decide +kernel
theorem dX6_switchRest_58 : decode cX6_switchRest 58 = .ok (.aload_n 0, 1) := by decide +kernel
theorem dX6_switchRest_59 : decode cX6_switchRest 59 = .ok (.iload_n 1, 1) := by decide +kernel
theorem dX6_switchRest_60 : decode cX6_switchRest 60 = .ok (.invokevirtual 217, 3) := by decide +kernel
theorem dX6_switchRest_63 : decode cX6_switchRest 63 = .ok (.goto 27, 3) := by decide +kernel
theorem dX6_switchRest_66 : decode cX6_switchRest 66 = .ok (.iload_n 2, 1) := by decide +kernel
theorem dX6_switchRest_67 : decode cX6_switchRest 67 = .ok (.bipush 50, 2) := by decide +kernel
theorem dX6_switchRest_69 : decode cX6_switchRest 69 = .ok (.if_icmp .ne 17, 3) := by decide +kernel
theorem dX6_switchRest_72 : decode cX6_switchRest 72 = .ok (.aload_n 0, 1) := by decide +kernel
theorem dX6_switchRest_73 : decode cX6_switchRest 73 = .ok (.iload_n 1, 1) := by decide +kernel
theorem dX6_switchRest_74 : decode cX6_switchRest 74 = .ok (.invokevirtual 211, 3) := by decide +kernel
theorem dX6_switchRest_77 : decode cX6_switchRest 77 = .ok (.aload_n 0, 1) := by decide +kernel
theorem dX6_switchRest_78 : decode cX6_switchRest 78 = .ok (.iload_n 1, 1) := by decide +kernel
theorem dX6_switchRest_79 : decode cX6_switchRest 79 = .ok (.iconst 0, 1) := by decide +kernel
theorem dX6_switchRest_80 : decode cX6_switchRest 80 = .ok (.invokevirtual 192, 3) := by decide +kernel
theorem dX6_switchRest_83 : decode cX6_switchRest 83 = .ok (.goto 7, 3) := by decide +kernel
theorem dX6_switchRest_86 : decode cX6_switchRest 86 = .ok (.aload_n 0, 1) := by decide +kernel
theorem dX6_switchRest_87 : decode cX6_switchRest 87 = .ok (.invokevirtual 87, 3) := by decide +kernel
theorem dX6_switchRest_90 : decode cX6_switchRest 90 = .ok (.return_, 1) := by decide +kernel
theorem dX6_body_0 : decode cX6_body 0 = .ok (.aload_n 0, 1) := by decide +kernel
theorem dX6_body_1 : decode cX6_body 1 = .ok (.invokevirtual 83, 3) := by decide +kernel
theorem dX6_body_4 : decode cX6_body 4 = .ok (.bipush 82, 2) := by decide +kernel
theorem dX6_body_6 : decode cX6_body 6 = .ok (.if_icmp .eq 8, 3) := by decide +kernel
theorem dX6_body_9 : decode cX6_body 9 = .ok (.aload_n 0, 1) := by decide +kernel
theorem dX6_body_10 : decode cX6_body 10 = .ok (.invokevirtual 87, 3) := by decide +kernel
theorem dX6_body_13 : decode cX6_body 13 = .ok (.return_, 1) := by decide +kernel
theorem dX6_body_14 : decode cX6_body 14 = .ok (.aload_n 0, 1) := by decide +kernel
theorem dX6_body_15 : decode cX6_body 15 = .ok (.invokevirtual 123, 3) := by decide +kernel
theorem dX6_body_18 : decode cX6_body 18 = .ok (.aload_n 0, 1) := by decide +kernel
theorem dX6_body_19 : decode cX6_body 19 = .ok (.dup, 1) := by decide +kernel
theorem dX6_body_20 : decode cX6_body 20 = .ok (.getfield 77, 3) := by decide +kernel
theorem dX6_body_23 : decode cX6_body 23 = .ok (.iconst 1, 1) := by decide +kernel
theorem dX6_body_24 : decode cX6_body 24 = .ok (.iadd, 1) := by decide +kernel
theorem dX6_body_25 : decode cX6_body 25 = .ok (.putfield 77, 3) := by decide +kernel
theorem dX6_body_28 : decode cX6_body 28 = .ok (.aload_n 0, 1) := by decide +kernel
theorem dX6_body_29 : decode cX6_body 29 = .ok (.bipush 51, 2) := by decide +kernel
theorem dX6_body_31 : decode cX6_body 31 = .ok (.iload_n 1, 1) := by decide +kernel
theorem dX6_body_32 : decode cX6_body 32 = .ok (.iload_n 2, 1) := by decide +kernel
theorem dX6_body_33 : decode cX6_body 33 = .ok (.invokevirtual 106, 3) := by decide +kernel
theorem dX6_body_36 : decode cX6_body 36 = .ok (.return_, 1) := by decide +kernel
theorem dX6_clauses_0 : decode cX6_clauses 0 = .ok (.aload_n 0, 1) := by decide +kernel
theorem dX6_clauses_1 : decode cX6_clauses 1 = .ok (.invokevirtual 83, 3) := by decide +kernel
theorem dX6_clauses_4 : decode cX6_clauses 4 = .ok (.istore_n 3, 1) := by decide +kernel
theorem dX6_clauses_5 : decode cX6_clauses 5 = .ok (.iload_n 3, 1) := by decide +kernel
theorem dX6_clauses_6 : decode cX6_clauses 6 = .ok (.bipush 83, 2) := by decide +kernel
theorem dX6_clauses_8 : decode cX6_clauses 8 = .ok (.if_icmp .ne 24, 3) := by decide +kernel
theorem dX6_clauses_11 : decode cX6_clauses 11 = .ok (.aload_n 0, 1) := by decide +kernel
theorem dX6_clauses_12 : decode cX6_clauses 12 = .ok (.dup, 1) := by decide +kernel
theorem dX6_clauses_13 : decode cX6_clauses 13 = .ok (.getfield 77, 3) := by decide +kernel
theorem dX6_clauses_16 : decode cX6_clauses 16 = .ok (.iconst 1, 1) := by decide +kernel
theorem dX6_clauses_17 : decode cX6_clauses 17 = .ok (.iadd, 1) := by decide +kernel
theorem dX6_clauses_18 : decode cX6_clauses 18 = .ok (.putfield 77, 3) := by decide +kernel
theorem dX6_clauses_21 : decode cX6_clauses 21 = .ok (.aload_n 0, 1) := by decide +kernel
theorem dX6_clauses_22 : decode cX6_clauses 22 = .ok (.dup, 1) := by decide +kernel
theorem dX6_clauses_23 : decode cX6_clauses 23 = .ok (.getfield 90, 3) := by decide +kernel
theorem dX6_clauses_26 : decode cX6_clauses 26 = .ok (.iconst 1, 1) := by decide +kernel
theorem dX6_clauses_27 : decode cX6_clauses 27 = .ok (.isub, 1) := by decide +kernel
theorem dX6_clauses_28 : decode cX6_clauses 28 = .ok (.putfield 90, 3) := by decide +kernel
theorem dX6_clauses_31 : decode cX6_clauses 31 = .ok (.return_, 1) := by decide +kernel
theorem dX6_clauses_32 : decode cX6_clauses 32 = .ok (.iload_n 3, 1) := by decide +kernel
theorem dX6_clauses_33 : decode cX6_clauses 33 = .ok (.bipush 11, 2) := by decide +kernel
theorem dX6_clauses_35 : decode cX6_clauses 35 = .ok (.if_icmp .eq 14, 3) := by decide +kernel
theorem dX6_clauses_38 : decode cX6_clauses 38 = .ok (.iload_n 3, 1) := by decide +kernel
theorem dX6_clauses_39 : decode cX6_clauses 39 = .ok (.bipush 15, 2) := by decide +kernel
theorem dX6_clauses_41 : decode cX6_clauses 41 = .ok (.if_icmp .eq 8, 3) := by decide +kernel
theorem dX6_clauses_44 : decode cX6_clauses 44 = .ok (.aload_n 0, 1) := by decide +kernel
theorem dX6_clauses_45 : decode cX6_clauses 45 = .ok (.invokevirtual 87, 3) := by decide +kernel
theorem dX6_clauses_48 : decode cX6_clauses 48 = .ok (.return_, 1) := by decide +kernel
theorem dX6_clauses_49 : decode cX6_clauses 49 = .ok (.aload_n 0, 1) := by decide +kernel
theorem dX6_clauses_50 : decode cX6_clauses 50 = .ok (.iload_n 1, 1) := by decide +kernel
theorem dX6_clauses_51 : decode cX6_clauses 51 = .ok (.iload_n 2, 1) := by decide +kernel
theorem dX6_clauses_52 : decode cX6_clauses 52 = .ok (.iconst 2, 1) := by decide +kernel
theorem dX6_clauses_53 : decode cX6_clauses 53 = .ok (.if_icmp .ne 8, 3) := by decide +kernel
theorem dX6_clauses_56 : decode cX6_clauses 56 = .ok (.bipush 74, 2) := by decide +kernel
theorem dX6_clauses_58 : decode cX6_clauses 58 = .ok (.goto 5, 3) := by decide +kernel
theorem dX6_clauses_61 : decode cX6_clauses 61 = .ok (.bipush 71, 2) := by decide +kernel
theorem dX6_clauses_63 : decode cX6_clauses 63 = .ok (.iload_n 3, 1) := by decide +kernel
theorem dX6_clauses_64 : decode cX6_clauses 64 = .ok (.bipush 11, 2) := by decide +kernel
theorem dX6_clauses_66 : decode cX6_clauses 66 = .ok (.if_icmp .ne 7, 3) := by decide +kernel
theorem dX6_clauses_69 : decode cX6_clauses 69 = .ok (.iconst 0, 1) := by decide +kernel
theorem dX6_clauses_70 : decode cX6_clauses 70 = .ok (.goto 4, 3) := by decide +kernel
theorem dX6_clauses_73 : decode cX6_clauses 73 = .ok (.iconst 1, 1) := by decide +kernel
theorem dX6_clauses_74 : decode cX6_clauses 74 = .ok (.iadd, 1) := by decide +kernel
theorem dX6_clauses_75 : decode cX6_clauses 75 = .ok (.aload_n 0, 1) := by decide +kernel
theorem dX6_clauses_76 : decode cX6_clauses 76 = .ok (.getfield 77, 3) := by decide +kernel
theorem dX6_clauses_79 : decode cX6_clauses 79 = .ok (.invokevirtual 99, 3) := by decide +kernel
theorem dX6_clauses_82 : decode cX6_clauses 82 = .ok (.istore 4, 2) := by decide +kernel
theorem dX6_clauses_84 : decode cX6_clauses 84 = .ok (.aload_n 0, 1) := by decide +kernel
theorem dX6_clauses_85 : decode cX6_clauses 85 = .ok (.dup, 1) := by decide +kernel
theorem dX6_clauses_86 : decode cX6_clauses 86 = .ok (.getfield 77, 3) := by decide +kernel
theorem dX6_clauses_89 : decode cX6_clauses 89 = .ok (.iconst 1, 1) := by decide +kernel
theorem dX6_clauses_90 : decode cX6_clauses 90 = .ok (.iadd, 1) := by decide +kernel
theorem dX6_clauses_91 : decode cX6_clauses 91 = .ok (.putfield 77, 3) := by decide +kernel
theorem dX6_clauses_94 : decode cX6_clauses 94 = .ok (.aload_n 0, 1) := by decide +kernel
theorem dX6_clauses_95 : decode cX6_clauses 95 = .ok (.bipush 51, 2) := by decide +kernel
theorem dX6_clauses_97 : decode cX6_clauses 97 = .ok (.iload_n 1, 1) := by decide +kernel
theorem dX6_clauses_98 : decode cX6_clauses 98 = .ok (.iload_n 2, 1) := by decide +kernel
theorem dX6_clauses_99 : decode cX6_clauses 99 = .ok (.invokevirtual 106, 3) := by decide +kernel
theorem dX6_clauses_102 : decode cX6_clauses 102 = .ok (.aload_n 0, 1) := by decide +kernel
theorem dX6_clauses_103 : decode cX6_clauses 103 = .ok (.bipush 52, 2) := by decide +kernel
theorem dX6_clauses_105 : decode cX6_clauses 105 = .ok (.iload 4, 2) := by decide +kernel
theorem dX6_clauses_107 : decode cX6_clauses 107 = .ok (.iconst 0, 1) := by decide +kernel
theorem dX6_clauses_108 : decode cX6_clauses 108 = .ok (.invokevirtual 106, 3) := by decide +kernel
theorem dX6_clauses_111 : decode cX6_clauses 111 = .ok (.iload_n 3, 1) := by decide +kernel
theorem dX6_clauses_112 : decode cX6_clauses 112 = .ok (.bipush 15, 2) := by decide +kernel
theorem dX6_clauses_114 : decode cX6_clauses 114 = .ok (.if_icmp .ne 4, 3) := by decide +kernel
theorem dX6_clauses_117 : decode cX6_clauses 117 = .ok (.return_, 1) := by decide +kernel
theorem dX6_clauses_118 : decode cX6_clauses 118 = .ok (.iload_n 2, 1) := by decide +kernel
theorem dX6_clauses_119 : decode cX6_clauses 119 = .ok (.ifCond .ne 13, 3) := by decide +kernel
theorem dX6_clauses_122 : decode cX6_clauses 122 = .ok (.aload_n 0, 1) := by decide +kernel
theorem dX6_clauses_123 : decode cX6_clauses 123 = .ok (.iload 4, 2) := by decide +kernel
theorem dX6_clauses_125 : decode cX6_clauses 125 = .ok (.iconst 0, 1) := by decide +kernel
theorem dX6_clauses_126 : decode cX6_clauses 126 = .ok (.invokevirtual 159, 3) := by decide +kernel
theorem dX6_clauses_129 : decode cX6_clauses 129 = .ok (.goto 53, 3) := by decide +kernel
theorem dX6_clauses_132 : decode cX6_clauses 132 = .ok (.iload_n 2, 1) := by decide +kernel
theorem dX6_clauses_133 : decode cX6_clauses 133 = .ok (.iconst 2, 1) := by decide +kernel
theorem dX6_clauses_134 : decode cX6_clauses 134 = .ok (.if_icmp .ne 16, 3) := by decide +kernel
theorem dX6_clauses_137 : decode cX6_clauses 137 = .ok (.aload_n 0, 1) := by decide +kernel
theorem dX6_clauses_138 : decode cX6_clauses 138 = .ok (.bipush 41, 2) := by decide +kernel
theorem dX6_clauses_140 : decode cX6_clauses 140 = .ok (.iload 4, 2) := by decide +kernel
theorem dX6_clauses_142 : decode cX6_clauses 142 = .ok (.bipush 32, 2) := by decide +kernel
theorem dX6_clauses_144 : decode cX6_clauses 144 = .ok (.invokevirtual 106, 3) := by decide +kernel
theorem dX6_clauses_147 : decode cX6_clauses 147 = .ok (.goto 35, 3) := by decide +kernel
theorem dX6_clauses_150 : decode cX6_clauses 150 = .ok (.aload_n 0, 1) := by decide +kernel
theorem dX6_clauses_151 : decode cX6_clauses 151 = .ok (.iload 4, 2) := by decide +kernel
theorem dX6_clauses_153 : decode cX6_clauses 153 = .ok (.bipush 70, 2) := by decide +kernel
theorem dX6_clauses_155 : decode cX6_clauses 155 = .ok (.aload_n 0, 1) := by decide +kernel
theorem dX6_clauses_156 : decode cX6_clauses 156 = .ok (.getfield 77, 3) := by decide +kernel
theorem dX6_clauses_159 : decode cX6_clauses 159 = .ok (.invokevirtual 99, 3) := by decide +kernel
theorem dX6_clauses_162 : decode cX6_clauses 162 = .ok (.istore 5, 2) := by decide +kernel
theorem dX6_clauses_164 : decode cX6_clauses 164 = .ok (.aload_n 0, 1) := by decide +kernel
theorem dX6_clauses_165 : decode cX6_clauses 165 = .ok (.bipush 53, 2) := by decide +kernel
theorem dX6_clauses_167 : decode cX6_clauses 167 = .ok (.iload 5, 2) := by decide +kernel
theorem dX6_clauses_169 : decode cX6_clauses 169 = .ok (.iconst 0, 1) := by decide +kernel
theorem dX6_clauses_170 : decode cX6_clauses 170 = .ok (.invokevirtual 106, 3) := by decide +kernel
theorem dX6_clauses_173 : decode cX6_clauses 173 = .ok (.aload_n 0, 1) := by decide +kernel
theorem dX6_clauses_174 : decode cX6_clauses 174 = .ok (.bipush 18, 2) := by decide +kernel
theorem dX6_clauses_176 : decode cX6_clauses 176 = .ok (.iload 5, 2) := by decide +kernel
theorem dX6_clauses_178 : decode cX6_clauses 178 = .ok (.iconst 0, 1) := by decide +kernel
theorem dX6_clauses_179 : decode cX6_clauses 179 = .ok (.invokevirtual 106, 3) := by decide +kernel
theorem dX6_clauses_182 : decode cX6_clauses 182 = .ok (.return_, 1) := by decide +kernel
theorem dX6_types_0 : decode cX6_types 0 = .ok (.aload_n 0, 1) := by decide +kernel
theorem dX6_types_1 : decode cX6_types 1 = .ok (.invokevirtual 83, 3) := by decide +kernel
theorem dX6_types_4 : decode cX6_types 4 = .ok (.bipush 84, 2) := by decide +kernel
theorem dX6_types_6 : decode cX6_types 6 = .ok (.if_icmp .eq 4, 3) := by decide +kernel
theorem dX6_types_9 : decode cX6_types 9 = .ok (.return_, 1) := by decide +kernel
theorem dX6_types_10 : decode cX6_types 10 = .ok (.aload_n 0, 1) := by decide +kernel
theorem dX6_types_11 : decode cX6_types 11 = .ok (.dup, 1) := by decide +kernel
theorem dX6_types_12 : decode cX6_types 12 = .ok (.getfield 77, 3) := by decide +kernel
theorem dX6_types_15 : decode cX6_types 15 = .ok (.iconst 1, 1) := by decide +kernel
theorem dX6_types_16 : decode cX6_types 16 = .ok (.iadd, 1) := by decide +kernel
theorem dX6_types_17 : decode cX6_types 17 = .ok (.putfield 77, 3) := by decide +kernel
theorem dX6_types_20 : decode cX6_types 20 = .ok (.aload_n 0, 1) := by decide +kernel
theorem dX6_types_21 : decode cX6_types 21 = .ok (.bipush 53, 2) := by decide +kernel
theorem dX6_types_23 : decode cX6_types 23 = .ok (.iload_n 1, 1) := by decide +kernel
theorem dX6_types_24 : decode cX6_types 24 = .ok (.iconst 0, 1) := by decide +kernel
theorem dX6_types_25 : decode cX6_types 25 = .ok (.invokevirtual 106, 3) := by decide +kernel
theorem dX6_types_28 : decode cX6_types 28 = .ok (.aload_n 0, 1) := by decide +kernel
theorem dX6_types_29 : decode cX6_types 29 = .ok (.bipush 18, 2) := by decide +kernel
theorem dX6_types_31 : decode cX6_types 31 = .ok (.iload_n 1, 1) := by decide +kernel
theorem dX6_types_32 : decode cX6_types 32 = .ok (.iconst 0, 1) := by decide +kernel
theorem dX6_types_33 : decode cX6_types 33 = .ok (.invokevirtual 106, 3) := by decide +kernel
theorem dX6_types_36 : decode cX6_types 36 = .ok (.return_, 1) := by decide +kernel
theorem dX6_clause_0 : decode cX6_clause 0 = .ok (.aload_n 0, 1) := by decide +kernel
theorem dX6_clause_1 : decode cX6_clause 1 = .ok (.invokevirtual 83, 3) := by decide +kernel
theorem dX6_clause_4 : decode cX6_clause 4 = .ok (.bipush 87, 2) := by decide +kernel
theorem dX6_clause_6 : decode cX6_clause 6 = .ok (.if_icmp .eq 8, 3) := by decide +kernel
theorem dX6_clause_9 : decode cX6_clause 9 = .ok (.aload_n 0, 1) := by decide +kernel
theorem dX6_clause_10 : decode cX6_clause 10 = .ok (.invokevirtual 87, 3) := by decide +kernel
theorem dX6_clause_13 : decode cX6_clause 13 = .ok (.return_, 1) := by decide +kernel
theorem dX6_clause_14 : decode cX6_clause 14 = .ok (.aload_n 0, 1) := by decide +kernel
theorem dX6_clause_15 : decode cX6_clause 15 = .ok (.iload_n 1, 1) := by decide +kernel
theorem dX6_clause_16 : decode cX6_clause 16 = .ok (.bipush 40, 2) := by decide +kernel
theorem dX6_clause_18 : decode cX6_clause 18 = .ok (.aload_n 0, 1) := by decide +kernel
theorem dX6_clause_19 : decode cX6_clause 19 = .ok (.getfield 77, 3) := by decide +kernel
theorem dX6_clause_22 : decode cX6_clause 22 = .ok (.invokevirtual 99, 3) := by decide +kernel
theorem dX6_clause_25 : decode cX6_clause 25 = .ok (.istore_n 2, 1) := by decide +kernel
theorem dX6_clause_26 : decode cX6_clause 26 = .ok (.aload_n 0, 1) := by decide +kernel
theorem dX6_clause_27 : decode cX6_clause 27 = .ok (.dup, 1) := by decide +kernel
theorem dX6_clause_28 : decode cX6_clause 28 = .ok (.getfield 77, 3) := by decide +kernel
theorem dX6_clause_31 : decode cX6_clause 31 = .ok (.iconst 1, 1) := by decide +kernel
theorem dX6_clause_32 : decode cX6_clause 32 = .ok (.iadd, 1) := by decide +kernel
theorem dX6_clause_33 : decode cX6_clause 33 = .ok (.putfield 77, 3) := by decide +kernel
theorem dX6_clause_36 : decode cX6_clause 36 = .ok (.aload_n 0, 1) := by decide +kernel
theorem dX6_clause_37 : decode cX6_clause 37 = .ok (.bipush 39, 2) := by decide +kernel
theorem dX6_clause_39 : decode cX6_clause 39 = .ok (.iload_n 2, 1) := by decide +kernel
theorem dX6_clause_40 : decode cX6_clause 40 = .ok (.iconst 0, 1) := by decide +kernel
theorem dX6_clause_41 : decode cX6_clause 41 = .ok (.invokevirtual 106, 3) := by decide +kernel
theorem dX6_clause_44 : decode cX6_clause 44 = .ok (.return_, 1) := by decide +kernel
theorem dX6_functionTail_0 : decode cX6_functionTail 0 = .ok (.aload_n 0, 1) := by decide +kernel
theorem dX6_functionTail_1 : decode cX6_functionTail 1 = .ok (.invokevirtual 83, 3) := by decide +kernel
theorem dX6_functionTail_4 : decode cX6_functionTail 4 = .ok (.bipush 82, 2) := by decide +kernel
theorem dX6_functionTail_6 : decode cX6_functionTail 6 = .ok (.if_icmp .eq 14, 3) := by decide +kernel
theorem dX6_functionTail_9 : decode cX6_functionTail 9 = .ok (.aload_n 0, 1) := by decide +kernel
theorem dX6_functionTail_10 : decode cX6_functionTail 10 = .ok (.dup, 1) := by decide +kernel
theorem dX6_functionTail_11 : decode cX6_functionTail 11 = .ok (.getfield 90, 3) := by decide +kernel
theorem dX6_functionTail_14 : decode cX6_functionTail 14 = .ok (.iconst 1, 1) := by decide +kernel
theorem dX6_functionTail_15 : decode cX6_functionTail 15 = .ok (.isub, 1) := by decide +kernel
theorem dX6_functionTail_16 : decode cX6_functionTail 16 = .ok (.putfield 90, 3) := by decide +kernel
theorem dX6_functionTail_19 : decode cX6_functionTail 19 = .ok (.return_, 1) := by decide +kernel
theorem dX6_functionTail_20 : decode cX6_functionTail 20 = .ok (.aload_n 0, 1) := by decide +kernel
theorem dX6_functionTail_21 : decode cX6_functionTail 21 = .ok (.getfield 14, 3) := by decide +kernel
theorem dX6_functionTail_24 : decode cX6_functionTail 24 = .ok (.iload_n 1, 1) := by decide +kernel
theorem dX6_functionTail_25 : decode cX6_functionTail 25 = .ok (.bipush 90, 2) := by decide +kernel
theorem dX6_functionTail_27 : decode cX6_functionTail 27 = .ok (.iastore, 1) := by decide +kernel
theorem dX6_functionTail_28 : decode cX6_functionTail 28 = .ok (.aload_n 0, 1) := by decide +kernel
theorem dX6_functionTail_29 : decode cX6_functionTail 29 = .ok (.bipush 6, 2) := by decide +kernel
theorem dX6_functionTail_31 : decode cX6_functionTail 31 = .ok (.iload_n 1, 1) := by decide +kernel
theorem dX6_functionTail_32 : decode cX6_functionTail 32 = .ok (.iconst 0, 1) := by decide +kernel
theorem dX6_functionTail_33 : decode cX6_functionTail 33 = .ok (.invokevirtual 106, 3) := by decide +kernel
theorem dX6_functionTail_36 : decode cX6_functionTail 36 = .ok (.aload_n 0, 1) := by decide +kernel
theorem dX6_functionTail_37 : decode cX6_functionTail 37 = .ok (.iload_n 1, 1) := by decide +kernel
theorem dX6_functionTail_38 : decode cX6_functionTail 38 = .ok (.invokevirtual 180, 3) := by decide +kernel
theorem dX6_functionTail_41 : decode cX6_functionTail 41 = .ok (.return_, 1) := by decide +kernel
theorem dX6_keyed_0 : decode cX6_keyed 0 = .ok (.aload_n 0, 1) := by decide +kernel
theorem dX6_keyed_1 : decode cX6_keyed 1 = .ok (.invokevirtual 83, 3) := by decide +kernel
theorem dX6_keyed_4 : decode cX6_keyed 4 = .ok (.bipush 87, 2) := by decide +kernel
theorem dX6_keyed_6 : decode cX6_keyed 6 = .ok (.if_icmp .eq 4, 3) := by decide +kernel
theorem dX6_keyed_9 : decode cX6_keyed 9 = .ok (.return_, 1) := by decide +kernel
theorem dX6_keyed_10 : decode cX6_keyed 10 = .ok (.aload_n 0, 1) := by decide +kernel
theorem dX6_keyed_11 : decode cX6_keyed 11 = .ok (.dup, 1) := by decide +kernel
theorem dX6_keyed_12 : decode cX6_keyed 12 = .ok (.getfield 77, 3) := by decide +kernel
theorem dX6_keyed_15 : decode cX6_keyed 15 = .ok (.iconst 1, 1) := by decide +kernel
theorem dX6_keyed_16 : decode cX6_keyed 16 = .ok (.iadd, 1) := by decide +kernel
theorem dX6_keyed_17 : decode cX6_keyed 17 = .ok (.putfield 77, 3) := by decide +kernel
theorem dX6_keyed_20 : decode cX6_keyed 20 = .ok (.aload_n 0, 1) := by decide +kernel
theorem dX6_keyed_21 : decode cX6_keyed 21 = .ok (.bipush 17, 2) := by decide +kernel
theorem dX6_keyed_23 : decode cX6_keyed 23 = .ok (.iload_n 1, 1) := by decide +kernel
theorem dX6_keyed_24 : decode cX6_keyed 24 = .ok (.iconst 0, 1) := by decide +kernel
theorem dX6_keyed_25 : decode cX6_keyed 25 = .ok (.invokevirtual 106, 3) := by decide +kernel
theorem dX6_keyed_28 : decode cX6_keyed 28 = .ok (.return_, 1) := by decide +kernel
theorem dX6_step_0 : decode cX6_step 0 = .ok (.iload_n 1, 1) := by decide +kernel
theorem dX6_step_1 : decode cX6_step 1 = .ok (.iconst 4, 1) := by decide +kernel
theorem dX6_step_2 : decode cX6_step 2 = .ok (.if_icmp .gt 40, 3) := by decide +kernel
theorem dX6_step_5 : decode cX6_step 5 = .ok (.iload_n 1, 1) := by decide +kernel
theorem dX6_step_6 : decode cX6_step 6 = .ok (.iconst 2, 1) := by decide +kernel
theorem dX6_step_7 : decode cX6_step 7 = .ok (.if_icmp .ne 12, 3) := by decide +kernel
theorem dX6_step_10 : decode cX6_step 10 = .ok (.aload_n 0, 1) := by decide +kernel
theorem dX6_step_11 : decode cX6_step 11 = .ok (.iload_n 2, 1) := by decide +kernel
theorem dX6_step_12 : decode cX6_step 12 = .ok (.iload_n 3, 1) := by decide +kernel
theorem dX6_step_13 : decode cX6_step 13 = .ok (.invokevirtual 220, 3) := by decide +kernel
theorem dX6_step_16 : decode cX6_step 16 = .ok (.goto 81, 3) := by decide +kernel
theorem dX6_step_19 : decode cX6_step 19 = .ok (.iload_n 1, 1) := by decide +kernel
theorem dX6_step_20 : decode cX6_step 20 = .ok (.iconst 3, 1) := by decide +kernel
theorem dX6_step_21 : decode cX6_step 21 = .ok (.if_icmp .ne 12, 3) := by decide +kernel
theorem dX6_step_24 : decode cX6_step 24 = .ok (.aload_n 0, 1) := by decide +kernel
theorem dX6_step_25 : decode cX6_step 25 = .ok (.iload_n 2, 1) := by decide +kernel
theorem dX6_step_26 : decode cX6_step 26 = .ok (.iload_n 3, 1) := by decide +kernel
theorem dX6_step_27 : decode cX6_step 27 = .ok (.invokevirtual 223, 3) := by decide +kernel
theorem dX6_step_30 : decode cX6_step 30 = .ok (.goto 67, 3) := by decide +kernel
theorem dX6_step_33 : decode cX6_step 33 = .ok (.aload_n 0, 1) := by decide +kernel
theorem dX6_step_34 : decode cX6_step 34 = .ok (.iload_n 2, 1) := by decide +kernel
theorem dX6_step_35 : decode cX6_step 35 = .ok (.iload_n 3, 1) := by decide +kernel
theorem dX6_step_36 : decode cX6_step 36 = .ok (.invokevirtual 226, 3) := by decide +kernel
theorem dX6_step_39 : decode cX6_step 39 = .ok (.goto 58, 3) := by decide +kernel
theorem dX6_step_42 : decode cX6_step 42 = .ok (.iload_n 1, 1) := by decide +kernel
theorem dX6_step_43 : decode cX6_step 43 = .ok (.bipush 18, 2) := by decide +kernel
theorem dX6_step_45 : decode cX6_step 45 = .ok (.if_icmp .ge 13, 3) := by decide +kernel
theorem dX6_step_48 : decode cX6_step 48 = .ok (.aload_n 0, 1) := by decide +kernel
theorem dX6_step_49 : decode cX6_step 49 = .ok (.iload_n 1, 1) := by decide +kernel
theorem dX6_step_50 : decode cX6_step 50 = .ok (.iload_n 2, 1) := by decide +kernel
theorem dX6_step_51 : decode cX6_step 51 = .ok (.iload_n 3, 1) := by decide +kernel
theorem dX6_step_52 : decode cX6_step 52 = .ok (.invokevirtual 229, 3) := by decide +kernel
theorem dX6_step_55 : decode cX6_step 55 = .ok (.goto 42, 3) := by decide +kernel
theorem dX6_step_58 : decode cX6_step 58 = .ok (.iload_n 1, 1) := by decide +kernel
theorem dX6_step_59 : decode cX6_step 59 = .ok (.bipush 29, 2) := by decide +kernel
theorem dX6_step_61 : decode cX6_step 61 = .ok (.if_icmp .ge 13, 3) := by decide +kernel
theorem dX6_step_64 : decode cX6_step 64 = .ok (.aload_n 0, 1) := by decide +kernel
theorem dX6_step_65 : decode cX6_step 65 = .ok (.iload_n 1, 1) := by decide +kernel
theorem dX6_step_66 : decode cX6_step 66 = .ok (.iload_n 2, 1) := by decide +kernel
theorem dX6_step_67 : decode cX6_step 67 = .ok (.iload_n 3, 1) := by decide +kernel
theorem dX6_step_68 : decode cX6_step 68 = .ok (.invokevirtual 232, 3) := by decide +kernel
theorem dX6_step_71 : decode cX6_step 71 = .ok (.goto 26, 3) := by decide +kernel
theorem dX6_step_74 : decode cX6_step 74 = .ok (.iload_n 1, 1) := by decide +kernel
theorem dX6_step_75 : decode cX6_step 75 = .ok (.bipush 41, 2) := by decide +kernel
theorem dX6_step_77 : decode cX6_step 77 = .ok (.if_icmp .ge 13, 3) := by decide +kernel
theorem dX6_step_80 : decode cX6_step 80 = .ok (.aload_n 0, 1) := by decide +kernel
theorem dX6_step_81 : decode cX6_step 81 = .ok (.iload_n 1, 1) := by decide +kernel
theorem dX6_step_82 : decode cX6_step 82 = .ok (.iload_n 2, 1) := by decide +kernel
theorem dX6_step_83 : decode cX6_step 83 = .ok (.iload_n 3, 1) := by decide +kernel
theorem dX6_step_84 : decode cX6_step 84 = .ok (.invokevirtual 235, 3) := by decide +kernel
theorem dX6_step_87 : decode cX6_step 87 = .ok (.goto 10, 3) := by decide +kernel
theorem dX6_step_90 : decode cX6_step 90 = .ok (.aload_n 0, 1) := by decide +kernel
theorem dX6_step_91 : decode cX6_step 91 = .ok (.iload_n 1, 1) := by decide +kernel
theorem dX6_step_92 : decode cX6_step 92 = .ok (.iload_n 2, 1) := by decide +kernel
theorem dX6_step_93 : decode cX6_step 93 = .ok (.iload_n 3, 1) := by decide +kernel
theorem dX6_step_94 : decode cX6_step 94 = .ok (.invokevirtual 238, 3) := by decide +kernel
theorem dX6_step_97 : decode cX6_step 97 = .ok (.return_, 1) := by decide +kernel
theorem dX6_value__0 : decode cX6_value_ 0 = .ok (.iload_n 1, 1) := by decide +kernel
theorem dX6_value__1 : decode cX6_value_ 1 = .ok (.tableswitch 175 5 16 #[63, 72, 85, 93, 111, 119, 127, 135, 143, 151, 159, 167], 63) := by decide +kernel
theorem dX6_value__64 : decode cX6_value_ 64 = .ok (.aload_n 0, 1) := by decide +kernel
theorem dX6_value__65 : decode cX6_value_ 65 = .ok (.iload_n 2, 1) := by decide +kernel
theorem dX6_value__66 : decode cX6_value_ 66 = .ok (.iload_n 3, 1) := by decide +kernel
theorem dX6_value__67 : decode cX6_value_ 67 = .ok (.invokevirtual 241, 3) := by decide +kernel
theorem dX6_value__70 : decode cX6_value_ 70 = .ok (.goto 111, 3) := by decide +kernel
theorem dX6_value__73 : decode cX6_value_ 73 = .ok (.aload_n 0, 1) := by decide +kernel
theorem dX6_value__74 : decode cX6_value_ 74 = .ok (.dup, 1) := by decide +kernel
theorem dX6_value__75 : decode cX6_value_ 75 = .ok (.getfield 90, 3) := by decide +kernel
theorem dX6_value__78 : decode cX6_value_ 78 = .ok (.iconst 1, 1) := by decide +kernel
theorem dX6_value__79 : decode cX6_value_ 79 = .ok (.isub, 1) := by decide +kernel
theorem dX6_value__80 : decode cX6_value_ 80 = .ok (.putfield 90, 3) := by decide +kernel
theorem dX6_value__83 : decode cX6_value_ 83 = .ok (.goto 98, 3) := by decide +kernel
theorem dX6_value__86 : decode cX6_value_ 86 = .ok (.aload_n 0, 1) := by decide +kernel
theorem dX6_value__87 : decode cX6_value_ 87 = .ok (.iload_n 2, 1) := by decide +kernel
theorem dX6_value__88 : decode cX6_value_ 88 = .ok (.invokevirtual 141, 3) := by decide +kernel
theorem dX6_value__91 : decode cX6_value_ 91 = .ok (.goto 90, 3) := by decide +kernel
theorem dX6_value__94 : decode cX6_value_ 94 = .ok (.aload_n 0, 1) := by decide +kernel
theorem dX6_value__95 : decode cX6_value_ 95 = .ok (.iload_n 2, 1) := by decide +kernel
theorem dX6_value__96 : decode cX6_value_ 96 = .ok (.invokevirtual 141, 3) := by decide +kernel
theorem dX6_value__99 : decode cX6_value_ 99 = .ok (.aload_n 0, 1) := by decide +kernel
theorem dX6_value__100 : decode cX6_value_ 100 = .ok (.dup, 1) := by decide +kernel
theorem dX6_value__101 : decode cX6_value_ 101 = .ok (.getfield 90, 3) := by decide +kernel
theorem dX6_value__104 : decode cX6_value_ 104 = .ok (.iconst 1, 1) := by decide +kernel
theorem dX6_value__105 : decode cX6_value_ 105 = .ok (.isub, 1) := by decide +kernel
theorem dX6_value__106 : decode cX6_value_ 106 = .ok (.putfield 90, 3) := by decide +kernel
theorem dX6_value__109 : decode cX6_value_ 109 = .ok (.goto 72, 3) := by decide +kernel
theorem dX6_value__112 : decode cX6_value_ 112 = .ok (.aload_n 0, 1) := by decide +kernel
theorem dX6_value__113 : decode cX6_value_ 113 = .ok (.iload_n 2, 1) := by decide +kernel
theorem dX6_value__114 : decode cX6_value_ 114 = .ok (.invokevirtual 244, 3) := by decide +kernel
theorem dX6_value__117 : decode cX6_value_ 117 = .ok (.goto 64, 3) := by decide +kernel
theorem dX6_value__120 : decode cX6_value_ 120 = .ok (.aload_n 0, 1) := by decide +kernel
theorem dX6_value__121 : decode cX6_value_ 121 = .ok (.iload_n 2, 1) := by decide +kernel
theorem dX6_value__122 : decode cX6_value_ 122 = .ok (.invokevirtual 247, 3) := by decide +kernel
theorem dX6_value__125 : decode cX6_value_ 125 = .ok (.goto 56, 3) := by decide +kernel
theorem dX6_value__128 : decode cX6_value_ 128 = .ok (.aload_n 0, 1) := by decide +kernel
theorem dX6_value__129 : decode cX6_value_ 129 = .ok (.iload_n 2, 1) := by decide +kernel
theorem dX6_value__130 : decode cX6_value_ 130 = .ok (.invokevirtual 250, 3) := by decide +kernel
theorem dX6_value__133 : decode cX6_value_ 133 = .ok (.goto 48, 3) := by decide +kernel
theorem dX6_value__136 : decode cX6_value_ 136 = .ok (.aload_n 0, 1) := by decide +kernel
theorem dX6_value__137 : decode cX6_value_ 137 = .ok (.iload_n 2, 1) := by decide +kernel
theorem dX6_value__138 : decode cX6_value_ 138 = .ok (.invokevirtual 253, 3) := by decide +kernel
theorem dX6_value__141 : decode cX6_value_ 141 = .ok (.goto 40, 3) := by decide +kernel
theorem dX6_value__144 : decode cX6_value_ 144 = .ok (.aload_n 0, 1) := by decide +kernel
theorem dX6_value__145 : decode cX6_value_ 145 = .ok (.iload_n 2, 1) := by decide +kernel
theorem dX6_value__146 : decode cX6_value_ 146 = .ok (.invokevirtual 256, 3) := by decide +kernel
theorem dX6_value__149 : decode cX6_value_ 149 = .ok (.goto 32, 3) := by decide +kernel
theorem dX6_value__152 : decode cX6_value_ 152 = .ok (.aload_n 0, 1) := by decide +kernel
theorem dX6_value__153 : decode cX6_value_ 153 = .ok (.iload_n 2, 1) := by decide +kernel
theorem dX6_value__154 : decode cX6_value_ 154 = .ok (.invokevirtual 137, 3) := by decide +kernel
theorem dX6_value__157 : decode cX6_value_ 157 = .ok (.goto 24, 3) := by decide +kernel
theorem dX6_value__160 : decode cX6_value_ 160 = .ok (.aload_n 0, 1) := by decide +kernel
theorem dX6_value__161 : decode cX6_value_ 161 = .ok (.iload_n 2, 1) := by decide +kernel
theorem dX6_value__162 : decode cX6_value_ 162 = .ok (.invokevirtual 259, 3) := by decide +kernel
theorem dX6_value__165 : decode cX6_value_ 165 = .ok (.goto 16, 3) := by decide +kernel
theorem dX6_value__168 : decode cX6_value_ 168 = .ok (.aload_n 0, 1) := by decide +kernel
theorem dX6_value__169 : decode cX6_value_ 169 = .ok (.iload_n 2, 1) := by decide +kernel
theorem dX6_value__170 : decode cX6_value_ 170 = .ok (.invokevirtual 262, 3) := by decide +kernel
theorem dX6_value__173 : decode cX6_value_ 173 = .ok (.goto 8, 3) := by decide +kernel
theorem dX6_value__176 : decode cX6_value_ 176 = .ok (.aload_n 0, 1) := by decide +kernel
theorem dX6_value__177 : decode cX6_value_ 177 = .ok (.iload_n 2, 1) := by decide +kernel
theorem dX6_value__178 : decode cX6_value_ 178 = .ok (.invokevirtual 265, 3) := by decide +kernel
theorem dX6_value__181 : decode cX6_value_ 181 = .ok (.return_, 1) := by decide +kernel
theorem dX6_typing_0 : decode cX6_typing 0 = .ok (.iload_n 1, 1) := by decide +kernel
theorem dX6_typing_1 : decode cX6_typing 1 = .ok (.tableswitch 129 18 27 #[55, 129, 64, 72, 80, 88, 96, 104, 112, 120], 55) := by decide +kernel
theorem dX6_typing_56 : decode cX6_typing 56 = .ok (.aload_n 0, 1) := by decide +kernel
theorem dX6_typing_57 : decode cX6_typing 57 = .ok (.iload_n 2, 1) := by decide +kernel
theorem dX6_typing_58 : decode cX6_typing 58 = .ok (.iload_n 3, 1) := by decide +kernel
theorem dX6_typing_59 : decode cX6_typing 59 = .ok (.invokevirtual 267, 3) := by decide +kernel
theorem dX6_typing_62 : decode cX6_typing 62 = .ok (.goto 73, 3) := by decide +kernel
theorem dX6_typing_65 : decode cX6_typing 65 = .ok (.aload_n 0, 1) := by decide +kernel
theorem dX6_typing_66 : decode cX6_typing 66 = .ok (.iload_n 2, 1) := by decide +kernel
theorem dX6_typing_67 : decode cX6_typing 67 = .ok (.invokevirtual 270, 3) := by decide +kernel
theorem dX6_typing_70 : decode cX6_typing 70 = .ok (.goto 65, 3) := by decide +kernel
theorem dX6_typing_73 : decode cX6_typing 73 = .ok (.aload_n 0, 1) := by decide +kernel
theorem dX6_typing_74 : decode cX6_typing 74 = .ok (.iload_n 2, 1) := by decide +kernel
theorem dX6_typing_75 : decode cX6_typing 75 = .ok (.invokevirtual 273, 3) := by decide +kernel
theorem dX6_typing_78 : decode cX6_typing 78 = .ok (.goto 57, 3) := by decide +kernel
theorem dX6_typing_81 : decode cX6_typing 81 = .ok (.aload_n 0, 1) := by decide +kernel
theorem dX6_typing_82 : decode cX6_typing 82 = .ok (.iload_n 2, 1) := by decide +kernel
theorem dX6_typing_83 : decode cX6_typing 83 = .ok (.invokevirtual 276, 3) := by decide +kernel
theorem dX6_typing_86 : decode cX6_typing 86 = .ok (.goto 49, 3) := by decide +kernel
theorem dX6_typing_89 : decode cX6_typing 89 = .ok (.aload_n 0, 1) := by decide +kernel
theorem dX6_typing_90 : decode cX6_typing 90 = .ok (.iload_n 2, 1) := by decide +kernel
theorem dX6_typing_91 : decode cX6_typing 91 = .ok (.invokevirtual 279, 3) := by decide +kernel
theorem dX6_typing_94 : decode cX6_typing 94 = .ok (.goto 41, 3) := by decide +kernel
theorem dX6_typing_97 : decode cX6_typing 97 = .ok (.aload_n 0, 1) := by decide +kernel
theorem dX6_typing_98 : decode cX6_typing 98 = .ok (.iload_n 2, 1) := by decide +kernel
theorem dX6_typing_99 : decode cX6_typing 99 = .ok (.invokevirtual 282, 3) := by decide +kernel
theorem dX6_typing_102 : decode cX6_typing 102 = .ok (.goto 33, 3) := by decide +kernel
theorem dX6_typing_105 : decode cX6_typing 105 = .ok (.aload_n 0, 1) := by decide +kernel
theorem dX6_typing_106 : decode cX6_typing 106 = .ok (.iload_n 2, 1) := by decide +kernel
theorem dX6_typing_107 : decode cX6_typing 107 = .ok (.invokevirtual 285, 3) := by decide +kernel
theorem dX6_typing_110 : decode cX6_typing 110 = .ok (.goto 25, 3) := by decide +kernel
theorem dX6_typing_113 : decode cX6_typing 113 = .ok (.aload_n 0, 1) := by decide +kernel
theorem dX6_typing_114 : decode cX6_typing 114 = .ok (.iload_n 2, 1) := by decide +kernel
theorem dX6_typing_115 : decode cX6_typing 115 = .ok (.invokevirtual 288, 3) := by decide +kernel
theorem dX6_typing_118 : decode cX6_typing 118 = .ok (.goto 17, 3) := by decide +kernel
theorem dX6_typing_121 : decode cX6_typing 121 = .ok (.aload_n 0, 1) := by decide +kernel
theorem dX6_typing_122 : decode cX6_typing 122 = .ok (.iload_n 2, 1) := by decide +kernel
theorem dX6_typing_123 : decode cX6_typing 123 = .ok (.iload_n 3, 1) := by decide +kernel
theorem dX6_typing_124 : decode cX6_typing 124 = .ok (.invokevirtual 291, 3) := by decide +kernel
theorem dX6_typing_127 : decode cX6_typing 127 = .ok (.goto 8, 3) := by decide +kernel
theorem dX6_typing_130 : decode cX6_typing 130 = .ok (.aload_n 0, 1) := by decide +kernel
theorem dX6_typing_131 : decode cX6_typing 131 = .ok (.iload_n 2, 1) := by decide +kernel
theorem dX6_typing_132 : decode cX6_typing 132 = .ok (.invokevirtual 294, 3) := by decide +kernel
theorem dX6_typing_135 : decode cX6_typing 135 = .ok (.return_, 1) := by decide +kernel
theorem dX6_declaring_0 : decode cX6_declaring 0 = .ok (.iload_n 1, 1) := by decide +kernel
theorem dX6_declaring_1 : decode cX6_declaring 1 = .ok (.tableswitch 143 29 39 #[59, 67, 143, 75, 84, 93, 102, 111, 119, 127, 135], 59) := by decide +kernel
theorem dX6_declaring_60 : decode cX6_declaring 60 = .ok (.aload_n 0, 1) := by decide +kernel
theorem dX6_declaring_61 : decode cX6_declaring 61 = .ok (.iload_n 2, 1) := by decide +kernel
theorem dX6_declaring_62 : decode cX6_declaring 62 = .ok (.invokevirtual 297, 3) := by decide +kernel
theorem dX6_declaring_65 : decode cX6_declaring 65 = .ok (.goto 84, 3) := by decide +kernel
theorem dX6_declaring_68 : decode cX6_declaring 68 = .ok (.aload_n 0, 1) := by decide +kernel
theorem dX6_declaring_69 : decode cX6_declaring 69 = .ok (.iload_n 2, 1) := by decide +kernel
theorem dX6_declaring_70 : decode cX6_declaring 70 = .ok (.invokevirtual 300, 3) := by decide +kernel
theorem dX6_declaring_73 : decode cX6_declaring 73 = .ok (.goto 76, 3) := by decide +kernel
theorem dX6_declaring_76 : decode cX6_declaring 76 = .ok (.aload_n 0, 1) := by decide +kernel
theorem dX6_declaring_77 : decode cX6_declaring 77 = .ok (.iload_n 2, 1) := by decide +kernel
theorem dX6_declaring_78 : decode cX6_declaring 78 = .ok (.iload_n 3, 1) := by decide +kernel
theorem dX6_declaring_79 : decode cX6_declaring 79 = .ok (.invokevirtual 303, 3) := by decide +kernel
theorem dX6_declaring_82 : decode cX6_declaring 82 = .ok (.goto 67, 3) := by decide +kernel
theorem dX6_declaring_85 : decode cX6_declaring 85 = .ok (.aload_n 0, 1) := by decide +kernel
theorem dX6_declaring_86 : decode cX6_declaring 86 = .ok (.iload_n 2, 1) := by decide +kernel
theorem dX6_declaring_87 : decode cX6_declaring 87 = .ok (.iload_n 3, 1) := by decide +kernel
theorem dX6_declaring_88 : decode cX6_declaring 88 = .ok (.invokevirtual 306, 3) := by decide +kernel
theorem dX6_declaring_91 : decode cX6_declaring 91 = .ok (.goto 58, 3) := by decide +kernel
theorem dX6_declaring_94 : decode cX6_declaring 94 = .ok (.aload_n 0, 1) := by decide +kernel
theorem dX6_declaring_95 : decode cX6_declaring 95 = .ok (.iload_n 2, 1) := by decide +kernel
theorem dX6_declaring_96 : decode cX6_declaring 96 = .ok (.iload_n 3, 1) := by decide +kernel
theorem dX6_declaring_97 : decode cX6_declaring 97 = .ok (.invokevirtual 309, 3) := by decide +kernel
theorem dX6_declaring_100 : decode cX6_declaring 100 = .ok (.goto 49, 3) := by decide +kernel
theorem dX6_declaring_103 : decode cX6_declaring 103 = .ok (.aload_n 0, 1) := by decide +kernel
theorem dX6_declaring_104 : decode cX6_declaring 104 = .ok (.iload_n 2, 1) := by decide +kernel
theorem dX6_declaring_105 : decode cX6_declaring 105 = .ok (.iload_n 3, 1) := by decide +kernel
theorem dX6_declaring_106 : decode cX6_declaring 106 = .ok (.invokevirtual 312, 3) := by decide +kernel
theorem dX6_declaring_109 : decode cX6_declaring 109 = .ok (.goto 40, 3) := by decide +kernel
theorem dX6_declaring_112 : decode cX6_declaring 112 = .ok (.aload_n 0, 1) := by decide +kernel
theorem dX6_declaring_113 : decode cX6_declaring 113 = .ok (.iload_n 2, 1) := by decide +kernel
theorem dX6_declaring_114 : decode cX6_declaring 114 = .ok (.invokevirtual 315, 3) := by decide +kernel
theorem dX6_declaring_117 : decode cX6_declaring 117 = .ok (.goto 32, 3) := by decide +kernel
theorem dX6_declaring_120 : decode cX6_declaring 120 = .ok (.aload_n 0, 1) := by decide +kernel
theorem dX6_declaring_121 : decode cX6_declaring 121 = .ok (.iload_n 2, 1) := by decide +kernel
theorem dX6_declaring_122 : decode cX6_declaring 122 = .ok (.invokevirtual 318, 3) := by decide +kernel
theorem dX6_declaring_125 : decode cX6_declaring 125 = .ok (.goto 24, 3) := by decide +kernel
theorem dX6_declaring_128 : decode cX6_declaring 128 = .ok (.aload_n 0, 1) := by decide +kernel
theorem dX6_declaring_129 : decode cX6_declaring 129 = .ok (.iload_n 2, 1) := by decide +kernel
theorem dX6_declaring_130 : decode cX6_declaring 130 = .ok (.invokevirtual 180, 3) := by decide +kernel
theorem dX6_declaring_133 : decode cX6_declaring 133 = .ok (.goto 16, 3) := by decide +kernel
theorem dX6_declaring_136 : decode cX6_declaring 136 = .ok (.aload_n 0, 1) := by decide +kernel
theorem dX6_declaring_137 : decode cX6_declaring 137 = .ok (.iload_n 2, 1) := by decide +kernel
theorem dX6_declaring_138 : decode cX6_declaring 138 = .ok (.invokevirtual 321, 3) := by decide +kernel
theorem dX6_declaring_141 : decode cX6_declaring 141 = .ok (.goto 8, 3) := by decide +kernel
theorem dX6_declaring_144 : decode cX6_declaring 144 = .ok (.aload_n 0, 1) := by decide +kernel
theorem dX6_declaring_145 : decode cX6_declaring 145 = .ok (.iload_n 2, 1) := by decide +kernel
theorem dX6_declaring_146 : decode cX6_declaring 146 = .ok (.invokevirtual 324, 3) := by decide +kernel
theorem dX6_declaring_149 : decode cX6_declaring 149 = .ok (.return_, 1) := by decide +kernel
theorem dX6_stating_0 : decode cX6_stating 0 = .ok (.iload_n 1, 1) := by decide +kernel
theorem dX6_stating_1 : decode cX6_stating 1 = .ok (.tableswitch 248 41 57 #[83, 92, 101, 110, 118, 126, 248, 134, 143, 151, 180, 189, 197, 205, 213, 230, 239], 83) := by decide +kernel
theorem dX6_stating_84 : decode cX6_stating 84 = .ok (.aload_n 0, 1) := by decide +kernel
theorem dX6_stating_85 : decode cX6_stating 85 = .ok (.iload_n 2, 1) := by decide +kernel
theorem dX6_stating_86 : decode cX6_stating 86 = .ok (.iload_n 3, 1) := by decide +kernel
theorem dX6_stating_87 : decode cX6_stating 87 = .ok (.invokevirtual 327, 3) := by decide +kernel
theorem dX6_stating_90 : decode cX6_stating 90 = .ok (.goto 165, 3) := by decide +kernel
theorem dX6_stating_93 : decode cX6_stating 93 = .ok (.aload_n 0, 1) := by decide +kernel
theorem dX6_stating_94 : decode cX6_stating 94 = .ok (.iload_n 2, 1) := by decide +kernel
theorem dX6_stating_95 : decode cX6_stating 95 = .ok (.iload_n 3, 1) := by decide +kernel
theorem dX6_stating_96 : decode cX6_stating 96 = .ok (.invokevirtual 330, 3) := by decide +kernel
theorem dX6_stating_99 : decode cX6_stating 99 = .ok (.goto 156, 3) := by decide +kernel
theorem dX6_stating_102 : decode cX6_stating 102 = .ok (.aload_n 0, 1) := by decide +kernel
theorem dX6_stating_103 : decode cX6_stating 103 = .ok (.iload_n 2, 1) := by decide +kernel
theorem dX6_stating_104 : decode cX6_stating 104 = .ok (.iload_n 3, 1) := by decide +kernel
theorem dX6_stating_105 : decode cX6_stating 105 = .ok (.invokevirtual 333, 3) := by decide +kernel
theorem dX6_stating_108 : decode cX6_stating 108 = .ok (.goto 147, 3) := by decide +kernel
theorem dX6_stating_111 : decode cX6_stating 111 = .ok (.aload_n 0, 1) := by decide +kernel
theorem dX6_stating_112 : decode cX6_stating 112 = .ok (.iload_n 2, 1) := by decide +kernel
theorem dX6_stating_113 : decode cX6_stating 113 = .ok (.invokevirtual 336, 3) := by decide +kernel
theorem dX6_stating_116 : decode cX6_stating 116 = .ok (.goto 139, 3) := by decide +kernel
theorem dX6_stating_119 : decode cX6_stating 119 = .ok (.aload_n 0, 1) := by decide +kernel
theorem dX6_stating_120 : decode cX6_stating 120 = .ok (.iload_n 2, 1) := by decide +kernel
theorem dX6_stating_121 : decode cX6_stating 121 = .ok (.invokevirtual 339, 3) := by decide +kernel
theorem dX6_stating_124 : decode cX6_stating 124 = .ok (.goto 131, 3) := by decide +kernel
theorem dX6_stating_127 : decode cX6_stating 127 = .ok (.aload_n 0, 1) := by decide +kernel
theorem dX6_stating_128 : decode cX6_stating 128 = .ok (.iload_n 2, 1) := by decide +kernel
theorem dX6_stating_129 : decode cX6_stating 129 = .ok (.invokevirtual 342, 3) := by decide +kernel
theorem dX6_stating_132 : decode cX6_stating 132 = .ok (.goto 123, 3) := by decide +kernel
theorem dX6_stating_135 : decode cX6_stating 135 = .ok (.aload_n 0, 1) := by decide +kernel
theorem dX6_stating_136 : decode cX6_stating 136 = .ok (.iload_n 2, 1) := by decide +kernel
theorem dX6_stating_137 : decode cX6_stating 137 = .ok (.iload_n 3, 1) := by decide +kernel
theorem dX6_stating_138 : decode cX6_stating 138 = .ok (.invokevirtual 345, 3) := by decide +kernel
theorem dX6_stating_141 : decode cX6_stating 141 = .ok (.goto 114, 3) := by decide +kernel
theorem dX6_stating_144 : decode cX6_stating 144 = .ok (.aload_n 0, 1) := by decide +kernel
theorem dX6_stating_145 : decode cX6_stating 145 = .ok (.iload_n 2, 1) := by decide +kernel
theorem dX6_stating_146 : decode cX6_stating 146 = .ok (.invokevirtual 348, 3) := by decide +kernel
theorem dX6_stating_149 : decode cX6_stating 149 = .ok (.goto 106, 3) := by decide +kernel
theorem dX6_stating_152 : decode cX6_stating 152 = .ok (.aload_n 0, 1) := by decide +kernel
theorem dX6_stating_153 : decode cX6_stating 153 = .ok (.iload_n 2, 1) := by decide +kernel
theorem dX6_stating_154 : decode cX6_stating 154 = .ok (.aload_n 0, 1) := by decide +kernel
theorem dX6_stating_155 : decode cX6_stating 155 = .ok (.getfield 14, 3) := by decide +kernel
theorem dX6_stating_158 : decode cX6_stating 158 = .ok (.aload_n 0, 1) := by decide +kernel
theorem dX6_stating_159 : decode cX6_stating 159 = .ok (.getfield 27, 3) := by decide +kernel
theorem dX6_stating_162 : decode cX6_stating 162 = .ok (.iload_n 2, 1) := by decide +kernel
theorem dX6_stating_163 : decode cX6_stating 163 = .ok (.iaload, 1) := by decide +kernel
theorem dX6_stating_164 : decode cX6_stating 164 = .ok (.iaload, 1) := by decide +kernel
theorem dX6_stating_165 : decode cX6_stating 165 = .ok (.bipush 69, 2) := by decide +kernel
theorem dX6_stating_167 : decode cX6_stating 167 = .ok (.if_icmp .ne 7, 3) := by decide +kernel
theorem dX6_stating_170 : decode cX6_stating 170 = .ok (.iconst 1, 1) := by decide +kernel
theorem dX6_stating_171 : decode cX6_stating 171 = .ok (.goto 4, 3) := by decide +kernel
theorem dX6_stating_174 : decode cX6_stating 174 = .ok (.iconst 0, 1) := by decide +kernel
theorem dX6_stating_175 : decode cX6_stating 175 = .ok (.invokevirtual 192, 3) := by decide +kernel
theorem dX6_stating_178 : decode cX6_stating 178 = .ok (.goto 77, 3) := by decide +kernel
theorem dX6_stating_181 : decode cX6_stating 181 = .ok (.aload_n 0, 1) := by decide +kernel
theorem dX6_stating_182 : decode cX6_stating 182 = .ok (.iload_n 2, 1) := by decide +kernel
theorem dX6_stating_183 : decode cX6_stating 183 = .ok (.iload_n 3, 1) := by decide +kernel
theorem dX6_stating_184 : decode cX6_stating 184 = .ok (.invokevirtual 351, 3) := by decide +kernel
theorem dX6_stating_187 : decode cX6_stating 187 = .ok (.goto 68, 3) := by decide +kernel
theorem dX6_stating_190 : decode cX6_stating 190 = .ok (.aload_n 0, 1) := by decide +kernel
theorem dX6_stating_191 : decode cX6_stating 191 = .ok (.iload_n 2, 1) := by decide +kernel
theorem dX6_stating_192 : decode cX6_stating 192 = .ok (.invokevirtual 354, 3) := by decide +kernel
theorem dX6_stating_195 : decode cX6_stating 195 = .ok (.goto 60, 3) := by decide +kernel
theorem dX6_stating_198 : decode cX6_stating 198 = .ok (.aload_n 0, 1) := by decide +kernel
theorem dX6_stating_199 : decode cX6_stating 199 = .ok (.iload_n 2, 1) := by decide +kernel
theorem dX6_stating_200 : decode cX6_stating 200 = .ok (.invokevirtual 357, 3) := by decide +kernel
theorem dX6_stating_203 : decode cX6_stating 203 = .ok (.goto 52, 3) := by decide +kernel
theorem dX6_stating_206 : decode cX6_stating 206 = .ok (.aload_n 0, 1) := by decide +kernel
theorem dX6_stating_207 : decode cX6_stating 207 = .ok (.iload_n 2, 1) := by decide +kernel
theorem dX6_stating_208 : decode cX6_stating 208 = .ok (.invokevirtual 360, 3) := by decide +kernel
theorem dX6_stating_211 : decode cX6_stating 211 = .ok (.goto 44, 3) := by decide +kernel
theorem dX6_stating_214 : decode cX6_stating 214 = .ok (.aload_n 0, 1) := by decide +kernel
theorem dX6_stating_215 : decode cX6_stating 215 = .ok (.bipush 85, 2) := by decide +kernel
theorem dX6_stating_217 : decode cX6_stating 217 = .ok (.invokevirtual 141, 3) := by decide +kernel
theorem dX6_stating_220 : decode cX6_stating 220 = .ok (.aload_n 0, 1) := by decide +kernel
theorem dX6_stating_221 : decode cX6_stating 221 = .ok (.bipush 54, 2) := by decide +kernel
theorem dX6_stating_223 : decode cX6_stating 223 = .ok (.iload_n 2, 1) := by decide +kernel
theorem dX6_stating_224 : decode cX6_stating 224 = .ok (.iconst 0, 1) := by decide +kernel
theorem dX6_stating_225 : decode cX6_stating 225 = .ok (.invokevirtual 106, 3) := by decide +kernel
theorem dX6_stating_228 : decode cX6_stating 228 = .ok (.goto 27, 3) := by decide +kernel
theorem dX6_stating_231 : decode cX6_stating 231 = .ok (.aload_n 0, 1) := by decide +kernel
theorem dX6_stating_232 : decode cX6_stating 232 = .ok (.iload_n 2, 1) := by decide +kernel
theorem dX6_stating_233 : decode cX6_stating 233 = .ok (.iload_n 3, 1) := by decide +kernel
theorem dX6_stating_234 : decode cX6_stating 234 = .ok (.invokevirtual 363, 3) := by decide +kernel
theorem dX6_stating_237 : decode cX6_stating 237 = .ok (.goto 18, 3) := by decide +kernel
theorem dX6_stating_240 : decode cX6_stating 240 = .ok (.aload_n 0, 1) := by decide +kernel
theorem dX6_stating_241 : decode cX6_stating 241 = .ok (.iload_n 2, 1) := by decide +kernel
theorem dX6_stating_242 : decode cX6_stating 242 = .ok (.invokevirtual 130, 3) := by decide +kernel
theorem dX6_stating_245 : decode cX6_stating 245 = .ok (.pop, 1) := by decide +kernel
theorem dX6_stating_246 : decode cX6_stating 246 = .ok (.goto 9, 3) := by decide +kernel
theorem dX6_stating_249 : decode cX6_stating 249 = .ok (.aload_n 0, 1) := by decide +kernel
theorem dX6_stating_250 : decode cX6_stating 250 = .ok (.iload_n 2, 1) := by decide +kernel
theorem dX6_stating_251 : decode cX6_stating 251 = .ok (.iload_n 3, 1) := by decide +kernel
theorem dX6_stating_252 : decode cX6_stating 252 = .ok (.invokevirtual 162, 3) := by decide +kernel
theorem dX6_stating_255 : decode cX6_stating 255 = .ok (.return_, 1) := by decide +kernel
theorem dX6_build_0 : decode cX6_build 0 = .ok (.aload_n 0, 1) := by decide +kernel
theorem dX6_build_1 : decode cX6_build 1 = .ok (.iconst 0, 1) := by decide +kernel
theorem dX6_build_2 : decode cX6_build 2 = .ok (.putfield 64, 3) := by decide +kernel
theorem dX6_build_5 : decode cX6_build 5 = .ok (.aload_n 0, 1) := by decide +kernel
theorem dX6_build_6 : decode cX6_build 6 = .ok (.iconst 0, 1) := by decide +kernel
theorem dX6_build_7 : decode cX6_build 7 = .ok (.putfield 93, 3) := by decide +kernel
theorem dX6_build_10 : decode cX6_build 10 = .ok (.aload_n 0, 1) := by decide +kernel
theorem dX6_build_11 : decode cX6_build 11 = .ok (.iconst 0, 1) := by decide +kernel
theorem dX6_build_12 : decode cX6_build 12 = .ok (.putfield 366, 3) := by decide +kernel
theorem dX6_build_15 : decode cX6_build 15 = .ok (.aload_n 0, 1) := by decide +kernel
theorem dX6_build_16 : decode cX6_build 16 = .ok (.iconst 0, 1) := by decide +kernel
theorem dX6_build_17 : decode cX6_build 17 = .ok (.putfield 96, 3) := by decide +kernel
theorem dX6_build_20 : decode cX6_build 20 = .ok (.aload_n 0, 1) := by decide +kernel
theorem dX6_build_21 : decode cX6_build 21 = .ok (.iconst 0, 1) := by decide +kernel
theorem dX6_build_22 : decode cX6_build 22 = .ok (.putfield 77, 3) := by decide +kernel
theorem dX6_build_25 : decode cX6_build 25 = .ok (.aload_n 0, 1) := by decide +kernel
theorem dX6_build_26 : decode cX6_build 26 = .ok (.iconst 0, 1) := by decide +kernel
theorem dX6_build_27 : decode cX6_build 27 = .ok (.putfield 90, 3) := by decide +kernel
theorem dX6_build_30 : decode cX6_build 30 = .ok (.aload_n 0, 1) := by decide +kernel
theorem dX6_build_31 : decode cX6_build 31 = .ok (.iconst (-1), 1) := by decide +kernel
theorem dX6_build_32 : decode cX6_build 32 = .ok (.putfield 80, 3) := by decide +kernel
theorem dX6_build_35 : decode cX6_build 35 = .ok (.aload_n 0, 1) := by decide +kernel
theorem dX6_build_36 : decode cX6_build 36 = .ok (.iconst 0, 1) := by decide +kernel
theorem dX6_build_37 : decode cX6_build 37 = .ok (.putfield 156, 3) := by decide +kernel
theorem dX6_build_40 : decode cX6_build 40 = .ok (.aload_n 0, 1) := by decide +kernel
theorem dX6_build_41 : decode cX6_build 41 = .ok (.iconst (-1), 1) := by decide +kernel
theorem dX6_build_42 : decode cX6_build 42 = .ok (.iconst 1, 1) := by decide +kernel
theorem dX6_build_43 : decode cX6_build 43 = .ok (.iconst 0, 1) := by decide +kernel
theorem dX6_build_44 : decode cX6_build 44 = .ok (.invokevirtual 99, 3) := by decide +kernel
theorem dX6_build_47 : decode cX6_build 47 = .ok (.istore_n 1, 1) := by decide +kernel
theorem dX6_build_48 : decode cX6_build 48 = .ok (.aload_n 0, 1) := by decide +kernel
theorem dX6_build_49 : decode cX6_build 49 = .ok (.bipush 27, 2) := by decide +kernel
theorem dX6_build_51 : decode cX6_build 51 = .ok (.invokevirtual 141, 3) := by decide +kernel
theorem dX6_build_54 : decode cX6_build 54 = .ok (.aload_n 0, 1) := by decide +kernel
theorem dX6_build_55 : decode cX6_build 55 = .ok (.getfield 80, 3) := by decide +kernel
theorem dX6_build_58 : decode cX6_build 58 = .ok (.ifCond .ge 9, 3) := by decide +kernel
theorem dX6_build_61 : decode cX6_build 61 = .ok (.aload_n 0, 1) := by decide +kernel
theorem dX6_build_62 : decode cX6_build 62 = .ok (.iload_n 1, 1) := by decide +kernel
theorem dX6_build_63 : decode cX6_build 63 = .ok (.invokevirtual 130, 3) := by decide +kernel
theorem dX6_build_66 : decode cX6_build 66 = .ok (.pop, 1) := by decide +kernel
theorem dX6_build_67 : decode cX6_build 67 = .ok (.aload_n 0, 1) := by decide +kernel
theorem dX6_build_68 : decode cX6_build 68 = .ok (.getfield 80, 3) := by decide +kernel
theorem dX6_build_71 : decode cX6_build 71 = .ok (.ifCond .ge 9, 3) := by decide +kernel
theorem dX6_build_74 : decode cX6_build 74 = .ok (.aload_n 0, 1) := by decide +kernel
theorem dX6_build_75 : decode cX6_build 75 = .ok (.bipush 85, 2) := by decide +kernel
theorem dX6_build_77 : decode cX6_build 77 = .ok (.invokevirtual 141, 3) := by decide +kernel
theorem dX6_build_80 : decode cX6_build 80 = .ok (.aload_n 0, 1) := by decide +kernel
theorem dX6_build_81 : decode cX6_build 81 = .ok (.bipush 54, 2) := by decide +kernel
theorem dX6_build_83 : decode cX6_build 83 = .ok (.iload_n 1, 1) := by decide +kernel
theorem dX6_build_84 : decode cX6_build 84 = .ok (.iconst 0, 1) := by decide +kernel
theorem dX6_build_85 : decode cX6_build 85 = .ok (.invokevirtual 106, 3) := by decide +kernel
theorem dX6_build_88 : decode cX6_build 88 = .ok (.aload_n 0, 1) := by decide +kernel
theorem dX6_build_89 : decode cX6_build 89 = .ok (.getfield 96, 3) := by decide +kernel
theorem dX6_build_92 : decode cX6_build 92 = .ok (.ifCond .le 54, 3) := by decide +kernel
theorem dX6_build_95 : decode cX6_build 95 = .ok (.aload_n 0, 1) := by decide +kernel
theorem dX6_build_96 : decode cX6_build 96 = .ok (.getfield 80, 3) := by decide +kernel
theorem dX6_build_99 : decode cX6_build 99 = .ok (.ifCond .ge 47, 3) := by decide +kernel
theorem dX6_build_102 : decode cX6_build 102 = .ok (.aload_n 0, 1) := by decide +kernel
theorem dX6_build_103 : decode cX6_build 103 = .ok (.dup, 1) := by decide +kernel
theorem dX6_build_104 : decode cX6_build 104 = .ok (.getfield 96, 3) := by decide +kernel
theorem dX6_build_107 : decode cX6_build 107 = .ok (.iconst 1, 1) := by decide +kernel
theorem dX6_build_108 : decode cX6_build 108 = .ok (.isub, 1) := by decide +kernel
theorem dX6_build_109 : decode cX6_build 109 = .ok (.putfield 96, 3) := by decide +kernel
theorem dX6_build_112 : decode cX6_build 112 = .ok (.aload_n 0, 1) := by decide +kernel
theorem dX6_build_113 : decode cX6_build 113 = .ok (.aload_n 0, 1) := by decide +kernel
theorem dX6_build_114 : decode cX6_build 114 = .ok (.getfield 42, 3) := by decide +kernel
theorem dX6_build_117 : decode cX6_build 117 = .ok (.aload_n 0, 1) := by decide +kernel
theorem dX6_build_118 : decode cX6_build 118 = .ok (.getfield 96, 3) := by decide +kernel
theorem dX6_build_121 : decode cX6_build 121 = .ok (.iaload, 1) := by decide +kernel
theorem dX6_build_122 : decode cX6_build 122 = .ok (.aload_n 0, 1) := by decide +kernel
theorem dX6_build_123 : decode cX6_build 123 = .ok (.getfield 45, 3) := by decide +kernel
theorem dX6_build_126 : decode cX6_build 126 = .ok (.aload_n 0, 1) := by decide +kernel
theorem dX6_build_127 : decode cX6_build 127 = .ok (.getfield 96, 3) := by decide +kernel
theorem dX6_build_130 : decode cX6_build 130 = .ok (.iaload, 1) := by decide +kernel
theorem dX6_build_131 : decode cX6_build 131 = .ok (.aload_n 0, 1) := by decide +kernel
theorem dX6_build_132 : decode cX6_build 132 = .ok (.getfield 48, 3) := by decide +kernel
theorem dX6_build_135 : decode cX6_build 135 = .ok (.aload_n 0, 1) := by decide +kernel
theorem dX6_build_136 : decode cX6_build 136 = .ok (.getfield 96, 3) := by decide +kernel
theorem dX6_build_139 : decode cX6_build 139 = .ok (.iaload, 1) := by decide +kernel
theorem dX6_build_140 : decode cX6_build 140 = .ok (.invokevirtual 369, 3) := by decide +kernel
theorem dX6_build_143 : decode cX6_build 143 = .ok (.goto (-55), 3) := by decide +kernel
theorem dX6_build_146 : decode cX6_build 146 = .ok (.aload_n 0, 1) := by decide +kernel
theorem dX6_build_147 : decode cX6_build 147 = .ok (.iconst 0, 1) := by decide +kernel
theorem dX6_build_148 : decode cX6_build 148 = .ok (.putfield 72, 3) := by decide +kernel
theorem dX6_build_151 : decode cX6_build 151 = .ok (.aload_n 0, 1) := by decide +kernel
theorem dX6_build_152 : decode cX6_build 152 = .ok (.getfield 80, 3) := by decide +kernel
theorem dX6_build_155 : decode cX6_build 155 = .ok (.ifCond .lt 10, 3) := by decide +kernel
theorem dX6_build_158 : decode cX6_build 158 = .ok (.iconst (-1), 1) := by decide +kernel
theorem dX6_build_159 : decode cX6_build 159 = .ok (.aload_n 0, 1) := by decide +kernel
theorem dX6_build_160 : decode cX6_build 160 = .ok (.getfield 80, 3) := by decide +kernel
theorem dX6_build_163 : decode cX6_build 163 = .ok (.isub, 1) := by decide +kernel
theorem dX6_build_164 : decode cX6_build 164 = .ok (.ireturn, 1) := by decide +kernel
theorem dX6_build_165 : decode cX6_build 165 = .ok (.aload_n 0, 1) := by decide +kernel
theorem dX6_build_166 : decode cX6_build 166 = .ok (.iload_n 1, 1) := by decide +kernel
theorem dX6_build_167 : decode cX6_build 167 = .ok (.invokevirtual 372, 3) := by decide +kernel
theorem dX6_build_170 : decode cX6_build 170 = .ok (.aload_n 0, 1) := by decide +kernel
theorem dX6_build_171 : decode cX6_build 171 = .ok (.getfield 366, 3) := by decide +kernel
theorem dX6_build_174 : decode cX6_build 174 = .ok (.ireturn, 1) := by decide +kernel
theorem dX6_numberAll_0 : decode cX6_numberAll 0 = .ok (.iload_n 1, 1) := by decide +kernel
theorem dX6_numberAll_1 : decode cX6_numberAll 1 = .ok (.istore_n 2, 1) := by decide +kernel
theorem dX6_numberAll_2 : decode cX6_numberAll 2 = .ok (.iload_n 2, 1) := by decide +kernel
theorem dX6_numberAll_3 : decode cX6_numberAll 3 = .ok (.ifCond .lt 133, 3) := by decide +kernel
theorem dX6_numberAll_6 : decode cX6_numberAll 6 = .ok (.aload_n 0, 1) := by decide +kernel
theorem dX6_numberAll_7 : decode cX6_numberAll 7 = .ok (.getfield 33, 3) := by decide +kernel
theorem dX6_numberAll_10 : decode cX6_numberAll 10 = .ok (.iload_n 2, 1) := by decide +kernel
theorem dX6_numberAll_11 : decode cX6_numberAll 11 = .ok (.aload_n 0, 1) := by decide +kernel
theorem dX6_numberAll_12 : decode cX6_numberAll 12 = .ok (.getfield 366, 3) := by decide +kernel
theorem dX6_numberAll_15 : decode cX6_numberAll 15 = .ok (.iastore, 1) := by decide +kernel
theorem dX6_numberAll_16 : decode cX6_numberAll 16 = .ok (.aload_n 0, 1) := by decide +kernel
theorem dX6_numberAll_17 : decode cX6_numberAll 17 = .ok (.getfield 36, 3) := by decide +kernel
theorem dX6_numberAll_20 : decode cX6_numberAll 20 = .ok (.aload_n 0, 1) := by decide +kernel
theorem dX6_numberAll_21 : decode cX6_numberAll 21 = .ok (.getfield 366, 3) := by decide +kernel
theorem dX6_numberAll_24 : decode cX6_numberAll 24 = .ok (.iload_n 2, 1) := by decide +kernel
theorem dX6_numberAll_25 : decode cX6_numberAll 25 = .ok (.iastore, 1) := by decide +kernel
theorem dX6_numberAll_26 : decode cX6_numberAll 26 = .ok (.aload_n 0, 1) := by decide +kernel
theorem dX6_numberAll_27 : decode cX6_numberAll 27 = .ok (.dup, 1) := by decide +kernel
theorem dX6_numberAll_28 : decode cX6_numberAll 28 = .ok (.getfield 366, 3) := by decide +kernel
theorem dX6_numberAll_31 : decode cX6_numberAll 31 = .ok (.iconst 1, 1) := by decide +kernel
theorem dX6_numberAll_32 : decode cX6_numberAll 32 = .ok (.iadd, 1) := by decide +kernel
theorem dX6_numberAll_33 : decode cX6_numberAll 33 = .ok (.putfield 366, 3) := by decide +kernel
theorem dX6_numberAll_36 : decode cX6_numberAll 36 = .ok (.aload_n 0, 1) := by decide +kernel
theorem dX6_numberAll_37 : decode cX6_numberAll 37 = .ok (.getfield 39, 3) := by decide +kernel
theorem dX6_numberAll_40 : decode cX6_numberAll 40 = .ok (.iload_n 2, 1) := by decide +kernel
theorem dX6_numberAll_41 : decode cX6_numberAll 41 = .ok (.aload_n 0, 1) := by decide +kernel
theorem dX6_numberAll_42 : decode cX6_numberAll 42 = .ok (.getfield 366, 3) := by decide +kernel
theorem dX6_numberAll_45 : decode cX6_numberAll 45 = .ok (.iastore, 1) := by decide +kernel
theorem dX6_numberAll_46 : decode cX6_numberAll 46 = .ok (.aload_n 0, 1) := by decide +kernel
theorem dX6_numberAll_47 : decode cX6_numberAll 47 = .ok (.getfield 24, 3) := by decide +kernel
theorem dX6_numberAll_50 : decode cX6_numberAll 50 = .ok (.iload_n 2, 1) := by decide +kernel
theorem dX6_numberAll_51 : decode cX6_numberAll 51 = .ok (.iaload, 1) := by decide +kernel
theorem dX6_numberAll_52 : decode cX6_numberAll 52 = .ok (.ifCond .lt 13, 3) := by decide +kernel
theorem dX6_numberAll_55 : decode cX6_numberAll 55 = .ok (.aload_n 0, 1) := by decide +kernel
theorem dX6_numberAll_56 : decode cX6_numberAll 56 = .ok (.getfield 24, 3) := by decide +kernel
theorem dX6_numberAll_59 : decode cX6_numberAll 59 = .ok (.iload_n 2, 1) := by decide +kernel
theorem dX6_numberAll_60 : decode cX6_numberAll 60 = .ok (.iaload, 1) := by decide +kernel
theorem dX6_numberAll_61 : decode cX6_numberAll 61 = .ok (.istore_n 2, 1) := by decide +kernel
theorem dX6_numberAll_62 : decode cX6_numberAll 62 = .ok (.goto (-60), 3) := by decide +kernel
theorem dX6_numberAll_65 : decode cX6_numberAll 65 = .ok (.iload_n 2, 1) := by decide +kernel
theorem dX6_numberAll_66 : decode cX6_numberAll 66 = .ok (.ifCond .lt 39, 3) := by decide +kernel
theorem dX6_numberAll_69 : decode cX6_numberAll 69 = .ok (.aload_n 0, 1) := by decide +kernel
theorem dX6_numberAll_70 : decode cX6_numberAll 70 = .ok (.getfield 30, 3) := by decide +kernel
theorem dX6_numberAll_73 : decode cX6_numberAll 73 = .ok (.iload_n 2, 1) := by decide +kernel
theorem dX6_numberAll_74 : decode cX6_numberAll 74 = .ok (.iaload, 1) := by decide +kernel
theorem dX6_numberAll_75 : decode cX6_numberAll 75 = .ok (.ifCond .ge 30, 3) := by decide +kernel
theorem dX6_numberAll_78 : decode cX6_numberAll 78 = .ok (.aload_n 0, 1) := by decide +kernel
theorem dX6_numberAll_79 : decode cX6_numberAll 79 = .ok (.getfield 39, 3) := by decide +kernel
theorem dX6_numberAll_82 : decode cX6_numberAll 82 = .ok (.iload_n 2, 1) := by decide +kernel
theorem dX6_numberAll_83 : decode cX6_numberAll 83 = .ok (.aload_n 0, 1) := by decide +kernel
theorem dX6_numberAll_84 : decode cX6_numberAll 84 = .ok (.getfield 366, 3) := by decide +kernel
theorem dX6_numberAll_87 : decode cX6_numberAll 87 = .ok (.aload_n 0, 1) := by decide +kernel
theorem dX6_numberAll_88 : decode cX6_numberAll 88 = .ok (.getfield 33, 3) := by decide +kernel
theorem dX6_numberAll_91 : decode cX6_numberAll 91 = .ok (.iload_n 2, 1) := by decide +kernel
theorem dX6_numberAll_92 : decode cX6_numberAll 92 = .ok (.iaload, 1) := by decide +kernel
theorem dX6_numberAll_93 : decode cX6_numberAll 93 = .ok (.isub, 1) := by decide +kernel
theorem dX6_numberAll_94 : decode cX6_numberAll 94 = .ok (.iastore, 1) := by decide +kernel
theorem dX6_numberAll_95 : decode cX6_numberAll 95 = .ok (.aload_n 0, 1) := by decide +kernel
theorem dX6_numberAll_96 : decode cX6_numberAll 96 = .ok (.getfield 21, 3) := by decide +kernel
theorem dX6_numberAll_99 : decode cX6_numberAll 99 = .ok (.iload_n 2, 1) := by decide +kernel
theorem dX6_numberAll_100 : decode cX6_numberAll 100 = .ok (.iaload, 1) := by decide +kernel
theorem dX6_numberAll_101 : decode cX6_numberAll 101 = .ok (.istore_n 2, 1) := by decide +kernel
theorem dX6_numberAll_102 : decode cX6_numberAll 102 = .ok (.goto (-37), 3) := by decide +kernel
theorem dX6_numberAll_105 : decode cX6_numberAll 105 = .ok (.iload_n 2, 1) := by decide +kernel
theorem dX6_numberAll_106 : decode cX6_numberAll 106 = .ok (.ifCond .lt (-104), 3) := by decide +kernel
theorem dX6_numberAll_109 : decode cX6_numberAll 109 = .ok (.aload_n 0, 1) := by decide +kernel
theorem dX6_numberAll_110 : decode cX6_numberAll 110 = .ok (.getfield 39, 3) := by decide +kernel
theorem dX6_numberAll_113 : decode cX6_numberAll 113 = .ok (.iload_n 2, 1) := by decide +kernel
theorem dX6_numberAll_114 : decode cX6_numberAll 114 = .ok (.aload_n 0, 1) := by decide +kernel
theorem dX6_numberAll_115 : decode cX6_numberAll 115 = .ok (.getfield 366, 3) := by decide +kernel
theorem dX6_numberAll_118 : decode cX6_numberAll 118 = .ok (.aload_n 0, 1) := by decide +kernel
theorem dX6_numberAll_119 : decode cX6_numberAll 119 = .ok (.getfield 33, 3) := by decide +kernel
theorem dX6_numberAll_122 : decode cX6_numberAll 122 = .ok (.iload_n 2, 1) := by decide +kernel
theorem dX6_numberAll_123 : decode cX6_numberAll 123 = .ok (.iaload, 1) := by decide +kernel
theorem dX6_numberAll_124 : decode cX6_numberAll 124 = .ok (.isub, 1) := by decide +kernel
theorem dX6_numberAll_125 : decode cX6_numberAll 125 = .ok (.iastore, 1) := by decide +kernel
theorem dX6_numberAll_126 : decode cX6_numberAll 126 = .ok (.aload_n 0, 1) := by decide +kernel
theorem dX6_numberAll_127 : decode cX6_numberAll 127 = .ok (.getfield 30, 3) := by decide +kernel
theorem dX6_numberAll_130 : decode cX6_numberAll 130 = .ok (.iload_n 2, 1) := by decide +kernel
theorem dX6_numberAll_131 : decode cX6_numberAll 131 = .ok (.iaload, 1) := by decide +kernel
theorem dX6_numberAll_132 : decode cX6_numberAll 132 = .ok (.istore_n 2, 1) := by decide +kernel
theorem dX6_numberAll_133 : decode cX6_numberAll 133 = .ok (.goto (-131), 3) := by decide +kernel
theorem dX6_numberAll_136 : decode cX6_numberAll 136 = .ok (.return_, 1) := by decide +kernel
theorem dX6_nodes_0 : decode cX6_nodes 0 = .ok (.aload_n 0, 1) := by decide +kernel
theorem dX6_nodes_1 : decode cX6_nodes 1 = .ok (.iconst 0, 1) := by decide +kernel
theorem dX6_nodes_2 : decode cX6_nodes 2 = .ok (.putfield 64, 3) := by decide +kernel
theorem dX6_nodes_5 : decode cX6_nodes 5 = .ok (.aload_n 0, 1) := by decide +kernel
theorem dX6_nodes_6 : decode cX6_nodes 6 = .ok (.getfield 366, 3) := by decide +kernel
theorem dX6_nodes_9 : decode cX6_nodes 9 = .ok (.ireturn, 1) := by decide +kernel
theorem dX6_node_0 : decode cX6_node 0 = .ok (.aload_n 0, 1) := by decide +kernel
theorem dX6_node_1 : decode cX6_node 1 = .ok (.iconst 0, 1) := by decide +kernel
theorem dX6_node_2 : decode cX6_node 2 = .ok (.putfield 64, 3) := by decide +kernel
theorem dX6_node_5 : decode cX6_node 5 = .ok (.iload_n 1, 1) := by decide +kernel
theorem dX6_node_6 : decode cX6_node 6 = .ok (.ifCond .lt 20, 3) := by decide +kernel
theorem dX6_node_9 : decode cX6_node 9 = .ok (.iload_n 1, 1) := by decide +kernel
theorem dX6_node_10 : decode cX6_node 10 = .ok (.aload_n 0, 1) := by decide +kernel
theorem dX6_node_11 : decode cX6_node 11 = .ok (.getfield 366, 3) := by decide +kernel
theorem dX6_node_14 : decode cX6_node 14 = .ok (.if_icmp .ge 12, 3) := by decide +kernel
theorem dX6_node_17 : decode cX6_node 17 = .ok (.iload_n 2, 1) := by decide +kernel
theorem dX6_node_18 : decode cX6_node 18 = .ok (.ifCond .lt 8, 3) := by decide +kernel
theorem dX6_node_21 : decode cX6_node 21 = .ok (.iload_n 2, 1) := by decide +kernel
theorem dX6_node_22 : decode cX6_node 22 = .ok (.iconst 4, 1) := by decide +kernel
theorem dX6_node_23 : decode cX6_node 23 = .ok (.if_icmp .le 8, 3) := by decide +kernel
theorem dX6_node_26 : decode cX6_node 26 = .ok (.aload_n 0, 1) := by decide +kernel
theorem dX6_node_27 : decode cX6_node 27 = .ok (.invokevirtual 375, 3) := by decide +kernel
theorem dX6_node_30 : decode cX6_node 30 = .ok (.ireturn, 1) := by decide +kernel
theorem dX6_node_31 : decode cX6_node 31 = .ok (.aload_n 0, 1) := by decide +kernel
theorem dX6_node_32 : decode cX6_node 32 = .ok (.getfield 36, 3) := by decide +kernel
theorem dX6_node_35 : decode cX6_node 35 = .ok (.iload_n 1, 1) := by decide +kernel
theorem dX6_node_36 : decode cX6_node 36 = .ok (.iaload, 1) := by decide +kernel
theorem dX6_node_37 : decode cX6_node 37 = .ok (.istore_n 3, 1) := by decide +kernel
theorem dX6_node_38 : decode cX6_node 38 = .ok (.iload_n 2, 1) := by decide +kernel
theorem dX6_node_39 : decode cX6_node 39 = .ok (.iconst 2, 1) := by decide +kernel
theorem dX6_node_40 : decode cX6_node 40 = .ok (.if_icmp .ge 23, 3) := by decide +kernel
theorem dX6_node_43 : decode cX6_node 43 = .ok (.iload_n 2, 1) := by decide +kernel
theorem dX6_node_44 : decode cX6_node 44 = .ok (.ifCond .ne 12, 3) := by decide +kernel
theorem dX6_node_47 : decode cX6_node 47 = .ok (.aload_n 0, 1) := by decide +kernel
theorem dX6_node_48 : decode cX6_node 48 = .ok (.getfield 14, 3) := by decide +kernel
theorem dX6_node_51 : decode cX6_node 51 = .ok (.iload_n 3, 1) := by decide +kernel
theorem dX6_node_52 : decode cX6_node 52 = .ok (.iaload, 1) := by decide +kernel
theorem dX6_node_53 : decode cX6_node 53 = .ok (.goto 9, 3) := by decide +kernel
theorem dX6_node_56 : decode cX6_node 56 = .ok (.aload_n 0, 1) := by decide +kernel
theorem dX6_node_57 : decode cX6_node 57 = .ok (.getfield 18, 3) := by decide +kernel
theorem dX6_node_60 : decode cX6_node 60 = .ok (.iload_n 3, 1) := by decide +kernel
theorem dX6_node_61 : decode cX6_node 61 = .ok (.iaload, 1) := by decide +kernel
theorem dX6_node_62 : decode cX6_node 62 = .ok (.ireturn, 1) := by decide +kernel
theorem dX6_node_63 : decode cX6_node 63 = .ok (.iload_n 2, 1) := by decide +kernel
theorem dX6_node_64 : decode cX6_node 64 = .ok (.iconst 2, 1) := by decide +kernel
theorem dX6_node_65 : decode cX6_node 65 = .ok (.if_icmp .ne 10, 3) := by decide +kernel
theorem dX6_node_68 : decode cX6_node 68 = .ok (.aload_n 0, 1) := by decide +kernel
theorem dX6_node_69 : decode cX6_node 69 = .ok (.getfield 39, 3) := by decide +kernel
theorem dX6_node_72 : decode cX6_node 72 = .ok (.iload_n 3, 1) := by decide +kernel
theorem dX6_node_73 : decode cX6_node 73 = .ok (.iaload, 1) := by decide +kernel
theorem dX6_node_74 : decode cX6_node 74 = .ok (.ireturn, 1) := by decide +kernel
theorem dX6_node_75 : decode cX6_node 75 = .ok (.iload_n 2, 1) := by decide +kernel
theorem dX6_node_76 : decode cX6_node 76 = .ok (.iconst 4, 1) := by decide +kernel
theorem dX6_node_77 : decode cX6_node 77 = .ok (.if_icmp .ne 28, 3) := by decide +kernel
theorem dX6_node_80 : decode cX6_node 80 = .ok (.aload_n 0, 1) := by decide +kernel
theorem dX6_node_81 : decode cX6_node 81 = .ok (.getfield 21, 3) := by decide +kernel
theorem dX6_node_84 : decode cX6_node 84 = .ok (.iload_n 3, 1) := by decide +kernel
theorem dX6_node_85 : decode cX6_node 85 = .ok (.iaload, 1) := by decide +kernel
theorem dX6_node_86 : decode cX6_node 86 = .ok (.ifCond .ge 7, 3) := by decide +kernel
theorem dX6_node_89 : decode cX6_node 89 = .ok (.iconst (-1), 1) := by decide +kernel
theorem dX6_node_90 : decode cX6_node 90 = .ok (.goto 14, 3) := by decide +kernel
theorem dX6_node_93 : decode cX6_node 93 = .ok (.aload_n 0, 1) := by decide +kernel
theorem dX6_node_94 : decode cX6_node 94 = .ok (.getfield 33, 3) := by decide +kernel
theorem dX6_node_97 : decode cX6_node 97 = .ok (.aload_n 0, 1) := by decide +kernel
theorem dX6_node_98 : decode cX6_node 98 = .ok (.getfield 21, 3) := by decide +kernel
theorem dX6_node_101 : decode cX6_node 101 = .ok (.iload_n 3, 1) := by decide +kernel
theorem dX6_node_102 : decode cX6_node 102 = .ok (.iaload, 1) := by decide +kernel
theorem dX6_node_103 : decode cX6_node 103 = .ok (.iaload, 1) := by decide +kernel
theorem dX6_node_104 : decode cX6_node 104 = .ok (.ireturn, 1) := by decide +kernel
theorem dX6_node_105 : decode cX6_node 105 = .ok (.iconst 0, 1) := by decide +kernel
theorem dX6_node_106 : decode cX6_node 106 = .ok (.istore 4, 2) := by decide +kernel
theorem dX6_node_108 : decode cX6_node 108 = .ok (.aload_n 0, 1) := by decide +kernel
theorem dX6_node_109 : decode cX6_node 109 = .ok (.getfield 24, 3) := by decide +kernel
theorem dX6_node_112 : decode cX6_node 112 = .ok (.iload_n 3, 1) := by decide +kernel
theorem dX6_node_113 : decode cX6_node 113 = .ok (.iaload, 1) := by decide +kernel
theorem dX6_node_114 : decode cX6_node 114 = .ok (.istore 5, 2) := by decide +kernel
theorem dX6_node_116 : decode cX6_node 116 = .ok (.iload 5, 2) := by decide +kernel
theorem dX6_node_118 : decode cX6_node 118 = .ok (.ifCond .lt 18, 3) := by decide +kernel
theorem dX6_node_121 : decode cX6_node 121 = .ok (.iinc 4 1, 3) := by decide +kernel
theorem dX6_node_124 : decode cX6_node 124 = .ok (.aload_n 0, 1) := by decide +kernel
theorem dX6_node_125 : decode cX6_node 125 = .ok (.getfield 30, 3) := by decide +kernel
theorem dX6_node_128 : decode cX6_node 128 = .ok (.iload 5, 2) := by decide +kernel
theorem dX6_node_130 : decode cX6_node 130 = .ok (.iaload, 1) := by decide +kernel
theorem dX6_node_131 : decode cX6_node 131 = .ok (.istore 5, 2) := by decide +kernel
theorem dX6_node_133 : decode cX6_node 133 = .ok (.goto (-17), 3) := by decide +kernel
theorem dX6_node_136 : decode cX6_node 136 = .ok (.iload 4, 2) := by decide +kernel
theorem dX6_node_138 : decode cX6_node 138 = .ok (.ireturn, 1) := by decide +kernel
theorem dX6_child__0 : decode cX6_child_ 0 = .ok (.aload_n 0, 1) := by decide +kernel
theorem dX6_child__1 : decode cX6_child_ 1 = .ok (.iconst 0, 1) := by decide +kernel
theorem dX6_child__2 : decode cX6_child_ 2 = .ok (.putfield 64, 3) := by decide +kernel
theorem dX6_child__5 : decode cX6_child_ 5 = .ok (.iload_n 1, 1) := by decide +kernel
theorem dX6_child__6 : decode cX6_child_ 6 = .ok (.ifCond .lt 15, 3) := by decide +kernel
theorem dX6_child__9 : decode cX6_child_ 9 = .ok (.iload_n 1, 1) := by decide +kernel
theorem dX6_child__10 : decode cX6_child_ 10 = .ok (.aload_n 0, 1) := by decide +kernel
theorem dX6_child__11 : decode cX6_child_ 11 = .ok (.getfield 366, 3) := by decide +kernel
theorem dX6_child__14 : decode cX6_child_ 14 = .ok (.if_icmp .ge 7, 3) := by decide +kernel
theorem dX6_child__17 : decode cX6_child_ 17 = .ok (.iload_n 2, 1) := by decide +kernel
theorem dX6_child__18 : decode cX6_child_ 18 = .ok (.ifCond .ge 8, 3) := by decide +kernel
theorem dX6_child__21 : decode cX6_child_ 21 = .ok (.aload_n 0, 1) := by decide +kernel
theorem dX6_child__22 : decode cX6_child_ 22 = .ok (.invokevirtual 375, 3) := by decide +kernel
theorem dX6_child__25 : decode cX6_child_ 25 = .ok (.ireturn, 1) := by decide +kernel
theorem dX6_child__26 : decode cX6_child_ 26 = .ok (.aload_n 0, 1) := by decide +kernel
theorem dX6_child__27 : decode cX6_child_ 27 = .ok (.getfield 24, 3) := by decide +kernel
theorem dX6_child__30 : decode cX6_child_ 30 = .ok (.aload_n 0, 1) := by decide +kernel
theorem dX6_child__31 : decode cX6_child_ 31 = .ok (.getfield 36, 3) := by decide +kernel
theorem dX6_child__34 : decode cX6_child_ 34 = .ok (.iload_n 1, 1) := by decide +kernel
theorem dX6_child__35 : decode cX6_child_ 35 = .ok (.iaload, 1) := by decide +kernel
theorem dX6_child__36 : decode cX6_child_ 36 = .ok (.iaload, 1) := by decide +kernel
theorem dX6_child__37 : decode cX6_child_ 37 = .ok (.istore_n 3, 1) := by decide +kernel
theorem dX6_child__38 : decode cX6_child_ 38 = .ok (.iconst 0, 1) := by decide +kernel
theorem dX6_child__39 : decode cX6_child_ 39 = .ok (.istore 4, 2) := by decide +kernel
theorem dX6_child__41 : decode cX6_child_ 41 = .ok (.iload 4, 2) := by decide +kernel
theorem dX6_child__43 : decode cX6_child_ 43 = .ok (.iload_n 2, 1) := by decide +kernel
theorem dX6_child__44 : decode cX6_child_ 44 = .ok (.if_icmp .ge 20, 3) := by decide +kernel
theorem dX6_child__47 : decode cX6_child_ 47 = .ok (.iload_n 3, 1) := by decide +kernel
theorem dX6_child__48 : decode cX6_child_ 48 = .ok (.ifCond .lt 16, 3) := by decide +kernel
theorem dX6_child__51 : decode cX6_child_ 51 = .ok (.aload_n 0, 1) := by decide +kernel
theorem dX6_child__52 : decode cX6_child_ 52 = .ok (.getfield 30, 3) := by decide +kernel
theorem dX6_child__55 : decode cX6_child_ 55 = .ok (.iload_n 3, 1) := by decide +kernel
theorem dX6_child__56 : decode cX6_child_ 56 = .ok (.iaload, 1) := by decide +kernel
theorem dX6_child__57 : decode cX6_child_ 57 = .ok (.istore_n 3, 1) := by decide +kernel
theorem dX6_child__58 : decode cX6_child_ 58 = .ok (.iinc 4 1, 3) := by decide +kernel
theorem dX6_child__61 : decode cX6_child_ 61 = .ok (.goto (-20), 3) := by decide +kernel
theorem dX6_child__64 : decode cX6_child_ 64 = .ok (.iload_n 3, 1) := by decide +kernel
theorem dX6_child__65 : decode cX6_child_ 65 = .ok (.ifCond .ge 10, 3) := by decide +kernel
theorem dX6_child__68 : decode cX6_child_ 68 = .ok (.aload_n 0, 1) := by decide +kernel
theorem dX6_child__69 : decode cX6_child_ 69 = .ok (.invokevirtual 375, 3) := by decide +kernel
theorem dX6_child__72 : decode cX6_child_ 72 = .ok (.goto 9, 3) := by decide +kernel
theorem dX6_child__75 : decode cX6_child_ 75 = .ok (.aload_n 0, 1) := by decide +kernel
theorem dX6_child__76 : decode cX6_child_ 76 = .ok (.getfield 33, 3) := by decide +kernel
theorem dX6_child__79 : decode cX6_child_ 79 = .ok (.iload_n 3, 1) := by decide +kernel
theorem dX6_child__80 : decode cX6_child_ 80 = .ok (.iaload, 1) := by decide +kernel
theorem dX6_child__81 : decode cX6_child_ 81 = .ok (.ireturn, 1) := by decide +kernel
theorem dL_node_0 : decode cL_node 0 = .ok (.aload_n 3, 1) := by decide +kernel
theorem dL_node_1 : decode cL_node 1 = .ok (.iconst 0, 1) := by decide +kernel
theorem dL_node_2 : decode cL_node 2 = .ok (.aload_n 0, 1) := by decide +kernel
theorem dL_node_3 : decode cL_node 3 = .ok (.iload_n 1, 1) := by decide +kernel
theorem dL_node_4 : decode cL_node 4 = .ok (.iload_n 2, 1) := by decide +kernel
theorem dL_node_5 : decode cL_node 5 = .ok (.invokevirtual 7, 3) := by decide +kernel
theorem dL_node_8 : decode cL_node 8 = .ok (.i2l, 1) := by decide +kernel
theorem dL_node_9 : decode cL_node 9 = .ok (.lastore, 1) := by decide +kernel
theorem dL_node_10 : decode cL_node 10 = .ok (.goto 7, 3) := by decide +kernel
theorem dL_node_13 : decode cL_node 13 = .ok (.astore 4, 2) := by decide +kernel
theorem dL_node_15 : decode cL_node 15 = .ok (.iconst 1, 1) := by decide +kernel
theorem dL_node_16 : decode cL_node 16 = .ok (.ireturn, 1) := by decide +kernel
theorem dL_node_17 : decode cL_node 17 = .ok (.iconst 0, 1) := by decide +kernel
theorem dL_node_18 : decode cL_node 18 = .ok (.ireturn, 1) := by decide +kernel
theorem dL_child_0 : decode cL_child 0 = .ok (.aload_n 3, 1) := by decide +kernel
theorem dL_child_1 : decode cL_child 1 = .ok (.iconst 0, 1) := by decide +kernel
theorem dL_child_2 : decode cL_child 2 = .ok (.aload_n 0, 1) := by decide +kernel
theorem dL_child_3 : decode cL_child 3 = .ok (.iload_n 1, 1) := by decide +kernel
theorem dL_child_4 : decode cL_child 4 = .ok (.iload_n 2, 1) := by decide +kernel
theorem dL_child_5 : decode cL_child 5 = .ok (.invokevirtual 15, 3) := by decide +kernel
theorem dL_child_8 : decode cL_child 8 = .ok (.i2l, 1) := by decide +kernel
theorem dL_child_9 : decode cL_child 9 = .ok (.lastore, 1) := by decide +kernel
theorem dL_child_10 : decode cL_child 10 = .ok (.goto 7, 3) := by decide +kernel
theorem dL_child_13 : decode cL_child 13 = .ok (.astore 4, 2) := by decide +kernel
theorem dL_child_15 : decode cL_child 15 = .ok (.iconst 1, 1) := by decide +kernel
theorem dL_child_16 : decode cL_child 16 = .ok (.ireturn, 1) := by decide +kernel
theorem dL_child_17 : decode cL_child 17 = .ok (.iconst 0, 1) := by decide +kernel
theorem dL_child_18 : decode cL_child 18 = .ok (.ireturn, 1) := by decide +kernel
theorem dL_law_0 : decode code 0 = .ok (.new 8, 3) := by decide +kernel
theorem dL_law_3 : decode code 3 = .ok (.dup, 1) := by decide +kernel
theorem dL_law_4 : decode code 4 = .ok (.invokespecial 18, 3) := by decide +kernel
theorem dL_law_7 : decode code 7 = .ok (.astore_n 1, 1) := by decide +kernel
theorem dL_law_8 : decode code 8 = .ok (.new 19, 3) := by decide +kernel
theorem dL_law_11 : decode code 11 = .ok (.dup, 1) := by decide +kernel
theorem dL_law_12 : decode code 12 = .ok (.invokespecial 21, 3) := by decide +kernel
theorem dL_law_15 : decode code 15 = .ok (.astore_n 2, 1) := by decide +kernel
theorem dL_law_16 : decode code 16 = .ok (.iconst 1, 1) := by decide +kernel
theorem dL_law_17 : decode code 17 = .ok (.newarray .long, 2) := by decide +kernel
theorem dL_law_19 : decode code 19 = .ok (.astore_n 3, 1) := by decide +kernel
theorem dL_law_20 : decode code 20 = .ok (.iconst 0, 1) := by decide +kernel
theorem dL_law_21 : decode code 21 = .ok (.istore 4, 2) := by decide +kernel
theorem dL_law_23 : decode code 23 = .ok (.iload 4, 2) := by decide +kernel
theorem dL_law_25 : decode code 25 = .ok (.aload_n 0, 1) := by decide +kernel
theorem dL_law_26 : decode code 26 = .ok (.arraylength, 1) := by decide +kernel
theorem dL_law_27 : decode code 27 = .ok (.iconst 3, 1) := by decide +kernel
theorem dL_law_28 : decode code 28 = .ok (.isub, 1) := by decide +kernel
theorem dL_law_29 : decode code 29 = .ok (.if_icmp .gt 258, 3) := by decide +kernel
theorem dL_law_32 : decode code 32 = .ok (.aload_n 0, 1) := by decide +kernel
theorem dL_law_33 : decode code 33 = .ok (.iload 4, 2) := by decide +kernel
theorem dL_law_35 : decode code 35 = .ok (.iaload, 1) := by decide +kernel
theorem dL_law_36 : decode code 36 = .ok (.bipush 7, 2) := by decide +kernel
theorem dL_law_38 : decode code 38 = .ok (.iand, 1) := by decide +kernel
theorem dL_law_39 : decode code 39 = .ok (.tableswitch 242 0 6 #[41, 66, 123, 136, 149, 162, 202], 41) := by decide +kernel
theorem dL_law_80 : decode code 80 = .ok (.aload_n 1, 1) := by decide +kernel
theorem dL_law_81 : decode code 81 = .ok (.aload_n 0, 1) := by decide +kernel
theorem dL_law_82 : decode code 82 = .ok (.iload 4, 2) := by decide +kernel
theorem dL_law_84 : decode code 84 = .ok (.iconst 1, 1) := by decide +kernel
theorem dL_law_85 : decode code 85 = .ok (.iadd, 1) := by decide +kernel
theorem dL_law_86 : decode code 86 = .ok (.iaload, 1) := by decide +kernel
theorem dL_law_87 : decode code 87 = .ok (.invokevirtual 22, 3) := by decide +kernel
theorem dL_law_90 : decode code 90 = .ok (.pop, 1) := by decide +kernel
theorem dL_law_91 : decode code 91 = .ok (.aload_n 2, 1) := by decide +kernel
theorem dL_law_92 : decode code 92 = .ok (.aload_n 0, 1) := by decide +kernel
theorem dL_law_93 : decode code 93 = .ok (.iload 4, 2) := by decide +kernel
theorem dL_law_95 : decode code 95 = .ok (.iconst 1, 1) := by decide +kernel
theorem dL_law_96 : decode code 96 = .ok (.iadd, 1) := by decide +kernel
theorem dL_law_97 : decode code 97 = .ok (.iaload, 1) := by decide +kernel
theorem dL_law_98 : decode code 98 = .ok (.invokevirtual 26, 3) := by decide +kernel
theorem dL_law_101 : decode code 101 = .ok (.pop, 1) := by decide +kernel
theorem dL_law_102 : decode code 102 = .ok (.goto 179, 3) := by decide +kernel
theorem dL_law_105 : decode code 105 = .ok (.aload_n 1, 1) := by decide +kernel
theorem dL_law_106 : decode code 106 = .ok (.aload_n 0, 1) := by decide +kernel
theorem dL_law_107 : decode code 107 = .ok (.iload 4, 2) := by decide +kernel
theorem dL_law_109 : decode code 109 = .ok (.iconst 1, 1) := by decide +kernel
theorem dL_law_110 : decode code 110 = .ok (.iadd, 1) := by decide +kernel
theorem dL_law_111 : decode code 111 = .ok (.iaload, 1) := by decide +kernel
theorem dL_law_112 : decode code 112 = .ok (.i2l, 1) := by decide +kernel
theorem dL_law_113 : decode code 113 = .ok (.bipush 32, 2) := by decide +kernel
theorem dL_law_115 : decode code 115 = .ok (.lshl, 1) := by decide +kernel
theorem dL_law_116 : decode code 116 = .ok (.aload_n 0, 1) := by decide +kernel
theorem dL_law_117 : decode code 117 = .ok (.iload 4, 2) := by decide +kernel
theorem dL_law_119 : decode code 119 = .ok (.iconst 2, 1) := by decide +kernel
theorem dL_law_120 : decode code 120 = .ok (.iadd, 1) := by decide +kernel
theorem dL_law_121 : decode code 121 = .ok (.iaload, 1) := by decide +kernel
theorem dL_law_122 : decode code 122 = .ok (.i2l, 1) := by decide +kernel
theorem dL_law_123 : decode code 123 = .ok (.ldc2_w 27, 3) := by decide +kernel
theorem dL_law_126 : decode code 126 = .ok (.land, 1) := by decide +kernel
theorem dL_law_127 : decode code 127 = .ok (.lor, 1) := by decide +kernel
theorem dL_law_128 : decode code 128 = .ok (.invokevirtual 29, 3) := by decide +kernel
theorem dL_law_131 : decode code 131 = .ok (.pop, 1) := by decide +kernel
theorem dL_law_132 : decode code 132 = .ok (.aload_n 2, 1) := by decide +kernel
theorem dL_law_133 : decode code 133 = .ok (.aload_n 0, 1) := by decide +kernel
theorem dL_law_134 : decode code 134 = .ok (.iload 4, 2) := by decide +kernel
theorem dL_law_136 : decode code 136 = .ok (.iconst 1, 1) := by decide +kernel
theorem dL_law_137 : decode code 137 = .ok (.iadd, 1) := by decide +kernel
theorem dL_law_138 : decode code 138 = .ok (.iaload, 1) := by decide +kernel
theorem dL_law_139 : decode code 139 = .ok (.i2l, 1) := by decide +kernel
theorem dL_law_140 : decode code 140 = .ok (.bipush 32, 2) := by decide +kernel
theorem dL_law_142 : decode code 142 = .ok (.lshl, 1) := by decide +kernel
theorem dL_law_143 : decode code 143 = .ok (.aload_n 0, 1) := by decide +kernel
theorem dL_law_144 : decode code 144 = .ok (.iload 4, 2) := by decide +kernel
theorem dL_law_146 : decode code 146 = .ok (.iconst 2, 1) := by decide +kernel
theorem dL_law_147 : decode code 147 = .ok (.iadd, 1) := by decide +kernel
theorem dL_law_148 : decode code 148 = .ok (.iaload, 1) := by decide +kernel
theorem dL_law_149 : decode code 149 = .ok (.i2l, 1) := by decide +kernel
theorem dL_law_150 : decode code 150 = .ok (.ldc2_w 27, 3) := by decide +kernel
theorem dL_law_153 : decode code 153 = .ok (.land, 1) := by decide +kernel
theorem dL_law_154 : decode code 154 = .ok (.lor, 1) := by decide +kernel
theorem dL_law_155 : decode code 155 = .ok (.invokevirtual 33, 3) := by decide +kernel
theorem dL_law_158 : decode code 158 = .ok (.pop, 1) := by decide +kernel
theorem dL_law_159 : decode code 159 = .ok (.goto 122, 3) := by decide +kernel
theorem dL_law_162 : decode code 162 = .ok (.aload_n 1, 1) := by decide +kernel
theorem dL_law_163 : decode code 163 = .ok (.invokevirtual 34, 3) := by decide +kernel
theorem dL_law_166 : decode code 166 = .ok (.pop, 1) := by decide +kernel
theorem dL_law_167 : decode code 167 = .ok (.aload_n 2, 1) := by decide +kernel
theorem dL_law_168 : decode code 168 = .ok (.invokevirtual 38, 3) := by decide +kernel
theorem dL_law_171 : decode code 171 = .ok (.pop, 1) := by decide +kernel
theorem dL_law_172 : decode code 172 = .ok (.goto 109, 3) := by decide +kernel
theorem dL_law_175 : decode code 175 = .ok (.aload_n 1, 1) := by decide +kernel
theorem dL_law_176 : decode code 176 = .ok (.invokevirtual 39, 3) := by decide +kernel
theorem dL_law_179 : decode code 179 = .ok (.pop, 1) := by decide +kernel
theorem dL_law_180 : decode code 180 = .ok (.aload_n 2, 1) := by decide +kernel
theorem dL_law_181 : decode code 181 = .ok (.invokevirtual 42, 3) := by decide +kernel
theorem dL_law_184 : decode code 184 = .ok (.pop, 1) := by decide +kernel
theorem dL_law_185 : decode code 185 = .ok (.goto 96, 3) := by decide +kernel
theorem dL_law_188 : decode code 188 = .ok (.aload_n 1, 1) := by decide +kernel
theorem dL_law_189 : decode code 189 = .ok (.invokevirtual 43, 3) := by decide +kernel
theorem dL_law_192 : decode code 192 = .ok (.aload_n 2, 1) := by decide +kernel
theorem dL_law_193 : decode code 193 = .ok (.invokevirtual 46, 3) := by decide +kernel
theorem dL_law_196 : decode code 196 = .ok (.if_icmp .eq 85, 3) := by decide +kernel
theorem dL_law_199 : decode code 199 = .ok (.iconst 0, 1) := by decide +kernel
theorem dL_law_200 : decode code 200 = .ok (.ireturn, 1) := by decide +kernel
theorem dL_law_201 : decode code 201 = .ok (.aload_n 1, 1) := by decide +kernel
theorem dL_law_202 : decode code 202 = .ok (.aload_n 0, 1) := by decide +kernel
theorem dL_law_203 : decode code 203 = .ok (.iload 4, 2) := by decide +kernel
theorem dL_law_205 : decode code 205 = .ok (.iconst 1, 1) := by decide +kernel
theorem dL_law_206 : decode code 206 = .ok (.iadd, 1) := by decide +kernel
theorem dL_law_207 : decode code 207 = .ok (.iaload, 1) := by decide +kernel
theorem dL_law_208 : decode code 208 = .ok (.aload_n 0, 1) := by decide +kernel
theorem dL_law_209 : decode code 209 = .ok (.iload 4, 2) := by decide +kernel
theorem dL_law_211 : decode code 211 = .ok (.iconst 2, 1) := by decide +kernel
theorem dL_law_212 : decode code 212 = .ok (.iadd, 1) := by decide +kernel
theorem dL_law_213 : decode code 213 = .ok (.iaload, 1) := by decide +kernel
theorem dL_law_214 : decode code 214 = .ok (.aload_n 3, 1) := by decide +kernel
theorem dL_law_215 : decode code 215 = .ok (.invokestatic 47, 3) := by decide +kernel
theorem dL_law_218 : decode code 218 = .ok (.istore 5, 2) := by decide +kernel
theorem dL_law_220 : decode code 220 = .ok (.aload_n 2, 1) := by decide +kernel
theorem dL_law_221 : decode code 221 = .ok (.aload_n 0, 1) := by decide +kernel
theorem dL_law_222 : decode code 222 = .ok (.iload 4, 2) := by decide +kernel
theorem dL_law_224 : decode code 224 = .ok (.iconst 1, 1) := by decide +kernel
theorem dL_law_225 : decode code 225 = .ok (.iadd, 1) := by decide +kernel
theorem dL_law_226 : decode code 226 = .ok (.iaload, 1) := by decide +kernel
theorem dL_law_227 : decode code 227 = .ok (.aload_n 0, 1) := by decide +kernel
theorem dL_law_228 : decode code 228 = .ok (.iload 4, 2) := by decide +kernel
theorem dL_law_230 : decode code 230 = .ok (.iconst 2, 1) := by decide +kernel
theorem dL_law_231 : decode code 231 = .ok (.iadd, 1) := by decide +kernel
theorem dL_law_232 : decode code 232 = .ok (.iaload, 1) := by decide +kernel
theorem dL_law_233 : decode code 233 = .ok (.invokevirtual 52, 3) := by decide +kernel
theorem dL_law_236 : decode code 236 = .ok (.istore 6, 2) := by decide +kernel
theorem dL_law_238 : decode code 238 = .ok (.goto 43, 3) := by decide +kernel
theorem dL_law_241 : decode code 241 = .ok (.aload_n 1, 1) := by decide +kernel
theorem dL_law_242 : decode code 242 = .ok (.aload_n 0, 1) := by decide +kernel
theorem dL_law_243 : decode code 243 = .ok (.iload 4, 2) := by decide +kernel
theorem dL_law_245 : decode code 245 = .ok (.iconst 1, 1) := by decide +kernel
theorem dL_law_246 : decode code 246 = .ok (.iadd, 1) := by decide +kernel
theorem dL_law_247 : decode code 247 = .ok (.iaload, 1) := by decide +kernel
theorem dL_law_248 : decode code 248 = .ok (.aload_n 0, 1) := by decide +kernel
theorem dL_law_249 : decode code 249 = .ok (.iload 4, 2) := by decide +kernel
theorem dL_law_251 : decode code 251 = .ok (.iconst 2, 1) := by decide +kernel
theorem dL_law_252 : decode code 252 = .ok (.iadd, 1) := by decide +kernel
theorem dL_law_253 : decode code 253 = .ok (.iaload, 1) := by decide +kernel
theorem dL_law_254 : decode code 254 = .ok (.aload_n 3, 1) := by decide +kernel
theorem dL_law_255 : decode code 255 = .ok (.invokestatic 53, 3) := by decide +kernel
theorem dL_law_258 : decode code 258 = .ok (.istore 5, 2) := by decide +kernel
theorem dL_law_260 : decode code 260 = .ok (.aload_n 2, 1) := by decide +kernel
theorem dL_law_261 : decode code 261 = .ok (.aload_n 0, 1) := by decide +kernel
theorem dL_law_262 : decode code 262 = .ok (.iload 4, 2) := by decide +kernel
theorem dL_law_264 : decode code 264 = .ok (.iconst 1, 1) := by decide +kernel
theorem dL_law_265 : decode code 265 = .ok (.iadd, 1) := by decide +kernel
theorem dL_law_266 : decode code 266 = .ok (.iaload, 1) := by decide +kernel
theorem dL_law_267 : decode code 267 = .ok (.aload_n 0, 1) := by decide +kernel
theorem dL_law_268 : decode code 268 = .ok (.iload 4, 2) := by decide +kernel
theorem dL_law_270 : decode code 270 = .ok (.iconst 2, 1) := by decide +kernel
theorem dL_law_271 : decode code 271 = .ok (.iadd, 1) := by decide +kernel
theorem dL_law_272 : decode code 272 = .ok (.iaload, 1) := by decide +kernel
theorem dL_law_273 : decode code 273 = .ok (.invokevirtual 55, 3) := by decide +kernel
theorem dL_law_276 : decode code 276 = .ok (.istore 6, 2) := by decide +kernel
theorem dL_law_278 : decode code 278 = .ok (.goto 3, 3) := by decide +kernel
theorem dL_law_281 : decode code 281 = .ok (.iinc 4 3, 3) := by decide +kernel
theorem dL_law_284 : decode code 284 = .ok (.goto (-261), 3) := by decide +kernel
theorem dL_law_287 : decode code 287 = .ok (.iconst 1, 1) := by decide +kernel
theorem dL_law_288 : decode code 288 = .ok (.ireturn, 1) := by decide +kernel
